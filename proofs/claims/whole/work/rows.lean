section
-- ===== PART A: goes FIRST, ahead of the names: the tables' words, and 'selects' of the private methods out of them =====
/-- a private method of a class that the tables say can be made, by its rows of tables_1 -/
def lw_okq (q : MethodName × Nat) : Prop := (q.1.cls ≠ "java/lang/invoke/MethodHandle" ∧ q.1.cls ≠ "java/lang/invoke/VarHandle") ∧ Cond.instantiable q.1.cls q.2 ∈ tables_1 ∧ Cond.privateMethod q.1 ∈ tables_1 ∧ Cond.instanceMethod q.1 ∈ tables_1
theorem lw_p0 : lw_okq (⟨"BumpsChart$Chart", "putAt", "(II)V"⟩, 13) := ⟨⟨by decide +kernel, by decide +kernel⟩, List.mem_of_getElem? (i := 23) (by decide +kernel), List.mem_of_getElem? (i := 246) (by decide +kernel), List.mem_of_getElem? (i := 247) (by decide +kernel)⟩
theorem lw_p1 : lw_okq (⟨"BumpsChart$Chart", "notePlaces", "()V"⟩, 13) := ⟨⟨by decide +kernel, by decide +kernel⟩, List.mem_of_getElem? (i := 23) (by decide +kernel), List.mem_of_getElem? (i := 250) (by decide +kernel), List.mem_of_getElem? (i := 251) (by decide +kernel)⟩
theorem lw_p2 : lw_okq (⟨"BumpsChart$History", "moveOldestToEnd", "()V"⟩, 2) := ⟨⟨by decide +kernel, by decide +kernel⟩, List.mem_of_getElem? (i := 144) (by decide +kernel), List.mem_of_getElem? (i := 287) (by decide +kernel), List.mem_of_getElem? (i := 288) (by decide +kernel)⟩
theorem lw_p3 : lw_okq (⟨"BumpsChart", "outFlag", "(I)I"⟩, 4) := ⟨⟨by decide +kernel, by decide +kernel⟩, List.mem_of_getElem? (i := 15) (by decide +kernel), List.mem_of_getElem? (i := 367) (by decide +kernel), List.mem_of_getElem? (i := 368) (by decide +kernel)⟩
theorem lw_p4 : lw_okq (⟨"BumpsChart$Log", "countOf", "(LBumpsChart$Cells;I)I"⟩, 5) := ⟨⟨by decide +kernel, by decide +kernel⟩, List.mem_of_getElem? (i := 64) (by decide +kernel), List.mem_of_getElem? (i := 398) (by decide +kernel), List.mem_of_getElem? (i := 399) (by decide +kernel)⟩
theorem lw_p5 : lw_okq (⟨"BumpsChart$Chart", "neededBy", "(I)I"⟩, 13) := ⟨⟨by decide +kernel, by decide +kernel⟩, List.mem_of_getElem? (i := 23) (by decide +kernel), List.mem_of_getElem? (i := 458) (by decide +kernel), List.mem_of_getElem? (i := 459) (by decide +kernel)⟩
theorem lw_p6 : lw_okq (⟨"BumpsChart$Chart", "liesWithin", "(II)Z"⟩, 13) := ⟨⟨by decide +kernel, by decide +kernel⟩, List.mem_of_getElem? (i := 23) (by decide +kernel), List.mem_of_getElem? (i := 462) (by decide +kernel), List.mem_of_getElem? (i := 463) (by decide +kernel)⟩
theorem lw_p7 : lw_okq (⟨"BumpsChart$Chart", "exchange", "(II)V"⟩, 13) := ⟨⟨by decide +kernel, by decide +kernel⟩, List.mem_of_getElem? (i := 23) (by decide +kernel), List.mem_of_getElem? (i := 491) (by decide +kernel), List.mem_of_getElem? (i := 492) (by decide +kernel)⟩
theorem lw_p8 : lw_okq (⟨"BumpsChart$Chart", "endDay", "()V"⟩, 13) := ⟨⟨by decide +kernel, by decide +kernel⟩, List.mem_of_getElem? (i := 23) (by decide +kernel), List.mem_of_getElem? (i := 495) (by decide +kernel), List.mem_of_getElem? (i := 496) (by decide +kernel)⟩
theorem lw_p9 : lw_okq (⟨"BumpsChart$Forecast", "findNext", "(ID)Z"⟩, 7) := ⟨⟨by decide +kernel, by decide +kernel⟩, List.mem_of_getElem? (i := 161) (by decide +kernel), List.mem_of_getElem? (i := 525) (by decide +kernel), List.mem_of_getElem? (i := 526) (by decide +kernel)⟩
theorem lw_p10 : lw_okq (⟨"BumpsChart$Forecast", "add", "(IID)V"⟩, 7) := ⟨⟨by decide +kernel, by decide +kernel⟩, List.mem_of_getElem? (i := 161) (by decide +kernel), List.mem_of_getElem? (i := 529) (by decide +kernel), List.mem_of_getElem? (i := 530) (by decide +kernel)⟩
theorem lw_p11 : lw_okq (⟨"BumpsChart$Script", "readBump", "(I)Z"⟩, 9) := ⟨⟨by decide +kernel, by decide +kernel⟩, List.mem_of_getElem? (i := 195) (by decide +kernel), List.mem_of_getElem? (i := 610) (by decide +kernel), List.mem_of_getElem? (i := 611) (by decide +kernel)⟩
theorem lw_p12 : lw_okq (⟨"BumpsChart$Script", "digitsAt", "(I)I"⟩, 9) := ⟨⟨by decide +kernel, by decide +kernel⟩, List.mem_of_getElem? (i := 195) (by decide +kernel), List.mem_of_getElem? (i := 614) (by decide +kernel), List.mem_of_getElem? (i := 615) (by decide +kernel)⟩
theorem lw_p13 : lw_okq (⟨"BumpsChart$Script", "signAt", "(I)I"⟩, 9) := ⟨⟨by decide +kernel, by decide +kernel⟩, List.mem_of_getElem? (i := 195) (by decide +kernel), List.mem_of_getElem? (i := 618) (by decide +kernel), List.mem_of_getElem? (i := 619) (by decide +kernel)⟩
theorem lw_p14 : lw_okq (⟨"BumpsChart$Script", "numberAt", "(II)I"⟩, 9) := ⟨⟨by decide +kernel, by decide +kernel⟩, List.mem_of_getElem? (i := 195) (by decide +kernel), List.mem_of_getElem? (i := 623) (by decide +kernel), List.mem_of_getElem? (i := 624) (by decide +kernel)⟩
theorem lw_p15 : lw_okq (⟨"BumpsChartModel", "begins", "(III)V"⟩, 17) := ⟨⟨by decide +kernel, by decide +kernel⟩, List.mem_of_getElem? (i := 634) (by decide +kernel), List.mem_of_getElem? (i := 640) (by decide +kernel), List.mem_of_getElem? (i := 641) (by decide +kernel)⟩
def lw_privs_1 : List (MethodName × Nat) := [(⟨"BumpsChart$Chart", "putAt", "(II)V"⟩, 13), (⟨"BumpsChart$Chart", "notePlaces", "()V"⟩, 13), (⟨"BumpsChart$History", "moveOldestToEnd", "()V"⟩, 2), (⟨"BumpsChart", "outFlag", "(I)I"⟩, 4), (⟨"BumpsChart$Log", "countOf", "(LBumpsChart$Cells;I)I"⟩, 5), (⟨"BumpsChart$Chart", "neededBy", "(I)I"⟩, 13), (⟨"BumpsChart$Chart", "liesWithin", "(II)Z"⟩, 13), (⟨"BumpsChart$Chart", "exchange", "(II)V"⟩, 13), (⟨"BumpsChart$Chart", "endDay", "()V"⟩, 13), (⟨"BumpsChart$Forecast", "findNext", "(ID)Z"⟩, 7), (⟨"BumpsChart$Forecast", "add", "(IID)V"⟩, 7), (⟨"BumpsChart$Script", "readBump", "(I)Z"⟩, 9), (⟨"BumpsChart$Script", "digitsAt", "(I)I"⟩, 9), (⟨"BumpsChart$Script", "signAt", "(I)I"⟩, 9), (⟨"BumpsChart$Script", "numberAt", "(II)I"⟩, 9), (⟨"BumpsChartModel", "begins", "(III)V"⟩, 17)]
theorem lw_r1 : ∀ q ∈ lw_privs_1, lw_okq q := List.forall_mem_cons.mpr ⟨lw_p0, List.forall_mem_cons.mpr ⟨lw_p1, List.forall_mem_cons.mpr ⟨lw_p2, List.forall_mem_cons.mpr ⟨lw_p3, List.forall_mem_cons.mpr ⟨lw_p4, List.forall_mem_cons.mpr ⟨lw_p5, List.forall_mem_cons.mpr ⟨lw_p6, List.forall_mem_cons.mpr ⟨lw_p7, List.forall_mem_cons.mpr ⟨lw_p8, List.forall_mem_cons.mpr ⟨lw_p9, List.forall_mem_cons.mpr ⟨lw_p10, List.forall_mem_cons.mpr ⟨lw_p11, List.forall_mem_cons.mpr ⟨lw_p12, List.forall_mem_cons.mpr ⟨lw_p13, List.forall_mem_cons.mpr ⟨lw_p14, List.forall_mem_cons.mpr ⟨lw_p15, fun _ h => absurd h List.not_mem_nil⟩⟩⟩⟩⟩⟩⟩⟩⟩⟩⟩⟩⟩⟩⟩⟩
theorem lw_p16 : lw_okq (⟨"BumpsChartModel", "divisions", "()I"⟩, 17) := ⟨⟨by decide +kernel, by decide +kernel⟩, List.mem_of_getElem? (i := 634) (by decide +kernel), List.mem_of_getElem? (i := 644) (by decide +kernel), List.mem_of_getElem? (i := 645) (by decide +kernel)⟩
theorem lw_p17 : lw_okq (⟨"BumpsChartModel", "charts", "()V"⟩, 17) := ⟨⟨by decide +kernel, by decide +kernel⟩, List.mem_of_getElem? (i := 634) (by decide +kernel), List.mem_of_getElem? (i := 648) (by decide +kernel), List.mem_of_getElem? (i := 649) (by decide +kernel)⟩
theorem lw_p18 : lw_okq (⟨"BumpsChartModel", "records", "()V"⟩, 17) := ⟨⟨by decide +kernel, by decide +kernel⟩, List.mem_of_getElem? (i := 634) (by decide +kernel), List.mem_of_getElem? (i := 713) (by decide +kernel), List.mem_of_getElem? (i := 714) (by decide +kernel)⟩
theorem lw_p19 : lw_okq (⟨"BumpsChartModel", "isCrew", "(I)Z"⟩, 17) := ⟨⟨by decide +kernel, by decide +kernel⟩, List.mem_of_getElem? (i := 634) (by decide +kernel), List.mem_of_getElem? (i := 721) (by decide +kernel), List.mem_of_getElem? (i := 722) (by decide +kernel)⟩
theorem lw_p20 : lw_okq (⟨"BumpsChartModel", "lines", "()V"⟩, 17) := ⟨⟨by decide +kernel, by decide +kernel⟩, List.mem_of_getElem? (i := 634) (by decide +kernel), List.mem_of_getElem? (i := 733) (by decide +kernel), List.mem_of_getElem? (i := 734) (by decide +kernel)⟩
theorem lw_p21 : lw_okq (⟨"BumpsChartModel", "crewAt", "(I)I"⟩, 17) := ⟨⟨by decide +kernel, by decide +kernel⟩, List.mem_of_getElem? (i := 634) (by decide +kernel), List.mem_of_getElem? (i := 737) (by decide +kernel), List.mem_of_getElem? (i := 738) (by decide +kernel)⟩
theorem lw_p22 : lw_okq (⟨"BumpsChartModel", "numberOf", "(I)I"⟩, 17) := ⟨⟨by decide +kernel, by decide +kernel⟩, List.mem_of_getElem? (i := 634) (by decide +kernel), List.mem_of_getElem? (i := 741) (by decide +kernel), List.mem_of_getElem? (i := 742) (by decide +kernel)⟩
theorem lw_p23 : lw_okq (⟨"BumpsChartModel", "days", "(II)I"⟩, 17) := ⟨⟨by decide +kernel, by decide +kernel⟩, List.mem_of_getElem? (i := 634) (by decide +kernel), List.mem_of_getElem? (i := 749) (by decide +kernel), List.mem_of_getElem? (i := 750) (by decide +kernel)⟩
theorem lw_p24 : lw_okq (⟨"BumpsChartModel", "bumpsOf", "(II)I"⟩, 17) := ⟨⟨by decide +kernel, by decide +kernel⟩, List.mem_of_getElem? (i := 634) (by decide +kernel), List.mem_of_getElem? (i := 753) (by decide +kernel), List.mem_of_getElem? (i := 754) (by decide +kernel)⟩
theorem lw_p25 : lw_okq (⟨"BumpsChartModel", "refusal", "(II)I"⟩, 17) := ⟨⟨by decide +kernel, by decide +kernel⟩, List.mem_of_getElem? (i := 634) (by decide +kernel), List.mem_of_getElem? (i := 769) (by decide +kernel), List.mem_of_getElem? (i := 770) (by decide +kernel)⟩
theorem lw_p26 : lw_okq (⟨"BumpsChartModel", "isClear", "(II)Z"⟩, 17) := ⟨⟨by decide +kernel, by decide +kernel⟩, List.mem_of_getElem? (i := 634) (by decide +kernel), List.mem_of_getElem? (i := 773) (by decide +kernel), List.mem_of_getElem? (i := 774) (by decide +kernel)⟩
theorem lw_p27 : lw_okq (⟨"BumpsChartModel", "puts", "(II)I"⟩, 17) := ⟨⟨by decide +kernel, by decide +kernel⟩, List.mem_of_getElem? (i := 634) (by decide +kernel), List.mem_of_getElem? (i := 777) (by decide +kernel), List.mem_of_getElem? (i := 778) (by decide +kernel)⟩
theorem lw_p28 : lw_okq (⟨"BumpsChartModel", "needs", "(II)Z"⟩, 17) := ⟨⟨by decide +kernel, by decide +kernel⟩, List.mem_of_getElem? (i := 634) (by decide +kernel), List.mem_of_getElem? (i := 793) (by decide +kernel), List.mem_of_getElem? (i := 794) (by decide +kernel)⟩
theorem lw_p29 : lw_okq (⟨"BumpsChartModel", "finishes", "()I"⟩, 17) := ⟨⟨by decide +kernel, by decide +kernel⟩, List.mem_of_getElem? (i := 634) (by decide +kernel), List.mem_of_getElem? (i := 801) (by decide +kernel), List.mem_of_getElem? (i := 802) (by decide +kernel)⟩
theorem lw_p30 : lw_okq (⟨"BumpsChartModel", "foretells", "()V"⟩, 17) := ⟨⟨by decide +kernel, by decide +kernel⟩, List.mem_of_getElem? (i := 634) (by decide +kernel), List.mem_of_getElem? (i := 813) (by decide +kernel), List.mem_of_getElem? (i := 814) (by decide +kernel)⟩
theorem lw_p31 : lw_okq (⟨"BumpsChartModel", "whereIs", "(II)D"⟩, 17) := ⟨⟨by decide +kernel, by decide +kernel⟩, List.mem_of_getElem? (i := 634) (by decide +kernel), List.mem_of_getElem? (i := 835) (by decide +kernel), List.mem_of_getElem? (i := 836) (by decide +kernel)⟩
def lw_privs_2 : List (MethodName × Nat) := [(⟨"BumpsChartModel", "divisions", "()I"⟩, 17), (⟨"BumpsChartModel", "charts", "()V"⟩, 17), (⟨"BumpsChartModel", "records", "()V"⟩, 17), (⟨"BumpsChartModel", "isCrew", "(I)Z"⟩, 17), (⟨"BumpsChartModel", "lines", "()V"⟩, 17), (⟨"BumpsChartModel", "crewAt", "(I)I"⟩, 17), (⟨"BumpsChartModel", "numberOf", "(I)I"⟩, 17), (⟨"BumpsChartModel", "days", "(II)I"⟩, 17), (⟨"BumpsChartModel", "bumpsOf", "(II)I"⟩, 17), (⟨"BumpsChartModel", "refusal", "(II)I"⟩, 17), (⟨"BumpsChartModel", "isClear", "(II)Z"⟩, 17), (⟨"BumpsChartModel", "puts", "(II)I"⟩, 17), (⟨"BumpsChartModel", "needs", "(II)Z"⟩, 17), (⟨"BumpsChartModel", "finishes", "()I"⟩, 17), (⟨"BumpsChartModel", "foretells", "()V"⟩, 17), (⟨"BumpsChartModel", "whereIs", "(II)D"⟩, 17)]
theorem lw_r2 : ∀ q ∈ lw_privs_2, lw_okq q := List.forall_mem_cons.mpr ⟨lw_p16, List.forall_mem_cons.mpr ⟨lw_p17, List.forall_mem_cons.mpr ⟨lw_p18, List.forall_mem_cons.mpr ⟨lw_p19, List.forall_mem_cons.mpr ⟨lw_p20, List.forall_mem_cons.mpr ⟨lw_p21, List.forall_mem_cons.mpr ⟨lw_p22, List.forall_mem_cons.mpr ⟨lw_p23, List.forall_mem_cons.mpr ⟨lw_p24, List.forall_mem_cons.mpr ⟨lw_p25, List.forall_mem_cons.mpr ⟨lw_p26, List.forall_mem_cons.mpr ⟨lw_p27, List.forall_mem_cons.mpr ⟨lw_p28, List.forall_mem_cons.mpr ⟨lw_p29, List.forall_mem_cons.mpr ⟨lw_p30, List.forall_mem_cons.mpr ⟨lw_p31, fun _ h => absurd h List.not_mem_nil⟩⟩⟩⟩⟩⟩⟩⟩⟩⟩⟩⟩⟩⟩⟩⟩
theorem lw_p32 : lw_okq (⟨"BumpsChartModel", "isDay", "(I)Z"⟩, 17) := ⟨⟨by decide +kernel, by decide +kernel⟩, List.mem_of_getElem? (i := 634) (by decide +kernel), List.mem_of_getElem? (i := 847) (by decide +kernel), List.mem_of_getElem? (i := 848) (by decide +kernel)⟩
theorem lw_p33 : lw_okq (⟨"BumpsChartModel", "faulty", "()I"⟩, 17) := ⟨⟨by decide +kernel, by decide +kernel⟩, List.mem_of_getElem? (i := 634) (by decide +kernel), List.mem_of_getElem? (i := 871) (by decide +kernel), List.mem_of_getElem? (i := 872) (by decide +kernel)⟩
theorem lw_p34 : lw_okq (⟨"BumpsChartModel", "readsBump", "()V"⟩, 17) := ⟨⟨by decide +kernel, by decide +kernel⟩, List.mem_of_getElem? (i := 634) (by decide +kernel), List.mem_of_getElem? (i := 875) (by decide +kernel), List.mem_of_getElem? (i := 876) (by decide +kernel)⟩
theorem lw_p35 : lw_okq (⟨"BumpsChartModel", "number", "(C)I"⟩, 17) := ⟨⟨by decide +kernel, by decide +kernel⟩, List.mem_of_getElem? (i := 634) (by decide +kernel), List.mem_of_getElem? (i := 879) (by decide +kernel), List.mem_of_getElem? (i := 880) (by decide +kernel)⟩
def lw_privs_3 : List (MethodName × Nat) := [(⟨"BumpsChartModel", "isDay", "(I)Z"⟩, 17), (⟨"BumpsChartModel", "faulty", "()I"⟩, 17), (⟨"BumpsChartModel", "readsBump", "()V"⟩, 17), (⟨"BumpsChartModel", "number", "(C)I"⟩, 17)]
theorem lw_r3 : ∀ q ∈ lw_privs_3, lw_okq q := List.forall_mem_cons.mpr ⟨lw_p32, List.forall_mem_cons.mpr ⟨lw_p33, List.forall_mem_cons.mpr ⟨lw_p34, List.forall_mem_cons.mpr ⟨lw_p35, fun _ h => absurd h List.not_mem_nil⟩⟩⟩⟩
def lw_privs : List (MethodName × Nat) := lw_privs_1 ++ (lw_privs_2 ++ (lw_privs_3))
def lw_tbl : List Cond := k2_sels lw_privs ++ tables_1
theorem lw_privs_ok : ∀ q ∈ lw_privs, lw_okq q := by
  show ∀ q ∈ lw_privs_1 ++ (lw_privs_2 ++ (lw_privs_3)), lw_okq q
  exact List.forall_mem_append.mpr ⟨lw_r1, List.forall_mem_append.mpr ⟨lw_r2, lw_r3⟩⟩
/-- the streams that the claim lets the run draw from -/
abbrev lw_cs : List Choice := [Jvm.Choice.named "NaN.bits"]
theorem lw_bits : nanBits ∈ lw_cs := by first | decide | exact List.mem_cons_self | simp [lw_cs, nanBits]
end
section
def RX0 : String := "BumpsChart$Cells"
def TX0 : u_T := fun k => match k with
  | _ => ("BumpsChart$Cells", "cells", "[I", true)
def tyX0 : Nat → FieldType := fun k => match k with
  | _ => .array .int
abbrev wsX00 : List Cond := u_ws RX0 TX0 1
theorem nmX0 : ∀ a, a < 1 → ∀ b, b < 1 → a ≠ b → (TX0 a).2.1 ≠ (TX0 b).2.1 := by decide +kernel
theorem tyX0_ok : ∀ k, k < 1 → parseFieldDescriptor (TX0 k).2.2.1 = some (tyX0 k) := by decide +kernel
abbrev cX0_init : ByteArray := prog_2_method_1_code
def yX0_init : MethodName := ⟨RX0, "<init>", "(I)V"⟩
abbrev cX0_get : ByteArray := prog_2_method_2_code
def yX0_get : MethodName := ⟨RX0, "get", "(I)I"⟩
abbrev cX0_put : ByteArray := prog_2_method_3_code
def yX0_put : MethodName := ⟨RX0, "put", "(II)V"⟩
abbrev cX0_copyFrom : ByteArray := prog_2_method_4_code
def yX0_copyFrom : MethodName := ⟨RX0, "copyFrom", "(LBumpsChart$Cells;)V"⟩
def RX1 : String := "BumpsChart$Chart"
def TX1 : u_T := fun k => match k with
  | 0 => ("BumpsChart$Chart", "speeds", "LBumpsChart$Cells;", true)
  | 1 => ("BumpsChart$Chart", "places", "LBumpsChart$Cells;", true)
  | 2 => ("BumpsChart$Chart", "order", "LBumpsChart$Cells;", true)
  | 3 => ("BumpsChart$Chart", "race", "LBumpsChart$Race;", true)
  | 4 => ("BumpsChart$Chart", "log", "LBumpsChart$Log;", true)
  | 5 => ("BumpsChart$Chart", "crews", "I", false)
  | 6 => ("BumpsChart$Chart", "size", "I", false)
  | 7 => ("BumpsChart$Chart", "days", "I", false)
  | 8 => ("BumpsChart$Chart", "daysOver", "I", false)
  | 9 => ("BumpsChart$Chart", "division", "I", false)
  | 10 => ("BumpsChart$Chart", "gap", "I", false)
  | 11 => ("BumpsChart$Chart", "raceLength", "I", false)
  | _ => ("BumpsChart$Chart", "placesAfter", "LBumpsChart$Cells;", true)
def tyX1 : Nat → FieldType := fun k => match k with
  | 0 => .object "BumpsChart$Cells"
  | 1 => .object "BumpsChart$Cells"
  | 2 => .object "BumpsChart$Cells"
  | 3 => .object "BumpsChart$Race"
  | 4 => .object "BumpsChart$Log"
  | 5 => .int
  | 6 => .int
  | 7 => .int
  | 8 => .int
  | 9 => .int
  | 10 => .int
  | 11 => .int
  | _ => .object "BumpsChart$Cells"
abbrev wsX10 : List Cond := u_ws RX1 TX1 13
theorem nmX1 : ∀ a, a < 13 → ∀ b, b < 13 → a ≠ b → (TX1 a).2.1 ≠ (TX1 b).2.1 := by decide +kernel
theorem tyX1_ok : ∀ k, k < 13 → parseFieldDescriptor (TX1 k).2.2.1 = some (tyX1 k) := by decide +kernel
abbrev cX1_init : ByteArray := prog_3_method_1_code
def yX1_init : MethodName := ⟨RX1, "<init>", "()V"⟩
abbrev cX1_startAnew : ByteArray := prog_3_method_2_code
def yX1_startAnew : MethodName := ⟨RX1, "startAnew", "(III)V"⟩
abbrev cX1_hasCrew : ByteArray := prog_3_method_3_code
def yX1_hasCrew : MethodName := ⟨RX1, "hasCrew", "(I)Z"⟩
abbrev cX1_hasDay : ByteArray := prog_3_method_4_code
def yX1_hasDay : MethodName := ⟨RX1, "hasDay", "(I)Z"⟩
abbrev cX1_hasRace : ByteArray := prog_3_method_5_code
def yX1_hasRace : MethodName := ⟨RX1, "hasRace", "()Z"⟩
abbrev cX1_divisions : ByteArray := prog_3_method_6_code
def yX1_divisions : MethodName := ⟨RX1, "divisions", "()I"⟩
abbrev cX1_divisionOf : ByteArray := prog_3_method_7_code
def yX1_divisionOf : MethodName := ⟨RX1, "divisionOf", "(I)I"⟩
abbrev cX1_putAt : ByteArray := prog_3_method_8_code
def yX1_putAt : MethodName := ⟨RX1, "putAt", "(II)V"⟩
abbrev cX1_starters : ByteArray := prog_3_method_9_code
def yX1_starters : MethodName := ⟨RX1, "starters", "()I"⟩
abbrev cX1_starterAt : ByteArray := prog_3_method_10_code
def yX1_starterAt : MethodName := ⟨RX1, "starterAt", "(I)I"⟩
abbrev cX1_startNumber : ByteArray := prog_3_method_11_code
def yX1_startNumber : MethodName := ⟨RX1, "startNumber", "(I)I"⟩
abbrev cX1_isStarter : ByteArray := prog_3_method_12_code
def yX1_isStarter : MethodName := ⟨RX1, "isStarter", "(I)Z"⟩
abbrev cX1_reasonAgainst : ByteArray := prog_3_method_13_code
def yX1_reasonAgainst : MethodName := ⟨RX1, "reasonAgainst", "(LBumpsChart$Race;II)I"⟩
abbrev cX1_span : ByteArray := prog_3_method_14_code
def yX1_span : MethodName := ⟨RX1, "span", "(I)I"⟩
abbrev cX1_withThoseThatNeed : ByteArray := prog_3_method_15_code
def yX1_withThoseThatNeed : MethodName := ⟨RX1, "withThoseThatNeed", "(I)I"⟩
abbrev cX1_neededBy : ByteArray := prog_3_method_16_code
def yX1_neededBy : MethodName := ⟨RX1, "neededBy", "(I)I"⟩
abbrev cX1_liesWithin : ByteArray := prog_3_method_17_code
def yX1_liesWithin : MethodName := ⟨RX1, "liesWithin", "(II)Z"⟩
abbrev cX1_endRace : ByteArray := prog_3_method_18_code
def yX1_endRace : MethodName := ⟨RX1, "endRace", "()I"⟩
abbrev cX1_exchange : ByteArray := prog_3_method_19_code
def yX1_exchange : MethodName := ⟨RX1, "exchange", "(II)V"⟩
abbrev cX1_endDay : ByteArray := prog_3_method_20_code
def yX1_endDay : MethodName := ⟨RX1, "endDay", "()V"⟩
abbrev cX1_position : ByteArray := prog_3_method_21_code
def yX1_position : MethodName := ⟨RX1, "position", "(II)D"⟩
abbrev cX1_notePlaces : ByteArray := prog_3_method_22_code
def yX1_notePlaces : MethodName := ⟨RX1, "notePlaces", "()V"⟩
abbrev cX1_placeAfter : ByteArray := prog_3_method_23_code
def yX1_placeAfter : MethodName := ⟨RX1, "placeAfter", "(II)I"⟩
abbrev cX1_daysRisen : ByteArray := prog_3_method_24_code
def yX1_daysRisen : MethodName := ⟨RX1, "daysRisen", "(I)I"⟩
abbrev cX1_daysFallen : ByteArray := prog_3_method_25_code
def yX1_daysFallen : MethodName := ⟨RX1, "daysFallen", "(I)I"⟩
abbrev cX1_award : ByteArray := prog_3_method_26_code
def yX1_award : MethodName := ⟨RX1, "award", "(I)I"⟩
abbrev cX1_bestRiser : ByteArray := prog_3_method_27_code
def yX1_bestRiser : MethodName := ⟨RX1, "bestRiser", "()I"⟩
abbrev cX1_copyFrom : ByteArray := prog_3_method_28_code
def yX1_copyFrom : MethodName := ⟨RX1, "copyFrom", "(LBumpsChart$Chart;)V"⟩
def RX2 : String := "BumpsChart$Forecast"
def TX2 : u_T := fun k => match k with
  | 0 => ("BumpsChart$Forecast", "ups", "LBumpsChart$Cells;", true)
  | 1 => ("BumpsChart$Forecast", "downs", "LBumpsChart$Cells;", true)
  | 2 => ("BumpsChart$Forecast", "found", "I", false)
  | 3 => ("BumpsChart$Forecast", "times", "[D", true)
  | 4 => ("BumpsChart$Forecast", "speeds", "LBumpsChart$Cells;", true)
  | 5 => ("BumpsChart$Forecast", "outs", "LBumpsChart$Cells;", true)
  | _ => ("BumpsChart$Forecast", "starters", "I", false)
def tyX2 : Nat → FieldType := fun k => match k with
  | 0 => .object "BumpsChart$Cells"
  | 1 => .object "BumpsChart$Cells"
  | 2 => .int
  | 3 => .array .double
  | 4 => .object "BumpsChart$Cells"
  | 5 => .object "BumpsChart$Cells"
  | _ => .int
abbrev wsX20 : List Cond := u_ws RX2 TX2 7
theorem nmX2 : ∀ a, a < 7 → ∀ b, b < 7 → a ≠ b → (TX2 a).2.1 ≠ (TX2 b).2.1 := by decide +kernel
theorem tyX2_ok : ∀ k, k < 7 → parseFieldDescriptor (TX2 k).2.2.1 = some (tyX2 k) := by decide +kernel
abbrev cX2_init : ByteArray := prog_4_method_1_code
def yX2_init : MethodName := ⟨RX2, "<init>", "()V"⟩
abbrev cX2_foretell : ByteArray := prog_4_method_2_code
def yX2_foretell : MethodName := ⟨RX2, "foretell", "(LBumpsChart$Chart;)V"⟩
abbrev cX2_foretellWith : ByteArray := prog_4_method_3_code
def yX2_foretellWith : MethodName := ⟨RX2, "foretellWith", "(LBumpsChart$Chart;II)V"⟩
abbrev cX2_findNext : ByteArray := prog_4_method_4_code
def yX2_findNext : MethodName := ⟨RX2, "findNext", "(ID)Z"⟩
abbrev cX2_add : ByteArray := prog_4_method_5_code
def yX2_add : MethodName := ⟨RX2, "add", "(IID)V"⟩
abbrev cX2_timeOf : ByteArray := prog_4_method_6_code
def yX2_timeOf : MethodName := ⟨RX2, "timeOf", "(I)D"⟩
abbrev cX2_hasUp : ByteArray := prog_4_method_7_code
def yX2_hasUp : MethodName := ⟨RX2, "hasUp", "(I)Z"⟩
def RX3 : String := "BumpsChart$History"
def TX3 : u_T := fun k => match k with
  | 0 => ("BumpsChart$History", "past", "[LBumpsChart$Chart;", true)
  | _ => ("BumpsChart$History", "kept", "I", false)
def tyX3 : Nat → FieldType := fun k => match k with
  | 0 => .array (.object "BumpsChart$Chart")
  | _ => .int
abbrev wsX30 : List Cond := u_ws RX3 TX3 2
theorem nmX3 : ∀ a, a < 2 → ∀ b, b < 2 → a ≠ b → (TX3 a).2.1 ≠ (TX3 b).2.1 := by decide +kernel
theorem tyX3_ok : ∀ k, k < 2 → parseFieldDescriptor (TX3 k).2.2.1 = some (tyX3 k) := by decide +kernel
abbrev cX3_init : ByteArray := prog_5_method_1_code
def yX3_init : MethodName := ⟨RX3, "<init>", "()V"⟩
abbrev cX3_keep : ByteArray := prog_5_method_2_code
def yX3_keep : MethodName := ⟨RX3, "keep", "(LBumpsChart$Chart;)V"⟩
abbrev cX3_moveOldestToEnd : ByteArray := prog_5_method_3_code
def yX3_moveOldestToEnd : MethodName := ⟨RX3, "moveOldestToEnd", "()V"⟩
abbrev cX3_latest : ByteArray := prog_5_method_4_code
def yX3_latest : MethodName := ⟨RX3, "latest", "()LBumpsChart$Chart;"⟩
abbrev cX3_dropLatest : ByteArray := prog_5_method_5_code
def yX3_dropLatest : MethodName := ⟨RX3, "dropLatest", "()V"⟩
def RX4 : String := "BumpsChart$Log"
def TX4 : u_T := fun k => match k with
  | 0 => ("BumpsChart$Log", "ofDay", "LBumpsChart$Cells;", true)
  | 1 => ("BumpsChart$Log", "ups", "LBumpsChart$Cells;", true)
  | 2 => ("BumpsChart$Log", "downs", "LBumpsChart$Cells;", true)
  | 3 => ("BumpsChart$Log", "spans", "LBumpsChart$Cells;", true)
  | _ => ("BumpsChart$Log", "logged", "I", false)
def tyX4 : Nat → FieldType := fun k => match k with
  | 0 => .object "BumpsChart$Cells"
  | 1 => .object "BumpsChart$Cells"
  | 2 => .object "BumpsChart$Cells"
  | 3 => .object "BumpsChart$Cells"
  | _ => .int
abbrev wsX40 : List Cond := u_ws RX4 TX4 5
theorem nmX4 : ∀ a, a < 5 → ∀ b, b < 5 → a ≠ b → (TX4 a).2.1 ≠ (TX4 b).2.1 := by decide +kernel
theorem tyX4_ok : ∀ k, k < 5 → parseFieldDescriptor (TX4 k).2.2.1 = some (tyX4 k) := by decide +kernel
abbrev cX4_init : ByteArray := prog_6_method_1_code
def yX4_init : MethodName := ⟨RX4, "<init>", "()V"⟩
abbrev cX4_empty : ByteArray := prog_6_method_2_code
def yX4_empty : MethodName := ⟨RX4, "empty", "()V"⟩
abbrev cX4_add : ByteArray := prog_6_method_3_code
def yX4_add : MethodName := ⟨RX4, "add", "(IIII)V"⟩
abbrev cX4_madeBy : ByteArray := prog_6_method_4_code
def yX4_madeBy : MethodName := ⟨RX4, "madeBy", "(I)I"⟩
abbrev cX4_madeOn : ByteArray := prog_6_method_5_code
def yX4_madeOn : MethodName := ⟨RX4, "madeOn", "(I)I"⟩
abbrev cX4_countOf : ByteArray := prog_6_method_6_code
def yX4_countOf : MethodName := ⟨RX4, "countOf", "(LBumpsChart$Cells;I)I"⟩
abbrev cX4_follow : ByteArray := prog_6_method_7_code
def yX4_follow : MethodName := ⟨RX4, "follow", "(II)I"⟩
abbrev cX4_copyFrom : ByteArray := prog_6_method_8_code
def yX4_copyFrom : MethodName := ⟨RX4, "copyFrom", "(LBumpsChart$Log;)V"⟩
def RX5 : String := "BumpsChart$Race"
def TX5 : u_T := fun k => match k with
  | 0 => ("BumpsChart$Race", "ups", "LBumpsChart$Cells;", true)
  | 1 => ("BumpsChart$Race", "downs", "LBumpsChart$Cells;", true)
  | _ => ("BumpsChart$Race", "made", "I", false)
def tyX5 : Nat → FieldType := fun k => match k with
  | 0 => .object "BumpsChart$Cells"
  | 1 => .object "BumpsChart$Cells"
  | _ => .int
abbrev wsX50 : List Cond := u_ws RX5 TX5 3
theorem nmX5 : ∀ a, a < 3 → ∀ b, b < 3 → a ≠ b → (TX5 a).2.1 ≠ (TX5 b).2.1 := by decide +kernel
theorem tyX5_ok : ∀ k, k < 3 → parseFieldDescriptor (TX5 k).2.2.1 = some (tyX5 k) := by decide +kernel
abbrev cX5_init : ByteArray := prog_7_method_1_code
def yX5_init : MethodName := ⟨RX5, "<init>", "()V"⟩
abbrev cX5_has : ByteArray := prog_7_method_2_code
def yX5_has : MethodName := ⟨RX5, "has", "(I)Z"⟩
abbrev cX5_add : ByteArray := prog_7_method_3_code
def yX5_add : MethodName := ⟨RX5, "add", "(II)V"⟩
abbrev cX5_isOut : ByteArray := prog_7_method_4_code
def yX5_isOut : MethodName := ⟨RX5, "isOut", "(I)Z"⟩
abbrev cX5_takeBack : ByteArray := prog_7_method_5_code
def yX5_takeBack : MethodName := ⟨RX5, "takeBack", "(I)V"⟩
abbrev cX5_copyFrom : ByteArray := prog_7_method_6_code
def yX5_copyFrom : MethodName := ⟨RX5, "copyFrom", "(LBumpsChart$Race;)V"⟩
def RX6 : String := "BumpsChart$Script"
def TX6 : u_T := fun k => match k with
  | 0 => ("BumpsChart$Script", "length", "I", false)
  | 1 => ("BumpsChart$Script", "reason", "I", false)
  | 2 => ("BumpsChart$Script", "faultAt", "I", false)
  | 3 => ("BumpsChart$Script", "bumps", "I", false)
  | 4 => ("BumpsChart$Script", "trial", "LBumpsChart$Race;", true)
  | 5 => ("BumpsChart$Script", "signs", "LBumpsChart$Cells;", true)
  | 6 => ("BumpsChart$Script", "up", "I", false)
  | 7 => ("BumpsChart$Script", "down", "I", false)
  | _ => ("BumpsChart$Script", "next", "I", false)
def tyX6 : Nat → FieldType := fun k => match k with
  | 0 => .int
  | 1 => .int
  | 2 => .int
  | 3 => .int
  | 4 => .object "BumpsChart$Race"
  | 5 => .object "BumpsChart$Cells"
  | 6 => .int
  | 7 => .int
  | _ => .int
abbrev wsX60 : List Cond := u_ws RX6 TX6 9
theorem nmX6 : ∀ a, a < 9 → ∀ b, b < 9 → a ≠ b → (TX6 a).2.1 ≠ (TX6 b).2.1 := by decide +kernel
theorem tyX6_ok : ∀ k, k < 9 → parseFieldDescriptor (TX6 k).2.2.1 = some (tyX6 k) := by decide +kernel
abbrev cX6_init : ByteArray := prog_8_method_1_code
def yX6_init : MethodName := ⟨RX6, "<init>", "()V"⟩
abbrev cX6_append : ByteArray := prog_8_method_2_code
def yX6_append : MethodName := ⟨RX6, "append", "(I)V"⟩
abbrev cX6_check : ByteArray := prog_8_method_3_code
def yX6_check : MethodName := ⟨RX6, "check", "(LBumpsChart$Chart;)V"⟩
abbrev cX6_readBump : ByteArray := prog_8_method_4_code
def yX6_readBump : MethodName := ⟨RX6, "readBump", "(I)Z"⟩
abbrev cX6_digitsAt : ByteArray := prog_8_method_5_code
def yX6_digitsAt : MethodName := ⟨RX6, "digitsAt", "(I)I"⟩
abbrev cX6_numberAt : ByteArray := prog_8_method_6_code
def yX6_numberAt : MethodName := ⟨RX6, "numberAt", "(II)I"⟩
abbrev cX6_signAt : ByteArray := prog_8_method_7_code
def yX6_signAt : MethodName := ⟨RX6, "signAt", "(I)I"⟩
def RX7 : String := "BumpsChart"
def TX7 : u_T := fun k => match k with
  | 0 => ("BumpsChart", "now", "LBumpsChart$Chart;", true)
  | 1 => ("BumpsChart", "history", "LBumpsChart$History;", true)
  | 2 => ("BumpsChart", "forecast", "LBumpsChart$Forecast;", true)
  | _ => ("BumpsChart", "script", "LBumpsChart$Script;", true)
def tyX7 : Nat → FieldType := fun k => match k with
  | 0 => .object "BumpsChart$Chart"
  | 1 => .object "BumpsChart$History"
  | 2 => .object "BumpsChart$Forecast"
  | _ => .object "BumpsChart$Script"
abbrev wsX70 : List Cond := u_ws RX7 TX7 4
theorem nmX7 : ∀ a, a < 4 → ∀ b, b < 4 → a ≠ b → (TX7 a).2.1 ≠ (TX7 b).2.1 := by decide +kernel
theorem tyX7_ok : ∀ k, k < 4 → parseFieldDescriptor (TX7 k).2.2.1 = some (tyX7 k) := by decide +kernel
abbrev cX7_init : ByteArray := prog_1_method_1_code
def yX7_init : MethodName := ⟨RX7, "<init>", "()V"⟩
abbrev cX7_begin : ByteArray := prog_1_method_2_code
def yX7_begin : MethodName := ⟨RX7, "begin", "(III)I"⟩
abbrev cX7_setSpeed : ByteArray := prog_1_method_3_code
def yX7_setSpeed : MethodName := ⟨RX7, "setSpeed", "(II)I"⟩
abbrev cX7_set : ByteArray := prog_1_method_4_code
def yX7_set : MethodName := ⟨RX7, "set", "(II)I"⟩
abbrev cX7_count : ByteArray := prog_1_method_5_code
def yX7_count : MethodName := ⟨RX7, "count", "(I)I"⟩
abbrev cX7_crew : ByteArray := prog_1_method_6_code
def yX7_crew : MethodName := ⟨RX7, "crew", "(II)I"⟩
abbrev cX7_outFlag : ByteArray := prog_1_method_7_code
def yX7_outFlag : MethodName := ⟨RX7, "outFlag", "(I)I"⟩
abbrev cX7_at : ByteArray := prog_1_method_8_code
def yX7_at : MethodName := ⟨RX7, "at", "(I)I"⟩
abbrev cX7_starter : ByteArray := prog_1_method_9_code
def yX7_starter : MethodName := ⟨RX7, "starter", "(I)I"⟩
abbrev cX7_bump : ByteArray := prog_1_method_10_code
def yX7_bump : MethodName := ⟨RX7, "bump", "(II)I"⟩
abbrev cX7_why : ByteArray := prog_1_method_11_code
def yX7_why : MethodName := ⟨RX7, "why", "(II)I"⟩
abbrev cX7_bumped : ByteArray := prog_1_method_12_code
def yX7_bumped : MethodName := ⟨RX7, "bumped", "(II)I"⟩
abbrev cX7_rerow : ByteArray := prog_1_method_13_code
def yX7_rerow : MethodName := ⟨RX7, "rerow", "(I)I"⟩
abbrev cX7_finish : ByteArray := prog_1_method_14_code
def yX7_finish : MethodName := ⟨RX7, "finish", "()I"⟩
abbrev cX7_undo : ByteArray := prog_1_method_15_code
def yX7_undo : MethodName := ⟨RX7, "undo", "()I"⟩
abbrev cX7_foretold : ByteArray := prog_1_method_16_code
def yX7_foretold : MethodName := ⟨RX7, "foretold", "(II)I"⟩
abbrev cX7_row : ByteArray := prog_1_method_17_code
def yX7_row : MethodName := ⟨RX7, "row", "()I"⟩
abbrev cX7_distanceBits : ByteArray := prog_1_method_18_code
def yX7_distanceBits : MethodName := ⟨RX7, "distanceBits", "(II)I"⟩
abbrev cX7_speedFor : ByteArray := prog_1_method_19_code
def yX7_speedFor : MethodName := ⟨RX7, "speedFor", "(I)I"⟩
abbrev cX7_floatBits : ByteArray := prog_1_method_20_code
def yX7_floatBits : MethodName := ⟨RX7, "floatBits", "(F)I"⟩
abbrev cX7_place : ByteArray := prog_1_method_21_code
def yX7_place : MethodName := ⟨RX7, "place", "(II)I"⟩
abbrev cX7_again : ByteArray := prog_1_method_22_code
def yX7_again : MethodName := ⟨RX7, "again", "(II)I"⟩
abbrev cX7_bestRise : ByteArray := prog_1_method_23_code
def yX7_bestRise : MethodName := ⟨RX7, "bestRise", "()I"⟩
abbrev cX7_type : ByteArray := prog_1_method_24_code
def yX7_type : MethodName := ⟨RX7, "type", "(I)I"⟩
abbrev cX7_clearText : ByteArray := prog_1_method_25_code
def yX7_clearText : MethodName := ⟨RX7, "clearText", "()I"⟩
abbrev cX7_fault : ByteArray := prog_1_method_26_code
def yX7_fault : MethodName := ⟨RX7, "fault", "(I)I"⟩
abbrev cX7_enter : ByteArray := prog_1_method_27_code
def yX7_enter : MethodName := ⟨RX7, "enter", "()I"⟩
def RX8 : String := "BumpsChartModel"
def TX8 : u_T := fun k => match k with
  | 0 => ("BumpsChartModel", "d", "[I", true)
  | 1 => ("BumpsChartModel", "was", "[I", true)
  | 2 => ("BumpsChartModel", "states", "I", false)
  | 3 => ("BumpsChartModel", "text", "[C", true)
  | 4 => ("BumpsChartModel", "typed", "I", false)
  | 5 => ("BumpsChartModel", "at", "I", false)
  | 6 => ("BumpsChartModel", "first", "I", false)
  | 7 => ("BumpsChartModel", "second", "I", false)
  | 8 => ("BumpsChartModel", "reason", "I", false)
  | 9 => ("BumpsChartModel", "starter", "[I", true)
  | 10 => ("BumpsChartModel", "starters", "I", false)
  | 11 => ("BumpsChartModel", "isOut", "[Z", true)
  | 12 => ("BumpsChartModel", "hunter", "[I", true)
  | 13 => ("BumpsChartModel", "prey", "[I", true)
  | 14 => ("BumpsChartModel", "when", "[D", true)
  | 15 => ("BumpsChartModel", "foretold", "I", false)
  | _ => ("BumpsChartModel", "places", "[I", true)
def tyX8 : Nat → FieldType := fun k => match k with
  | 0 => .array .int
  | 1 => .array .int
  | 2 => .int
  | 3 => .array .char
  | 4 => .int
  | 5 => .int
  | 6 => .int
  | 7 => .int
  | 8 => .int
  | 9 => .array .int
  | 10 => .int
  | 11 => .array .boolean
  | 12 => .array .int
  | 13 => .array .int
  | 14 => .array .double
  | 15 => .int
  | _ => .array .int
abbrev wsX80 : List Cond := u_ws RX8 TX8 17
theorem nmX8 : ∀ a, a < 17 → ∀ b, b < 17 → a ≠ b → (TX8 a).2.1 ≠ (TX8 b).2.1 := by decide +kernel
theorem tyX8_ok : ∀ k, k < 17 → parseFieldDescriptor (TX8 k).2.2.1 = some (tyX8 k) := by decide +kernel
abbrev cX8_init : ByteArray := prog_10_method_1_code
def yX8_init : MethodName := ⟨RX8, "<init>", "()V"⟩
abbrev cX8_in : ByteArray := prog_10_method_2_code
def yX8_in : MethodName := ⟨RX8, "in", "(III)Z"⟩
abbrev cX8_isCrew : ByteArray := prog_10_method_3_code
def yX8_isCrew : MethodName := ⟨RX8, "isCrew", "(I)Z"⟩
abbrev cX8_divisions : ByteArray := prog_10_method_4_code
def yX8_divisions : MethodName := ⟨RX8, "divisions", "()I"⟩
abbrev cX8_records : ByteArray := prog_10_method_5_code
def yX8_records : MethodName := ⟨RX8, "records", "()V"⟩
abbrev cX8_charts : ByteArray := prog_10_method_6_code
def yX8_charts : MethodName := ⟨RX8, "charts", "()V"⟩
abbrev cX8_begins : ByteArray := prog_10_method_7_code
def yX8_begins : MethodName := ⟨RX8, "begins", "(III)V"⟩
abbrev cX8_crewAt : ByteArray := prog_10_method_8_code
def yX8_crewAt : MethodName := ⟨RX8, "crewAt", "(I)I"⟩
abbrev cX8_lines : ByteArray := prog_10_method_9_code
def yX8_lines : MethodName := ⟨RX8, "lines", "()V"⟩
abbrev cX8_numberOf : ByteArray := prog_10_method_10_code
def yX8_numberOf : MethodName := ⟨RX8, "numberOf", "(I)I"⟩
abbrev cX8_isClear : ByteArray := prog_10_method_11_code
def yX8_isClear : MethodName := ⟨RX8, "isClear", "(II)Z"⟩
abbrev cX8_refusal : ByteArray := prog_10_method_12_code
def yX8_refusal : MethodName := ⟨RX8, "refusal", "(II)I"⟩
abbrev cX8_puts : ByteArray := prog_10_method_13_code
def yX8_puts : MethodName := ⟨RX8, "puts", "(II)I"⟩
abbrev cX8_finishes : ByteArray := prog_10_method_14_code
def yX8_finishes : MethodName := ⟨RX8, "finishes", "()I"⟩
abbrev cX8_begin : ByteArray := prog_10_method_15_code
def yX8_begin : MethodName := ⟨RX8, "begin", "(III)I"⟩
abbrev cX8_setSpeed : ByteArray := prog_10_method_16_code
def yX8_setSpeed : MethodName := ⟨RX8, "setSpeed", "(II)I"⟩
abbrev cX8_set : ByteArray := prog_10_method_17_code
def yX8_set : MethodName := ⟨RX8, "set", "(II)I"⟩
abbrev cX8_count : ByteArray := prog_10_method_18_code
def yX8_count : MethodName := ⟨RX8, "count", "(I)I"⟩
abbrev cX8_days : ByteArray := prog_10_method_19_code
def yX8_days : MethodName := ⟨RX8, "days", "(II)I"⟩
abbrev cX8_bumpsOf : ByteArray := prog_10_method_20_code
def yX8_bumpsOf : MethodName := ⟨RX8, "bumpsOf", "(II)I"⟩
abbrev cX8_crew : ByteArray := prog_10_method_21_code
def yX8_crew : MethodName := ⟨RX8, "crew", "(II)I"⟩
abbrev cX8_at : ByteArray := prog_10_method_22_code
def yX8_at : MethodName := ⟨RX8, "at", "(I)I"⟩
abbrev cX8_starter : ByteArray := prog_10_method_23_code
def yX8_starter : MethodName := ⟨RX8, "starter", "(I)I"⟩
abbrev cX8_bump : ByteArray := prog_10_method_24_code
def yX8_bump : MethodName := ⟨RX8, "bump", "(II)I"⟩
abbrev cX8_why : ByteArray := prog_10_method_25_code
def yX8_why : MethodName := ⟨RX8, "why", "(II)I"⟩
abbrev cX8_bumped : ByteArray := prog_10_method_26_code
def yX8_bumped : MethodName := ⟨RX8, "bumped", "(II)I"⟩
abbrev cX8_needs : ByteArray := prog_10_method_27_code
def yX8_needs : MethodName := ⟨RX8, "needs", "(II)Z"⟩
abbrev cX8_rerow : ByteArray := prog_10_method_28_code
def yX8_rerow : MethodName := ⟨RX8, "rerow", "(I)I"⟩
abbrev cX8_finish : ByteArray := prog_10_method_29_code
def yX8_finish : MethodName := ⟨RX8, "finish", "()I"⟩
abbrev cX8_undo : ByteArray := prog_10_method_30_code
def yX8_undo : MethodName := ⟨RX8, "undo", "()I"⟩
abbrev cX8_foretells : ByteArray := prog_10_method_31_code
def yX8_foretells : MethodName := ⟨RX8, "foretells", "()V"⟩
abbrev cX8_foretold : ByteArray := prog_10_method_32_code
def yX8_foretold : MethodName := ⟨RX8, "foretold", "(II)I"⟩
abbrev cX8_row : ByteArray := prog_10_method_33_code
def yX8_row : MethodName := ⟨RX8, "row", "()I"⟩
abbrev cX8_whereIs : ByteArray := prog_10_method_34_code
def yX8_whereIs : MethodName := ⟨RX8, "whereIs", "(II)D"⟩
abbrev cX8_distanceBits : ByteArray := prog_10_method_35_code
def yX8_distanceBits : MethodName := ⟨RX8, "distanceBits", "(II)I"⟩
abbrev cX8_speedFor : ByteArray := prog_10_method_36_code
def yX8_speedFor : MethodName := ⟨RX8, "speedFor", "(I)I"⟩
abbrev cX8_isDay : ByteArray := prog_10_method_37_code
def yX8_isDay : MethodName := ⟨RX8, "isDay", "(I)Z"⟩
abbrev cX8_place : ByteArray := prog_10_method_38_code
def yX8_place : MethodName := ⟨RX8, "place", "(II)I"⟩
abbrev cX8_again : ByteArray := prog_10_method_39_code
def yX8_again : MethodName := ⟨RX8, "again", "(II)I"⟩
abbrev cX8_bestRise : ByteArray := prog_10_method_40_code
def yX8_bestRise : MethodName := ⟨RX8, "bestRise", "()I"⟩
abbrev cX8_type : ByteArray := prog_10_method_41_code
def yX8_type : MethodName := ⟨RX8, "type", "(I)I"⟩
abbrev cX8_clearText : ByteArray := prog_10_method_42_code
def yX8_clearText : MethodName := ⟨RX8, "clearText", "()I"⟩
abbrev cX8_number : ByteArray := prog_10_method_43_code
def yX8_number : MethodName := ⟨RX8, "number", "(C)I"⟩
abbrev cX8_readsBump : ByteArray := prog_10_method_44_code
def yX8_readsBump : MethodName := ⟨RX8, "readsBump", "()V"⟩
abbrev cX8_faulty : ByteArray := prog_10_method_45_code
def yX8_faulty : MethodName := ⟨RX8, "faulty", "()I"⟩
abbrev cX8_fault : ByteArray := prog_10_method_46_code
def yX8_fault : MethodName := ⟨RX8, "fault", "(I)I"⟩
abbrev cX8_enter : ByteArray := prog_10_method_47_code
def yX8_enter : MethodName := ⟨RX8, "enter", "()I"⟩
def RJxf58ca : String := "java/lang/Float"
def TJxf58ca : u_T := fun k => match k with
  | _ => ("", "", "", false)
def tyJxf58ca : Nat → FieldType := fun k => match k with
  | _ => .int
abbrev cJxf58ca_isNaN_12338 : ByteArray := prog_11_method_6_code
def yJxf58ca_isNaN_12338 : MethodName := ⟨RJxf58ca, "isNaN", "(F)Z"⟩
abbrev cJxf58ca_floatToIntBits_5c35a : ByteArray := prog_11_method_24_code
def yJxf58ca_floatToIntBits_5c35a : MethodName := ⟨RJxf58ca, "floatToIntBits", "(F)I"⟩
def RJ6 : String := "java/lang/Integer"
def TJ6 : u_T := fun k => match k with
  | _ => ("", "", "", false)
def tyJ6 : Nat → FieldType := fun k => match k with
  | _ => .int
abbrev cJ6_bitCount_0f7a4 : ByteArray := prog_12_method_49_code
def yJ6_bitCount_0f7a4 : MethodName := ⟨RJ6, "bitCount", "(I)I"⟩
def RJ9 : String := "java/lang/Math"
def TJ9 : u_T := fun k => match k with
  | _ => ("", "", "", false)
def tyJ9 : Nat → FieldType := fun k => match k with
  | _ => .int
abbrev cJ9_min_7cf53 : ByteArray := prog_13_method_69_code
def yJ9_min_7cf53 : MethodName := ⟨RJ9, "min", "(II)I"⟩
def RJ10 : String := "java/lang/System"
def TJ10 : u_T := fun k => match k with
  | _ => ("", "", "", false)
def tyJ10 : Nat → FieldType := fun k => match k with
  | _ => .int
def RL : String := "BumpsChartLaw"
abbrev cL_law : ByteArray := code
def yL_law : MethodName := ⟨RL, "law", "([I)Z"⟩
abbrev vwCl : List vw_C := [(RX0, TX0, 1), (RX1, TX1, 13), (RX2, TX2, 7), (RX3, TX3, 2), (RX4, TX4, 5), (RX5, TX5, 3), (RX6, TX6, 9), (RX7, TX7, 4), (RX8, TX8, 17)]
end
section
def zc0 : List (Nat × Instr × Nat × Nat × Nat) := [(0, .aload_n 0, 1, 0, 0), (1, .invokespecial 1, 3, 1002, 0), (4, .aload_n 0, 1, 0, 0), (5, .iload_n 1, 1, 0, 0), (6, .ifCond .ge 7, 3, 13, 0), (9, .iconst 0, 1, 0, 0), (10, .goto 4, 3, 14, 0), (13, .iload_n 1, 1, 0, 0), (14, .newarray .int, 2, 0, 0), (16, .putfield 7, 3, 0, 0), (19, .return_, 1, 0, 0)]
def zc1 : List (Nat × Instr × Nat × Nat × Nat) := [(0, .iload_n 1, 1, 0, 0), (1, .ifCond .lt 21, 3, 22, 0), (4, .iload_n 1, 1, 0, 0), (5, .aload_n 0, 1, 0, 0), (6, .getfield 7, 3, 0, 0), (9, .arraylength, 1, 0, 0), (10, .if_icmp .ge 12, 3, 22, 0), (13, .aload_n 0, 1, 0, 0), (14, .getfield 7, 3, 0, 0), (17, .iload_n 1, 1, 0, 0), (18, .iaload, 1, 0, 0), (19, .goto 4, 3, 23, 0), (22, .iconst 0, 1, 0, 0), (23, .ireturn, 1, 0, 0)]
def zc2 : List (Nat × Instr × Nat × Nat × Nat) := [(0, .iload_n 1, 1, 0, 0), (1, .ifCond .lt 19, 3, 20, 0), (4, .iload_n 1, 1, 0, 0), (5, .aload_n 0, 1, 0, 0), (6, .getfield 7, 3, 0, 0), (9, .arraylength, 1, 0, 0), (10, .if_icmp .ge 10, 3, 20, 0), (13, .aload_n 0, 1, 0, 0), (14, .getfield 7, 3, 0, 0), (17, .iload_n 1, 1, 0, 0), (18, .iload_n 2, 1, 0, 0), (19, .iastore, 1, 0, 0), (20, .return_, 1, 0, 0)]
def zc3 : List (Nat × Instr × Nat × Nat × Nat) := [(0, .aload_n 1, 1, 0, 0), (1, .getfield 7, 3, 0, 0), (4, .iconst 0, 1, 0, 0), (5, .aload_n 0, 1, 0, 0), (6, .getfield 7, 3, 0, 0), (9, .iconst 0, 1, 0, 0), (10, .aload_n 1, 1, 0, 0), (11, .getfield 7, 3, 0, 0), (14, .arraylength, 1, 0, 0), (15, .aload_n 0, 1, 0, 0), (16, .getfield 7, 3, 0, 0), (19, .arraylength, 1, 0, 0), (20, .invokestatic 13, 3, 142, 2), (23, .invokestatic 19, 3, 1000, 5), (26, .return_, 1, 0, 0)]
def zc4 : List (Nat × Instr × Nat × Nat × Nat) := [(0, .aload_n 0, 1, 0, 0), (1, .invokespecial 3, 3, 1002, 0), (4, .aload_n 0, 1, 0, 0), (5, .new 9, 3, 0, 0), (8, .dup, 1, 0, 0), (9, .bipush 24, 2, 0, 0), (11, .invokespecial 11, 3, 0, 1), (14, .putfield 14, 3, 1, 0), (17, .aload_n 0, 1, 0, 0), (18, .new 9, 3, 0, 0), (21, .dup, 1, 0, 0), (22, .bipush 24, 2, 0, 0), (24, .invokespecial 11, 3, 0, 1), (27, .putfield 20, 3, 1, 1), (30, .aload_n 0, 1, 0, 0), (31, .new 9, 3, 0, 0), (34, .dup, 1, 0, 0), (35, .bipush 24, 2, 0, 0), (37, .invokespecial 11, 3, 0, 1), (40, .putfield 23, 3, 1, 2), (43, .aload_n 0, 1, 0, 0), (44, .new 26, 3, 5, 0), (47, .dup, 1, 0, 0), (48, .invokespecial 28, 3, 52, 0), (51, .putfield 29, 3, 1, 3), (54, .aload_n 0, 1, 0, 0), (55, .new 33, 3, 4, 0), (58, .dup, 1, 0, 0), (59, .invokespecial 35, 3, 44, 0), (62, .putfield 36, 3, 1, 4), (65, .aload_n 0, 1, 0, 0), (66, .iconst (-1), 1, 0, 0), (67, .putfield 40, 3, 1, 9), (70, .aload_n 0, 1, 0, 0), (71, .sipush 1500, 3, 0, 0), (74, .putfield 44, 3, 1, 10), (77, .aload_n 0, 1, 0, 0), (78, .sipush 300, 3, 0, 0), (81, .putfield 47, 3, 1, 11), (84, .aload_n 0, 1, 0, 0), (85, .new 9, 3, 0, 0), (88, .dup, 1, 0, 0), (89, .sipush 168, 3, 0, 0), (92, .invokespecial 11, 3, 0, 1), (95, .putfield 50, 3, 1, 12), (98, .return_, 1, 0, 0)]
def zc5 : List (Nat × Instr × Nat × Nat × Nat) := [(0, .aload_n 0, 1, 0, 0), (1, .iload_n 1, 1, 0, 0), (2, .putfield 53, 3, 1, 5), (5, .aload_n 0, 1, 0, 0), (6, .iload_n 2, 1, 0, 0), (7, .putfield 56, 3, 1, 6), (10, .aload_n 0, 1, 0, 0), (11, .iload_n 3, 1, 0, 0), (12, .putfield 59, 3, 1, 7), (15, .aload_n 0, 1, 0, 0), (16, .iconst 0, 1, 0, 0), (17, .putfield 62, 3, 1, 8), (20, .iconst 0, 1, 0, 0), (21, .istore 4, 2, 0, 0), (23, .iload 4, 2, 0, 0), (25, .aload_n 0, 1, 0, 0), (26, .getfield 53, 3, 1, 5), (29, .if_icmp .ge 29, 3, 58, 0), (32, .aload_n 0, 1, 0, 0), (33, .getfield 14, 3, 1, 0), (36, .iload 4, 2, 0, 0), (38, .sipush 400, 3, 0, 0), (41, .invokevirtual 65, 3, 2, 2), (44, .aload_n 0, 1, 0, 0), (45, .iload 4, 2, 0, 0), (47, .iload 4, 2, 0, 0), (49, .invokevirtual 69, 3, 11, 2), (52, .iinc 4 1, 3, 0, 0), (55, .goto (-32), 3, 23, 0), (58, .aload_n 0, 1, 0, 0), (59, .invokevirtual 72, 3, 25, 0), (62, .aload_n 0, 1, 0, 0), (63, .getfield 29, 3, 1, 3), (66, .iconst 0, 1, 0, 0), (67, .putfield 75, 3, 5, 2), (70, .aload_n 0, 1, 0, 0), (71, .getfield 36, 3, 1, 4), (74, .invokevirtual 78, 3, 45, 0), (77, .aload_n 0, 1, 0, 0), (78, .aload_n 0, 1, 0, 0), (79, .invokevirtual 81, 3, 9, 0), (82, .iconst 1, 1, 0, 0), (83, .isub, 1, 0, 0), (84, .putfield 40, 3, 1, 9), (87, .return_, 1, 0, 0)]
def zc6 : List (Nat × Instr × Nat × Nat × Nat) := [(0, .iload_n 1, 1, 0, 0), (1, .ifCond .lt 15, 3, 16, 0), (4, .iload_n 1, 1, 0, 0), (5, .aload_n 0, 1, 0, 0), (6, .getfield 53, 3, 1, 5), (9, .if_icmp .ge 7, 3, 16, 0), (12, .iconst 1, 1, 0, 0), (13, .goto 4, 3, 17, 0), (16, .iconst 0, 1, 0, 0), (17, .ireturn, 1, 0, 0)]
def zc7 : List (Nat × Instr × Nat × Nat × Nat) := [(0, .iload_n 1, 1, 0, 0), (1, .ifCond .lt 15, 3, 16, 0), (4, .iload_n 1, 1, 0, 0), (5, .aload_n 0, 1, 0, 0), (6, .getfield 62, 3, 1, 8), (9, .if_icmp .gt 7, 3, 16, 0), (12, .iconst 1, 1, 0, 0), (13, .goto 4, 3, 17, 0), (16, .iconst 0, 1, 0, 0), (17, .ireturn, 1, 0, 0)]
def zc8 : List (Nat × Instr × Nat × Nat × Nat) := [(0, .aload_n 0, 1, 0, 0), (1, .getfield 40, 3, 1, 9), (4, .iconst (-1), 1, 0, 0), (5, .if_icmp .eq 7, 3, 12, 0), (8, .iconst 1, 1, 0, 0), (9, .goto 4, 3, 13, 0), (12, .iconst 0, 1, 0, 0), (13, .ireturn, 1, 0, 0)]
def zc9 : List (Nat × Instr × Nat × Nat × Nat) := [(0, .aload_n 0, 1, 0, 0), (1, .getfield 56, 3, 1, 6), (4, .ifCond .le 22, 3, 26, 0), (7, .aload_n 0, 1, 0, 0), (8, .getfield 53, 3, 1, 5), (11, .aload_n 0, 1, 0, 0), (12, .getfield 56, 3, 1, 6), (15, .iadd, 1, 0, 0), (16, .iconst 1, 1, 0, 0), (17, .isub, 1, 0, 0), (18, .aload_n 0, 1, 0, 0), (19, .getfield 56, 3, 1, 6), (22, .idiv, 1, 0, 0), (23, .goto 4, 3, 27, 0), (26, .iconst 0, 1, 0, 0), (27, .ireturn, 1, 0, 0)]
def zc10 : List (Nat × Instr × Nat × Nat × Nat) := [(0, .aload_n 0, 1, 0, 0), (1, .getfield 56, 3, 1, 6), (4, .ifCond .le 19, 3, 23, 0), (7, .aload_n 0, 1, 0, 0), (8, .getfield 20, 3, 1, 1), (11, .iload_n 1, 1, 0, 0), (12, .invokevirtual 85, 3, 1, 1), (15, .aload_n 0, 1, 0, 0), (16, .getfield 56, 3, 1, 6), (19, .idiv, 1, 0, 0), (20, .goto 4, 3, 24, 0), (23, .iconst 0, 1, 0, 0), (24, .ireturn, 1, 0, 0)]
def zc11 : List (Nat × Instr × Nat × Nat × Nat) := [(0, .aload_n 0, 1, 0, 0), (1, .getfield 23, 3, 1, 2), (4, .iload_n 1, 1, 0, 0), (5, .iload_n 2, 1, 0, 0), (6, .invokevirtual 65, 3, 2, 2), (9, .aload_n 0, 1, 0, 0), (10, .getfield 20, 3, 1, 1), (13, .iload_n 2, 1, 0, 0), (14, .iload_n 1, 1, 0, 0), (15, .invokevirtual 65, 3, 2, 2), (18, .return_, 1, 0, 0)]
def zc12 : List (Nat × Instr × Nat × Nat × Nat) := [(0, .aload_n 0, 1, 0, 0), (1, .invokevirtual 89, 3, 8, 0), (4, .ifCond .eq 29, 3, 33, 0), (7, .aload_n 0, 1, 0, 0), (8, .getfield 56, 3, 1, 6), (11, .iconst 1, 1, 0, 0), (12, .iadd, 1, 0, 0), (13, .aload_n 0, 1, 0, 0), (14, .getfield 53, 3, 1, 5), (17, .aload_n 0, 1, 0, 0), (18, .getfield 40, 3, 1, 9), (21, .aload_n 0, 1, 0, 0), (22, .getfield 56, 3, 1, 6), (25, .imul, 1, 0, 0), (26, .isub, 1, 0, 0), (27, .invokestatic 93, 3, 142, 2), (30, .goto 4, 3, 34, 0), (33, .iconst 0, 1, 0, 0), (34, .ireturn, 1, 0, 0)]
def zc13 : List (Nat × Instr × Nat × Nat × Nat) := [(0, .aload_n 0, 1, 0, 0), (1, .getfield 23, 3, 1, 2), (4, .aload_n 0, 1, 0, 0), (5, .getfield 40, 3, 1, 9), (8, .aload_n 0, 1, 0, 0), (9, .getfield 56, 3, 1, 6), (12, .imul, 1, 0, 0), (13, .iload_n 1, 1, 0, 0), (14, .iadd, 1, 0, 0), (15, .invokevirtual 85, 3, 1, 1), (18, .ireturn, 1, 0, 0)]
def zc14 : List (Nat × Instr × Nat × Nat × Nat) := [(0, .aload_n 0, 1, 0, 0), (1, .getfield 20, 3, 1, 1), (4, .iload_n 1, 1, 0, 0), (5, .invokevirtual 85, 3, 1, 1), (8, .aload_n 0, 1, 0, 0), (9, .getfield 40, 3, 1, 9), (12, .aload_n 0, 1, 0, 0), (13, .getfield 56, 3, 1, 6), (16, .imul, 1, 0, 0), (17, .isub, 1, 0, 0), (18, .istore_n 2, 1, 0, 0), (19, .aload_n 0, 1, 0, 0), (20, .iload_n 1, 1, 0, 0), (21, .invokevirtual 99, 3, 6, 1), (24, .ifCond .eq 19, 3, 43, 0), (27, .iload_n 2, 1, 0, 0), (28, .ifCond .lt 15, 3, 43, 0), (31, .iload_n 2, 1, 0, 0), (32, .aload_n 0, 1, 0, 0), (33, .invokevirtual 103, 3, 12, 0), (36, .if_icmp .ge 7, 3, 43, 0), (39, .iload_n 2, 1, 0, 0), (40, .goto 4, 3, 44, 0), (43, .iconst (-1), 1, 0, 0), (44, .ireturn, 1, 0, 0)]
def zc15 : List (Nat × Instr × Nat × Nat × Nat) := [(0, .aload_n 0, 1, 0, 0), (1, .iload_n 1, 1, 0, 0), (2, .invokevirtual 106, 3, 14, 1), (5, .iconst (-1), 1, 0, 0), (6, .if_icmp .eq 7, 3, 13, 0), (9, .iconst 1, 1, 0, 0), (10, .goto 4, 3, 14, 0), (13, .iconst 0, 1, 0, 0), (14, .ireturn, 1, 0, 0)]
def zc16 : List (Nat × Instr × Nat × Nat × Nat) := [(0, .aload_n 0, 1, 0, 0), (1, .iload_n 2, 1, 0, 0), (2, .invokevirtual 106, 3, 14, 1), (5, .istore 4, 2, 0, 0), (7, .aload_n 0, 1, 0, 0), (8, .iload_n 3, 1, 0, 0), (9, .invokevirtual 106, 3, 14, 1), (12, .istore 5, 2, 0, 0), (14, .iload 4, 2, 0, 0), (16, .iconst (-1), 1, 0, 0), (17, .if_icmp .eq 9, 3, 26, 0), (20, .iload 5, 2, 0, 0), (22, .iconst (-1), 1, 0, 0), (23, .if_icmp .ne 5, 3, 28, 0), (26, .iconst 2, 1, 0, 0), (27, .ireturn, 1, 0, 0), (28, .aload_n 1, 1, 0, 0), (29, .iload_n 2, 1, 0, 0), (30, .invokevirtual 109, 3, 55, 1), (33, .ifCond .ne 11, 3, 44, 0), (36, .aload_n 1, 1, 0, 0), (37, .iload_n 3, 1, 0, 0), (38, .invokevirtual 109, 3, 55, 1), (41, .ifCond .eq 5, 3, 46, 0), (44, .iconst 3, 1, 0, 0), (45, .ireturn, 1, 0, 0), (46, .iload 4, 2, 0, 0), (48, .iload 5, 2, 0, 0), (50, .if_icmp .gt 5, 3, 55, 0), (53, .iconst 4, 1, 0, 0), (54, .ireturn, 1, 0, 0), (55, .iload 5, 2, 0, 0), (57, .iconst 1, 1, 0, 0), (58, .iadd, 1, 0, 0), (59, .istore 6, 2, 0, 0), (61, .iload 6, 2, 0, 0), (63, .iload 4, 2, 0, 0), (65, .if_icmp .ge 24, 3, 89, 0), (68, .aload_n 1, 1, 0, 0), (69, .aload_n 0, 1, 0, 0), (70, .iload 6, 2, 0, 0), (72, .invokevirtual 112, 3, 13, 1), (75, .invokevirtual 109, 3, 55, 1), (78, .ifCond .ne 5, 3, 83, 0), (81, .iconst 5, 1, 0, 0), (82, .ireturn, 1, 0, 0), (83, .iinc 6 1, 3, 0, 0), (86, .goto (-25), 3, 61, 0), (89, .iconst 0, 1, 0, 0), (90, .ireturn, 1, 0, 0)]
def zc17 : List (Nat × Instr × Nat × Nat × Nat) := [(0, .aload_n 0, 1, 0, 0), (1, .getfield 20, 3, 1, 1), (4, .aload_n 0, 1, 0, 0), (5, .getfield 29, 3, 1, 3), (8, .getfield 115, 3, 5, 0), (11, .iload_n 1, 1, 0, 0), (12, .invokevirtual 85, 3, 1, 1), (15, .invokevirtual 85, 3, 1, 1), (18, .aload_n 0, 1, 0, 0), (19, .getfield 20, 3, 1, 1), (22, .aload_n 0, 1, 0, 0), (23, .getfield 29, 3, 1, 3), (26, .getfield 118, 3, 5, 1), (29, .iload_n 1, 1, 0, 0), (30, .invokevirtual 85, 3, 1, 1), (33, .invokevirtual 85, 3, 1, 1), (36, .isub, 1, 0, 0), (37, .ireturn, 1, 0, 0)]
def zc18 : List (Nat × Instr × Nat × Nat × Nat) := [(0, .iconst 1, 1, 0, 0), (1, .iload_n 1, 1, 0, 0), (2, .ishl, 1, 0, 0), (3, .istore_n 2, 1, 0, 0), (4, .iload_n 1, 1, 0, 0), (5, .iconst 1, 1, 0, 0), (6, .iadd, 1, 0, 0), (7, .istore_n 3, 1, 0, 0), (8, .iload_n 3, 1, 0, 0), (9, .aload_n 0, 1, 0, 0), (10, .getfield 29, 3, 1, 3), (13, .getfield 75, 3, 5, 2), (16, .if_icmp .ge 25, 3, 41, 0), (19, .iload_n 2, 1, 0, 0), (20, .aload_n 0, 1, 0, 0), (21, .iload_n 3, 1, 0, 0), (22, .invokevirtual 121, 3, 19, 1), (25, .iand, 1, 0, 0), (26, .ifCond .eq 9, 3, 35, 0), (29, .iload_n 2, 1, 0, 0), (30, .iconst 1, 1, 0, 0), (31, .iload_n 3, 1, 0, 0), (32, .ishl, 1, 0, 0), (33, .ior, 1, 0, 0), (34, .istore_n 2, 1, 0, 0), (35, .iinc 3 1, 3, 0, 0), (38, .goto (-30), 3, 8, 0), (41, .iload_n 2, 1, 0, 0), (42, .ireturn, 1, 0, 0)]
def zc19 : List (Nat × Instr × Nat × Nat × Nat) := [(0, .iconst 0, 1, 0, 0), (1, .istore_n 2, 1, 0, 0), (2, .iconst 0, 1, 0, 0), (3, .istore_n 3, 1, 0, 0), (4, .iload_n 3, 1, 0, 0), (5, .iload_n 1, 1, 0, 0), (6, .if_icmp .ge 53, 3, 59, 0), (9, .aload_n 0, 1, 0, 0), (10, .aload_n 0, 1, 0, 0), (11, .getfield 29, 3, 1, 3), (14, .getfield 115, 3, 5, 0), (17, .iload_n 3, 1, 0, 0), (18, .invokevirtual 85, 3, 1, 1), (21, .iload_n 1, 1, 0, 0), (22, .invokevirtual 124, 3, 20, 2), (25, .ifCond .ne 22, 3, 47, 0), (28, .aload_n 0, 1, 0, 0), (29, .aload_n 0, 1, 0, 0), (30, .getfield 29, 3, 1, 3), (33, .getfield 118, 3, 5, 1), (36, .iload_n 3, 1, 0, 0), (37, .invokevirtual 85, 3, 1, 1), (40, .iload_n 1, 1, 0, 0), (41, .invokevirtual 124, 3, 20, 2), (44, .ifCond .eq 9, 3, 53, 0), (47, .iload_n 2, 1, 0, 0), (48, .iconst 1, 1, 0, 0), (49, .iload_n 3, 1, 0, 0), (50, .ishl, 1, 0, 0), (51, .ior, 1, 0, 0), (52, .istore_n 2, 1, 0, 0), (53, .iinc 3 1, 3, 0, 0), (56, .goto (-52), 3, 4, 0), (59, .iload_n 2, 1, 0, 0), (60, .ireturn, 1, 0, 0)]
def zc20 : List (Nat × Instr × Nat × Nat × Nat) := [(0, .aload_n 0, 1, 0, 0), (1, .getfield 20, 3, 1, 1), (4, .iload_n 1, 1, 0, 0), (5, .invokevirtual 85, 3, 1, 1), (8, .istore_n 3, 1, 0, 0), (9, .iload_n 3, 1, 0, 0), (10, .aload_n 0, 1, 0, 0), (11, .getfield 20, 3, 1, 1), (14, .aload_n 0, 1, 0, 0), (15, .getfield 29, 3, 1, 3), (18, .getfield 118, 3, 5, 1), (21, .iload_n 2, 1, 0, 0), (22, .invokevirtual 85, 3, 1, 1), (25, .invokevirtual 85, 3, 1, 1), (28, .if_icmp .le 29, 3, 57, 0), (31, .iload_n 3, 1, 0, 0), (32, .aload_n 0, 1, 0, 0), (33, .getfield 20, 3, 1, 1), (36, .aload_n 0, 1, 0, 0), (37, .getfield 29, 3, 1, 3), (40, .getfield 115, 3, 5, 0), (43, .iload_n 2, 1, 0, 0), (44, .invokevirtual 85, 3, 1, 1), (47, .invokevirtual 85, 3, 1, 1), (50, .if_icmp .ge 7, 3, 57, 0), (53, .iconst 1, 1, 0, 0), (54, .goto 4, 3, 58, 0), (57, .iconst 0, 1, 0, 0), (58, .ireturn, 1, 0, 0)]
def zc21 : List (Nat × Instr × Nat × Nat × Nat) := [(0, .aload_n 0, 1, 0, 0), (1, .getfield 29, 3, 1, 3), (4, .getfield 75, 3, 5, 2), (7, .istore_n 1, 1, 0, 0), (8, .iconst 0, 1, 0, 0), (9, .istore_n 2, 1, 0, 0), (10, .iload_n 2, 1, 0, 0), (11, .iload_n 1, 1, 0, 0), (12, .if_icmp .ge 62, 3, 74, 0), (15, .aload_n 0, 1, 0, 0), (16, .getfield 29, 3, 1, 3), (19, .getfield 115, 3, 5, 0), (22, .iload_n 2, 1, 0, 0), (23, .invokevirtual 85, 3, 1, 1), (26, .istore_n 3, 1, 0, 0), (27, .aload_n 0, 1, 0, 0), (28, .getfield 29, 3, 1, 3), (31, .getfield 118, 3, 5, 1), (34, .iload_n 2, 1, 0, 0), (35, .invokevirtual 85, 3, 1, 1), (38, .istore 4, 2, 0, 0), (40, .aload_n 0, 1, 0, 0), (41, .getfield 36, 3, 1, 4), (44, .aload_n 0, 1, 0, 0), (45, .getfield 62, 3, 1, 8), (48, .iconst 1, 1, 0, 0), (49, .iadd, 1, 0, 0), (50, .iload_n 3, 1, 0, 0), (51, .iload 4, 2, 0, 0), (53, .aload_n 0, 1, 0, 0), (54, .iload_n 2, 1, 0, 0), (55, .invokevirtual 128, 3, 17, 1), (58, .invokevirtual 131, 3, 46, 4), (61, .aload_n 0, 1, 0, 0), (62, .iload_n 3, 1, 0, 0), (63, .iload 4, 2, 0, 0), (65, .invokevirtual 135, 3, 22, 2), (68, .iinc 2 1, 3, 0, 0), (71, .goto (-61), 3, 10, 0), (74, .aload_n 0, 1, 0, 0), (75, .getfield 29, 3, 1, 3), (78, .iconst 0, 1, 0, 0), (79, .putfield 75, 3, 5, 2), (82, .aload_n 0, 1, 0, 0), (83, .getfield 40, 3, 1, 9), (86, .ifCond .le 16, 3, 102, 0), (89, .aload_n 0, 1, 0, 0), (90, .dup, 1, 0, 0), (91, .getfield 40, 3, 1, 9), (94, .iconst 1, 1, 0, 0), (95, .isub, 1, 0, 0), (96, .putfield 40, 3, 1, 9), (99, .goto 7, 3, 106, 0), (102, .aload_n 0, 1, 0, 0), (103, .invokevirtual 138, 3, 23, 0), (106, .iload_n 1, 1, 0, 0), (107, .ireturn, 1, 0, 0)]
def zc22 : List (Nat × Instr × Nat × Nat × Nat) := [(0, .aload_n 0, 1, 0, 0), (1, .getfield 20, 3, 1, 1), (4, .iload_n 1, 1, 0, 0), (5, .invokevirtual 85, 3, 1, 1), (8, .istore_n 3, 1, 0, 0), (9, .aload_n 0, 1, 0, 0), (10, .getfield 20, 3, 1, 1), (13, .iload_n 2, 1, 0, 0), (14, .invokevirtual 85, 3, 1, 1), (17, .istore 4, 2, 0, 0), (19, .aload_n 0, 1, 0, 0), (20, .iload 4, 2, 0, 0), (22, .iload_n 1, 1, 0, 0), (23, .invokevirtual 69, 3, 11, 2), (26, .aload_n 0, 1, 0, 0), (27, .iload_n 3, 1, 0, 0), (28, .iload_n 2, 1, 0, 0), (29, .invokevirtual 69, 3, 11, 2), (32, .return_, 1, 0, 0)]
def zc23 : List (Nat × Instr × Nat × Nat × Nat) := [(0, .aload_n 0, 1, 0, 0), (1, .dup, 1, 0, 0), (2, .getfield 62, 3, 1, 8), (5, .iconst 1, 1, 0, 0), (6, .iadd, 1, 0, 0), (7, .putfield 62, 3, 1, 8), (10, .aload_n 0, 1, 0, 0), (11, .invokevirtual 72, 3, 25, 0), (14, .aload_n 0, 1, 0, 0), (15, .aload_n 0, 1, 0, 0), (16, .getfield 62, 3, 1, 8), (19, .aload_n 0, 1, 0, 0), (20, .getfield 59, 3, 1, 7), (23, .if_icmp .ge 12, 3, 35, 0), (26, .aload_n 0, 1, 0, 0), (27, .invokevirtual 81, 3, 9, 0), (30, .iconst 1, 1, 0, 0), (31, .isub, 1, 0, 0), (32, .goto 4, 3, 36, 0), (35, .iconst (-1), 1, 0, 0), (36, .putfield 40, 3, 1, 9), (39, .return_, 1, 0, 0)]
def zc24 : List (Nat × Instr × Nat × Nat × Nat) := [(0, .aload_n 0, 1, 0, 0), (1, .getfield 14, 3, 1, 0), (4, .aload_n 0, 1, 0, 0), (5, .iload_n 1, 1, 0, 0), (6, .invokevirtual 112, 3, 13, 1), (9, .invokevirtual 85, 3, 1, 1), (12, .istore_n 3, 1, 0, 0), (13, .iload_n 3, 1, 0, 0), (14, .i2d, 1, 0, 0), (15, .iload_n 2, 1, 0, 0), (16, .i2d, 1, 0, 0), (17, .dmul, 1, 0, 0), (18, .iload_n 1, 1, 0, 0), (19, .aload_n 0, 1, 0, 0), (20, .getfield 44, 3, 1, 10), (23, .imul, 1, 0, 0), (24, .i2d, 1, 0, 0), (25, .dsub, 1, 0, 0), (26, .dreturn, 1, 0, 0)]
def zc25 : List (Nat × Instr × Nat × Nat × Nat) := [(0, .iconst 0, 1, 0, 0), (1, .istore_n 1, 1, 0, 0), (2, .iload_n 1, 1, 0, 0), (3, .aload_n 0, 1, 0, 0), (4, .getfield 53, 3, 1, 5), (7, .if_icmp .ge 33, 3, 40, 0), (10, .aload_n 0, 1, 0, 0), (11, .getfield 50, 3, 1, 12), (14, .aload_n 0, 1, 0, 0), (15, .getfield 62, 3, 1, 8), (18, .bipush 24, 2, 0, 0), (20, .imul, 1, 0, 0), (21, .iload_n 1, 1, 0, 0), (22, .iadd, 1, 0, 0), (23, .aload_n 0, 1, 0, 0), (24, .getfield 20, 3, 1, 1), (27, .iload_n 1, 1, 0, 0), (28, .invokevirtual 85, 3, 1, 1), (31, .invokevirtual 65, 3, 2, 2), (34, .iinc 1 1, 3, 0, 0), (37, .goto (-35), 3, 2, 0), (40, .return_, 1, 0, 0)]
def zc26 : List (Nat × Instr × Nat × Nat × Nat) := [(0, .aload_n 0, 1, 0, 0), (1, .getfield 50, 3, 1, 12), (4, .iload_n 2, 1, 0, 0), (5, .bipush 24, 2, 0, 0), (7, .imul, 1, 0, 0), (8, .iload_n 1, 1, 0, 0), (9, .iadd, 1, 0, 0), (10, .invokevirtual 85, 3, 1, 1), (13, .ireturn, 1, 0, 0)]
def zc27 : List (Nat × Instr × Nat × Nat × Nat) := [(0, .iconst 0, 1, 0, 0), (1, .istore_n 2, 1, 0, 0), (2, .iconst 1, 1, 0, 0), (3, .istore_n 3, 1, 0, 0), (4, .iload_n 3, 1, 0, 0), (5, .aload_n 0, 1, 0, 0), (6, .getfield 62, 3, 1, 8), (9, .if_icmp .gt 34, 3, 43, 0), (12, .iload_n 2, 1, 0, 0), (13, .aload_n 0, 1, 0, 0), (14, .iload_n 1, 1, 0, 0), (15, .iload_n 3, 1, 0, 0), (16, .invokevirtual 141, 3, 26, 2), (19, .aload_n 0, 1, 0, 0), (20, .iload_n 1, 1, 0, 0), (21, .iload_n 3, 1, 0, 0), (22, .iconst 1, 1, 0, 0), (23, .isub, 1, 0, 0), (24, .invokevirtual 141, 3, 26, 2), (27, .if_icmp .ge 7, 3, 34, 0), (30, .iconst 1, 1, 0, 0), (31, .goto 4, 3, 35, 0), (34, .iconst 0, 1, 0, 0), (35, .iadd, 1, 0, 0), (36, .istore_n 2, 1, 0, 0), (37, .iinc 3 1, 3, 0, 0), (40, .goto (-36), 3, 4, 0), (43, .iload_n 2, 1, 0, 0), (44, .ireturn, 1, 0, 0)]
def zc28 : List (Nat × Instr × Nat × Nat × Nat) := [(0, .iconst 0, 1, 0, 0), (1, .istore_n 2, 1, 0, 0), (2, .iconst 1, 1, 0, 0), (3, .istore_n 3, 1, 0, 0), (4, .iload_n 3, 1, 0, 0), (5, .aload_n 0, 1, 0, 0), (6, .getfield 62, 3, 1, 8), (9, .if_icmp .gt 34, 3, 43, 0), (12, .iload_n 2, 1, 0, 0), (13, .aload_n 0, 1, 0, 0), (14, .iload_n 1, 1, 0, 0), (15, .iload_n 3, 1, 0, 0), (16, .invokevirtual 141, 3, 26, 2), (19, .aload_n 0, 1, 0, 0), (20, .iload_n 1, 1, 0, 0), (21, .iload_n 3, 1, 0, 0), (22, .iconst 1, 1, 0, 0), (23, .isub, 1, 0, 0), (24, .invokevirtual 141, 3, 26, 2), (27, .if_icmp .le 7, 3, 34, 0), (30, .iconst 1, 1, 0, 0), (31, .goto 4, 3, 35, 0), (34, .iconst 0, 1, 0, 0), (35, .iadd, 1, 0, 0), (36, .istore_n 2, 1, 0, 0), (37, .iinc 3 1, 3, 0, 0), (40, .goto (-36), 3, 4, 0), (43, .iload_n 2, 1, 0, 0), (44, .ireturn, 1, 0, 0)]
def zc29 : List (Nat × Instr × Nat × Nat × Nat) := [(0, .aload_n 0, 1, 0, 0), (1, .getfield 62, 3, 1, 8), (4, .ifCond .ne 5, 3, 9, 0), (7, .iconst 0, 1, 0, 0), (8, .ireturn, 1, 0, 0), (9, .aload_n 0, 1, 0, 0), (10, .iload_n 1, 1, 0, 0), (11, .invokevirtual 144, 3, 27, 1), (14, .aload_n 0, 1, 0, 0), (15, .getfield 62, 3, 1, 8), (18, .if_icmp .ne 5, 3, 23, 0), (21, .iconst 1, 1, 0, 0), (22, .ireturn, 1, 0, 0), (23, .aload_n 0, 1, 0, 0), (24, .iload_n 1, 1, 0, 0), (25, .invokevirtual 147, 3, 28, 1), (28, .aload_n 0, 1, 0, 0), (29, .getfield 62, 3, 1, 8), (32, .if_icmp .ne 7, 3, 39, 0), (35, .iconst 2, 1, 0, 0), (36, .goto 4, 3, 40, 0), (39, .iconst 0, 1, 0, 0), (40, .ireturn, 1, 0, 0)]
def zc30 : List (Nat × Instr × Nat × Nat × Nat) := [(0, .iconst (-1), 1, 0, 0), (1, .istore_n 1, 1, 0, 0), (2, .iconst 0, 1, 0, 0), (3, .istore_n 2, 1, 0, 0), (4, .iconst 0, 1, 0, 0), (5, .istore_n 3, 1, 0, 0), (6, .iload_n 3, 1, 0, 0), (7, .aload_n 0, 1, 0, 0), (8, .getfield 53, 3, 1, 5), (11, .if_icmp .ge 56, 3, 67, 0), (14, .aload_n 0, 1, 0, 0), (15, .getfield 23, 3, 1, 2), (18, .iload_n 3, 1, 0, 0), (19, .invokevirtual 85, 3, 1, 1), (22, .istore 4, 2, 0, 0), (24, .aload_n 0, 1, 0, 0), (25, .iload 4, 2, 0, 0), (27, .iconst 0, 1, 0, 0), (28, .invokevirtual 141, 3, 26, 2), (31, .aload_n 0, 1, 0, 0), (32, .iload 4, 2, 0, 0), (34, .aload_n 0, 1, 0, 0), (35, .getfield 62, 3, 1, 8), (38, .invokevirtual 141, 3, 26, 2), (41, .isub, 1, 0, 0), (42, .istore 5, 2, 0, 0), (44, .iload_n 1, 1, 0, 0), (45, .iconst (-1), 1, 0, 0), (46, .if_icmp .eq 9, 3, 55, 0), (49, .iload 5, 2, 0, 0), (51, .iload_n 2, 1, 0, 0), (52, .if_icmp .le 9, 3, 61, 0), (55, .iload 4, 2, 0, 0), (57, .istore_n 1, 1, 0, 0), (58, .iload 5, 2, 0, 0), (60, .istore_n 2, 1, 0, 0), (61, .iinc 3 1, 3, 0, 0), (64, .goto (-58), 3, 6, 0), (67, .iload_n 1, 1, 0, 0), (68, .ireturn, 1, 0, 0)]
def zc31 : List (Nat × Instr × Nat × Nat × Nat) := [(0, .aload_n 0, 1, 0, 0), (1, .getfield 14, 3, 1, 0), (4, .aload_n 1, 1, 0, 0), (5, .getfield 14, 3, 1, 0), (8, .invokevirtual 150, 3, 3, 1), (11, .aload_n 0, 1, 0, 0), (12, .getfield 20, 3, 1, 1), (15, .aload_n 1, 1, 0, 0), (16, .getfield 20, 3, 1, 1), (19, .invokevirtual 150, 3, 3, 1), (22, .aload_n 0, 1, 0, 0), (23, .getfield 23, 3, 1, 2), (26, .aload_n 1, 1, 0, 0), (27, .getfield 23, 3, 1, 2), (30, .invokevirtual 150, 3, 3, 1), (33, .aload_n 0, 1, 0, 0), (34, .getfield 29, 3, 1, 3), (37, .aload_n 1, 1, 0, 0), (38, .getfield 29, 3, 1, 3), (41, .invokevirtual 154, 3, 57, 1), (44, .aload_n 0, 1, 0, 0), (45, .getfield 36, 3, 1, 4), (48, .aload_n 1, 1, 0, 0), (49, .getfield 36, 3, 1, 4), (52, .invokevirtual 157, 3, 51, 1), (55, .aload_n 0, 1, 0, 0), (56, .getfield 50, 3, 1, 12), (59, .aload_n 1, 1, 0, 0), (60, .getfield 50, 3, 1, 12), (63, .invokevirtual 150, 3, 3, 1), (66, .aload_n 0, 1, 0, 0), (67, .aload_n 1, 1, 0, 0), (68, .getfield 53, 3, 1, 5), (71, .putfield 53, 3, 1, 5), (74, .aload_n 0, 1, 0, 0), (75, .aload_n 1, 1, 0, 0), (76, .getfield 56, 3, 1, 6), (79, .putfield 56, 3, 1, 6), (82, .aload_n 0, 1, 0, 0), (83, .aload_n 1, 1, 0, 0), (84, .getfield 59, 3, 1, 7), (87, .putfield 59, 3, 1, 7), (90, .aload_n 0, 1, 0, 0), (91, .aload_n 1, 1, 0, 0), (92, .getfield 62, 3, 1, 8), (95, .putfield 62, 3, 1, 8), (98, .aload_n 0, 1, 0, 0), (99, .aload_n 1, 1, 0, 0), (100, .getfield 40, 3, 1, 9), (103, .putfield 40, 3, 1, 9), (106, .aload_n 0, 1, 0, 0), (107, .aload_n 1, 1, 0, 0), (108, .getfield 44, 3, 1, 10), (111, .putfield 44, 3, 1, 10), (114, .aload_n 0, 1, 0, 0), (115, .aload_n 1, 1, 0, 0), (116, .getfield 47, 3, 1, 11), (119, .putfield 47, 3, 1, 11), (122, .return_, 1, 0, 0)]
def zc32 : List (Nat × Instr × Nat × Nat × Nat) := [(0, .aload_n 0, 1, 0, 0), (1, .invokespecial 3, 3, 1002, 0), (4, .aload_n 0, 1, 0, 0), (5, .new 9, 3, 0, 0), (8, .dup, 1, 0, 0), (9, .iconst 4, 1, 0, 0), (10, .invokespecial 11, 3, 0, 1), (13, .putfield 14, 3, 2, 0), (16, .aload_n 0, 1, 0, 0), (17, .new 9, 3, 0, 0), (20, .dup, 1, 0, 0), (21, .iconst 4, 1, 0, 0), (22, .invokespecial 11, 3, 0, 1), (25, .putfield 20, 3, 2, 1), (28, .aload_n 0, 1, 0, 0), (29, .iconst 4, 1, 0, 0), (30, .newarray .double, 2, 0, 0), (32, .putfield 23, 3, 2, 3), (35, .aload_n 0, 1, 0, 0), (36, .new 9, 3, 0, 0), (39, .dup, 1, 0, 0), (40, .bipush 9, 2, 0, 0), (42, .invokespecial 11, 3, 0, 1), (45, .putfield 27, 3, 2, 4), (48, .aload_n 0, 1, 0, 0), (49, .new 9, 3, 0, 0), (52, .dup, 1, 0, 0), (53, .bipush 9, 2, 0, 0), (55, .invokespecial 11, 3, 0, 1), (58, .putfield 30, 3, 2, 5), (61, .return_, 1, 0, 0)]
def zc33 : List (Nat × Instr × Nat × Nat × Nat) := [(0, .aload_n 0, 1, 0, 0), (1, .aload_n 1, 1, 0, 0), (2, .iconst (-1), 1, 0, 0), (3, .iconst 0, 1, 0, 0), (4, .invokevirtual 33, 3, 34, 3), (7, .return_, 1, 0, 0)]
def zc34 : List (Nat × Instr × Nat × Nat × Nat) := [(0, .aload_n 0, 1, 0, 0), (1, .aload_n 1, 1, 0, 0), (2, .invokevirtual 37, 3, 12, 0), (5, .putfield 43, 3, 2, 6), (8, .iconst 0, 1, 0, 0), (9, .istore 4, 2, 0, 0), (11, .iload 4, 2, 0, 0), (13, .aload_n 0, 1, 0, 0), (14, .getfield 43, 3, 2, 6), (17, .if_icmp .ge 55, 3, 72, 0), (20, .aload_n 1, 1, 0, 0), (21, .iload 4, 2, 0, 0), (23, .invokevirtual 46, 3, 13, 1), (26, .istore 5, 2, 0, 0), (28, .aload_n 0, 1, 0, 0), (29, .getfield 27, 3, 2, 4), (32, .iload 4, 2, 0, 0), (34, .iload 5, 2, 0, 0), (36, .iload_n 2, 1, 0, 0), (37, .if_icmp .ne 7, 3, 44, 0), (40, .iload_n 3, 1, 0, 0), (41, .goto 12, 3, 53, 0), (44, .aload_n 1, 1, 0, 0), (45, .getfield 50, 3, 1, 0), (48, .iload 5, 2, 0, 0), (50, .invokevirtual 51, 3, 1, 1), (53, .invokevirtual 54, 3, 2, 2), (56, .aload_n 0, 1, 0, 0), (57, .getfield 30, 3, 2, 5), (60, .iload 4, 2, 0, 0), (62, .iconst 0, 1, 0, 0), (63, .invokevirtual 54, 3, 2, 2), (66, .iinc 4 1, 3, 0, 0), (69, .goto (-58), 3, 11, 0), (72, .aload_n 0, 1, 0, 0), (73, .iconst 0, 1, 0, 0), (74, .putfield 58, 3, 2, 2), (77, .iconst 1, 1, 0, 0), (78, .istore 4, 2, 0, 0), (80, .iconst 0, 1, 0, 0), (81, .istore 5, 2, 0, 0), (83, .iload 5, 2, 0, 0), (85, .iconst 4, 1, 0, 0), (86, .if_icmp .ge 29, 3, 115, 0), (89, .iload 4, 2, 0, 0), (91, .ifCond .eq 24, 3, 115, 0), (94, .aload_n 0, 1, 0, 0), (95, .aload_n 1, 1, 0, 0), (96, .getfield 61, 3, 1, 10), (99, .aload_n 1, 1, 0, 0), (100, .getfield 64, 3, 1, 11), (103, .i2d, 1, 0, 0), (104, .invokevirtual 67, 3, 35, 2), (107, .istore 4, 2, 0, 0), (109, .iinc 5 1, 3, 0, 0), (112, .goto (-29), 3, 83, 0), (115, .return_, 1, 0, 0)]
def zc35 : List (Nat × Instr × Nat × Nat × Nat) := [(0, .iconst (-1), 1, 0, 0), (1, .istore 4, 2, 0, 0), (3, .iconst (-1), 1, 0, 0), (4, .istore 5, 2, 0, 0), (6, .dload_n 2, 1, 0, 0), (7, .dstore 6, 2, 0, 0), (9, .iconst (-1), 1, 0, 0), (10, .istore 8, 2, 0, 0), (12, .iconst 0, 1, 0, 0), (13, .istore 9, 2, 0, 0), (15, .iload 9, 2, 0, 0), (17, .aload_n 0, 1, 0, 0), (18, .getfield 43, 3, 2, 6), (21, .if_icmp .ge 112, 3, 133, 0), (24, .aload_n 0, 1, 0, 0), (25, .getfield 30, 3, 2, 5), (28, .iload 9, 2, 0, 0), (30, .invokevirtual 51, 3, 1, 1), (33, .ifCond .eq 6, 3, 39, 0), (36, .goto 91, 3, 127, 0), (39, .iload 8, 2, 0, 0), (41, .iconst (-1), 1, 0, 0), (42, .if_icmp .ne 7, 3, 49, 0), (45, .iconst 0, 1, 0, 0), (46, .goto 22, 3, 68, 0), (49, .aload_n 0, 1, 0, 0), (50, .getfield 27, 3, 2, 4), (53, .iload 9, 2, 0, 0), (55, .invokevirtual 51, 3, 1, 1), (58, .aload_n 0, 1, 0, 0), (59, .getfield 27, 3, 2, 4), (62, .iload 8, 2, 0, 0), (64, .invokevirtual 51, 3, 1, 1), (67, .isub, 1, 0, 0), (68, .istore 10, 2, 0, 0), (70, .iload 10, 2, 0, 0), (72, .ifCond .le 51, 3, 123, 0), (75, .iload 9, 2, 0, 0), (77, .iload 8, 2, 0, 0), (79, .isub, 1, 0, 0), (80, .iload_n 1, 1, 0, 0), (81, .imul, 1, 0, 0), (82, .i2d, 1, 0, 0), (83, .iload 10, 2, 0, 0), (85, .i2d, 1, 0, 0), (86, .ddiv, 1, 0, 0), (87, .dstore 11, 2, 0, 0), (89, .dload 11, 2, 0, 0), (91, .dload 6, 2, 0, 0), (93, .dcmp .g, 1, 0, 0), (94, .ifCond .lt 17, 3, 111, 0), (97, .iload 4, 2, 0, 0), (99, .iconst (-1), 1, 0, 0), (100, .if_icmp .ne 23, 3, 123, 0), (103, .dload 11, 2, 0, 0), (105, .dload 6, 2, 0, 0), (107, .dcmp .l, 1, 0, 0), (108, .ifCond .ne 15, 3, 123, 0), (111, .iload 9, 2, 0, 0), (113, .istore 4, 2, 0, 0), (115, .iload 8, 2, 0, 0), (117, .istore 5, 2, 0, 0), (119, .dload 11, 2, 0, 0), (121, .dstore 6, 2, 0, 0), (123, .iload 9, 2, 0, 0), (125, .istore 8, 2, 0, 0), (127, .iinc 9 1, 3, 0, 0), (130, .goto (-115), 3, 15, 0), (133, .iload 4, 2, 0, 0), (135, .iconst (-1), 1, 0, 0), (136, .if_icmp .ne 5, 3, 141, 0), (139, .iconst 0, 1, 0, 0), (140, .ireturn, 1, 0, 0), (141, .aload_n 0, 1, 0, 0), (142, .iload 4, 2, 0, 0), (144, .iload 5, 2, 0, 0), (146, .dload 6, 2, 0, 0), (148, .invokevirtual 71, 3, 36, 3), (151, .iconst 1, 1, 0, 0), (152, .ireturn, 1, 0, 0)]
def zc36 : List (Nat × Instr × Nat × Nat × Nat) := [(0, .aload_n 0, 1, 0, 0), (1, .getfield 58, 3, 2, 2), (4, .ifCond .lt 59, 3, 63, 0), (7, .aload_n 0, 1, 0, 0), (8, .getfield 58, 3, 2, 2), (11, .aload_n 0, 1, 0, 0), (12, .getfield 23, 3, 2, 3), (15, .arraylength, 1, 0, 0), (16, .if_icmp .ge 47, 3, 63, 0), (19, .aload_n 0, 1, 0, 0), (20, .getfield 14, 3, 2, 0), (23, .aload_n 0, 1, 0, 0), (24, .getfield 58, 3, 2, 2), (27, .iload_n 1, 1, 0, 0), (28, .invokevirtual 54, 3, 2, 2), (31, .aload_n 0, 1, 0, 0), (32, .getfield 20, 3, 2, 1), (35, .aload_n 0, 1, 0, 0), (36, .getfield 58, 3, 2, 2), (39, .iload_n 2, 1, 0, 0), (40, .invokevirtual 54, 3, 2, 2), (43, .aload_n 0, 1, 0, 0), (44, .getfield 23, 3, 2, 3), (47, .aload_n 0, 1, 0, 0), (48, .getfield 58, 3, 2, 2), (51, .dload_n 3, 1, 0, 0), (52, .dastore, 1, 0, 0), (53, .aload_n 0, 1, 0, 0), (54, .dup, 1, 0, 0), (55, .getfield 58, 3, 2, 2), (58, .iconst 1, 1, 0, 0), (59, .iadd, 1, 0, 0), (60, .putfield 58, 3, 2, 2), (63, .aload_n 0, 1, 0, 0), (64, .getfield 30, 3, 2, 5), (67, .iload_n 1, 1, 0, 0), (68, .iconst 1, 1, 0, 0), (69, .invokevirtual 54, 3, 2, 2), (72, .aload_n 0, 1, 0, 0), (73, .getfield 30, 3, 2, 5), (76, .iload_n 2, 1, 0, 0), (77, .iconst 1, 1, 0, 0), (78, .invokevirtual 54, 3, 2, 2), (81, .return_, 1, 0, 0)]
def zc37 : List (Nat × Instr × Nat × Nat × Nat) := [(0, .iload_n 1, 1, 0, 0), (1, .ifCond .lt 21, 3, 22, 0), (4, .iload_n 1, 1, 0, 0), (5, .aload_n 0, 1, 0, 0), (6, .getfield 23, 3, 2, 3), (9, .arraylength, 1, 0, 0), (10, .if_icmp .ge 12, 3, 22, 0), (13, .aload_n 0, 1, 0, 0), (14, .getfield 23, 3, 2, 3), (17, .iload_n 1, 1, 0, 0), (18, .daload, 1, 0, 0), (19, .goto 4, 3, 23, 0), (22, .dconst 0, 1, 0, 0), (23, .dreturn, 1, 0, 0)]
def zc38 : List (Nat × Instr × Nat × Nat × Nat) := [(0, .iconst 0, 1, 0, 0), (1, .istore_n 2, 1, 0, 0), (2, .iload_n 2, 1, 0, 0), (3, .aload_n 0, 1, 0, 0), (4, .getfield 58, 3, 2, 2), (7, .if_icmp .ge 23, 3, 30, 0), (10, .aload_n 0, 1, 0, 0), (11, .getfield 14, 3, 2, 0), (14, .iload_n 2, 1, 0, 0), (15, .invokevirtual 51, 3, 1, 1), (18, .iload_n 1, 1, 0, 0), (19, .if_icmp .ne 5, 3, 24, 0), (22, .iconst 1, 1, 0, 0), (23, .ireturn, 1, 0, 0), (24, .iinc 2 1, 3, 0, 0), (27, .goto (-25), 3, 2, 0), (30, .iconst 0, 1, 0, 0), (31, .ireturn, 1, 0, 0)]
def zc39 : List (Nat × Instr × Nat × Nat × Nat) := [(0, .aload_n 0, 1, 0, 0), (1, .invokespecial 3, 3, 1002, 0), (4, .aload_n 0, 1, 0, 0), (5, .iconst 4, 1, 0, 0), (6, .anewarray 9, 3, 1, 0), (9, .putfield 11, 3, 3, 0), (12, .iconst 0, 1, 0, 0), (13, .istore_n 1, 1, 0, 0), (14, .iload_n 1, 1, 0, 0), (15, .aload_n 0, 1, 0, 0), (16, .getfield 11, 3, 3, 0), (19, .arraylength, 1, 0, 0), (20, .if_icmp .ge 22, 3, 42, 0), (23, .aload_n 0, 1, 0, 0), (24, .getfield 11, 3, 3, 0), (27, .iload_n 1, 1, 0, 0), (28, .new 9, 3, 1, 0), (31, .dup, 1, 0, 0), (32, .invokespecial 17, 3, 4, 0), (35, .aastore, 1, 0, 0), (36, .iinc 1 1, 3, 0, 0), (39, .goto (-25), 3, 14, 0), (42, .return_, 1, 0, 0)]
def zc40 : List (Nat × Instr × Nat × Nat × Nat) := [(0, .aload_n 0, 1, 0, 0), (1, .getfield 18, 3, 3, 1), (4, .aload_n 0, 1, 0, 0), (5, .getfield 11, 3, 3, 0), (8, .arraylength, 1, 0, 0), (9, .if_icmp .ge 16, 3, 25, 0), (12, .aload_n 0, 1, 0, 0), (13, .dup, 1, 0, 0), (14, .getfield 18, 3, 3, 1), (17, .iconst 1, 1, 0, 0), (18, .iadd, 1, 0, 0), (19, .putfield 18, 3, 3, 1), (22, .goto 7, 3, 29, 0), (25, .aload_n 0, 1, 0, 0), (26, .invokevirtual 22, 3, 41, 0), (29, .aload_n 0, 1, 0, 0), (30, .invokevirtual 25, 3, 42, 0), (33, .astore_n 2, 1, 0, 0), (34, .aload_n 2, 1, 0, 0), (35, .ifnull 8, 3, 43, 0), (38, .aload_n 2, 1, 0, 0), (39, .aload_n 1, 1, 0, 0), (40, .invokevirtual 29, 3, 31, 1), (43, .return_, 1, 0, 0)]
def zc41 : List (Nat × Instr × Nat × Nat × Nat) := [(0, .iconst 1, 1, 0, 0), (1, .istore_n 1, 1, 0, 0), (2, .iload_n 1, 1, 0, 0), (3, .aload_n 0, 1, 0, 0), (4, .getfield 11, 3, 3, 0), (7, .arraylength, 1, 0, 0), (8, .if_icmp .ge 39, 3, 47, 0), (11, .aload_n 0, 1, 0, 0), (12, .getfield 11, 3, 3, 0), (15, .iload_n 1, 1, 0, 0), (16, .iconst 1, 1, 0, 0), (17, .isub, 1, 0, 0), (18, .aaload, 1, 0, 0), (19, .astore_n 2, 1, 0, 0), (20, .aload_n 0, 1, 0, 0), (21, .getfield 11, 3, 3, 0), (24, .iload_n 1, 1, 0, 0), (25, .iconst 1, 1, 0, 0), (26, .isub, 1, 0, 0), (27, .aload_n 0, 1, 0, 0), (28, .getfield 11, 3, 3, 0), (31, .iload_n 1, 1, 0, 0), (32, .aaload, 1, 0, 0), (33, .aastore, 1, 0, 0), (34, .aload_n 0, 1, 0, 0), (35, .getfield 11, 3, 3, 0), (38, .iload_n 1, 1, 0, 0), (39, .aload_n 2, 1, 0, 0), (40, .aastore, 1, 0, 0), (41, .iinc 1 1, 3, 0, 0), (44, .goto (-42), 3, 2, 0), (47, .return_, 1, 0, 0)]
def zc42 : List (Nat × Instr × Nat × Nat × Nat) := [(0, .aload_n 0, 1, 0, 0), (1, .getfield 18, 3, 3, 1), (4, .ifCond .le 29, 3, 33, 0), (7, .aload_n 0, 1, 0, 0), (8, .getfield 18, 3, 3, 1), (11, .aload_n 0, 1, 0, 0), (12, .getfield 11, 3, 3, 0), (15, .arraylength, 1, 0, 0), (16, .if_icmp .gt 17, 3, 33, 0), (19, .aload_n 0, 1, 0, 0), (20, .getfield 11, 3, 3, 0), (23, .aload_n 0, 1, 0, 0), (24, .getfield 18, 3, 3, 1), (27, .iconst 1, 1, 0, 0), (28, .isub, 1, 0, 0), (29, .aaload, 1, 0, 0), (30, .goto 4, 3, 34, 0), (33, .aconst_null, 1, 0, 0), (34, .areturn, 1, 0, 0)]
def zc43 : List (Nat × Instr × Nat × Nat × Nat) := [(0, .aload_n 0, 1, 0, 0), (1, .getfield 18, 3, 3, 1), (4, .ifCond .le 13, 3, 17, 0), (7, .aload_n 0, 1, 0, 0), (8, .dup, 1, 0, 0), (9, .getfield 18, 3, 3, 1), (12, .iconst 1, 1, 0, 0), (13, .isub, 1, 0, 0), (14, .putfield 18, 3, 3, 1), (17, .return_, 1, 0, 0)]
def zc44 : List (Nat × Instr × Nat × Nat × Nat) := [(0, .aload_n 0, 1, 0, 0), (1, .invokespecial 3, 3, 1002, 0), (4, .aload_n 0, 1, 0, 0), (5, .new 9, 3, 0, 0), (8, .dup, 1, 0, 0), (9, .bipush 96, 2, 0, 0), (11, .invokespecial 11, 3, 0, 1), (14, .putfield 14, 3, 4, 0), (17, .aload_n 0, 1, 0, 0), (18, .new 9, 3, 0, 0), (21, .dup, 1, 0, 0), (22, .bipush 96, 2, 0, 0), (24, .invokespecial 11, 3, 0, 1), (27, .putfield 20, 3, 4, 1), (30, .aload_n 0, 1, 0, 0), (31, .new 9, 3, 0, 0), (34, .dup, 1, 0, 0), (35, .bipush 96, 2, 0, 0), (37, .invokespecial 11, 3, 0, 1), (40, .putfield 23, 3, 4, 2), (43, .aload_n 0, 1, 0, 0), (44, .new 9, 3, 0, 0), (47, .dup, 1, 0, 0), (48, .bipush 96, 2, 0, 0), (50, .invokespecial 11, 3, 0, 1), (53, .putfield 26, 3, 4, 3), (56, .return_, 1, 0, 0)]
def zc45 : List (Nat × Instr × Nat × Nat × Nat) := [(0, .aload_n 0, 1, 0, 0), (1, .iconst 0, 1, 0, 0), (2, .putfield 29, 3, 4, 4), (5, .return_, 1, 0, 0)]
def zc46 : List (Nat × Instr × Nat × Nat × Nat) := [(0, .aload_n 0, 1, 0, 0), (1, .getfield 29, 3, 4, 4), (4, .bipush 96, 2, 0, 0), (6, .if_icmp .ge 62, 3, 68, 0), (9, .aload_n 0, 1, 0, 0), (10, .getfield 14, 3, 4, 0), (13, .aload_n 0, 1, 0, 0), (14, .getfield 29, 3, 4, 4), (17, .iload_n 1, 1, 0, 0), (18, .invokevirtual 33, 3, 2, 2), (21, .aload_n 0, 1, 0, 0), (22, .getfield 20, 3, 4, 1), (25, .aload_n 0, 1, 0, 0), (26, .getfield 29, 3, 4, 4), (29, .iload_n 2, 1, 0, 0), (30, .invokevirtual 33, 3, 2, 2), (33, .aload_n 0, 1, 0, 0), (34, .getfield 23, 3, 4, 2), (37, .aload_n 0, 1, 0, 0), (38, .getfield 29, 3, 4, 4), (41, .iload_n 3, 1, 0, 0), (42, .invokevirtual 33, 3, 2, 2), (45, .aload_n 0, 1, 0, 0), (46, .getfield 26, 3, 4, 3), (49, .aload_n 0, 1, 0, 0), (50, .getfield 29, 3, 4, 4), (53, .iload 4, 2, 0, 0), (55, .invokevirtual 33, 3, 2, 2), (58, .aload_n 0, 1, 0, 0), (59, .dup, 1, 0, 0), (60, .getfield 29, 3, 4, 4), (63, .iconst 1, 1, 0, 0), (64, .iadd, 1, 0, 0), (65, .putfield 29, 3, 4, 4), (68, .return_, 1, 0, 0)]
def zc47 : List (Nat × Instr × Nat × Nat × Nat) := [(0, .aload_n 0, 1, 0, 0), (1, .aload_n 0, 1, 0, 0), (2, .getfield 20, 3, 4, 1), (5, .iload_n 1, 1, 0, 0), (6, .invokevirtual 37, 3, 49, 2), (9, .ireturn, 1, 0, 0)]
def zc48 : List (Nat × Instr × Nat × Nat × Nat) := [(0, .aload_n 0, 1, 0, 0), (1, .aload_n 0, 1, 0, 0), (2, .getfield 23, 3, 4, 2), (5, .iload_n 1, 1, 0, 0), (6, .invokevirtual 37, 3, 49, 2), (9, .ireturn, 1, 0, 0)]
def zc49 : List (Nat × Instr × Nat × Nat × Nat) := [(0, .iconst 0, 1, 0, 0), (1, .istore_n 3, 1, 0, 0), (2, .iconst 0, 1, 0, 0), (3, .istore 4, 2, 0, 0), (5, .iload 4, 2, 0, 0), (7, .aload_n 0, 1, 0, 0), (8, .getfield 29, 3, 4, 4), (11, .if_icmp .ge 27, 3, 38, 0), (14, .iload_n 3, 1, 0, 0), (15, .aload_n 1, 1, 0, 0), (16, .iload 4, 2, 0, 0), (18, .invokevirtual 41, 3, 1, 1), (21, .iload_n 2, 1, 0, 0), (22, .if_icmp .ne 7, 3, 29, 0), (25, .iconst 1, 1, 0, 0), (26, .goto 4, 3, 30, 0), (29, .iconst 0, 1, 0, 0), (30, .iadd, 1, 0, 0), (31, .istore_n 3, 1, 0, 0), (32, .iinc 4 1, 3, 0, 0), (35, .goto (-30), 3, 5, 0), (38, .iload_n 3, 1, 0, 0), (39, .ireturn, 1, 0, 0)]
def zc50 : List (Nat × Instr × Nat × Nat × Nat) := [(0, .iload_n 1, 1, 0, 0), (1, .istore_n 3, 1, 0, 0), (2, .iconst 0, 1, 0, 0), (3, .istore 4, 2, 0, 0), (5, .iload 4, 2, 0, 0), (7, .aload_n 0, 1, 0, 0), (8, .getfield 29, 3, 4, 4), (11, .if_icmp .ge 75, 3, 86, 0), (14, .aload_n 0, 1, 0, 0), (15, .getfield 14, 3, 4, 0), (18, .iload 4, 2, 0, 0), (20, .invokevirtual 41, 3, 1, 1), (23, .iload_n 2, 1, 0, 0), (24, .if_icmp .gt 62, 3, 86, 0), (27, .aload_n 0, 1, 0, 0), (28, .getfield 20, 3, 4, 1), (31, .iload 4, 2, 0, 0), (33, .invokevirtual 41, 3, 1, 1), (36, .iload_n 1, 1, 0, 0), (37, .if_icmp .ne 18, 3, 55, 0), (40, .iload_n 3, 1, 0, 0), (41, .aload_n 0, 1, 0, 0), (42, .getfield 26, 3, 4, 3), (45, .iload 4, 2, 0, 0), (47, .invokevirtual 41, 3, 1, 1), (50, .isub, 1, 0, 0), (51, .istore_n 3, 1, 0, 0), (52, .goto 28, 3, 80, 0), (55, .aload_n 0, 1, 0, 0), (56, .getfield 23, 3, 4, 2), (59, .iload 4, 2, 0, 0), (61, .invokevirtual 41, 3, 1, 1), (64, .iload_n 1, 1, 0, 0), (65, .if_icmp .ne 15, 3, 80, 0), (68, .iload_n 3, 1, 0, 0), (69, .aload_n 0, 1, 0, 0), (70, .getfield 26, 3, 4, 3), (73, .iload 4, 2, 0, 0), (75, .invokevirtual 41, 3, 1, 1), (78, .iadd, 1, 0, 0), (79, .istore_n 3, 1, 0, 0), (80, .iinc 4 1, 3, 0, 0), (83, .goto (-78), 3, 5, 0), (86, .iload_n 3, 1, 0, 0), (87, .ireturn, 1, 0, 0)]
def zc51 : List (Nat × Instr × Nat × Nat × Nat) := [(0, .aload_n 0, 1, 0, 0), (1, .getfield 14, 3, 4, 0), (4, .aload_n 1, 1, 0, 0), (5, .getfield 14, 3, 4, 0), (8, .invokevirtual 45, 3, 3, 1), (11, .aload_n 0, 1, 0, 0), (12, .getfield 20, 3, 4, 1), (15, .aload_n 1, 1, 0, 0), (16, .getfield 20, 3, 4, 1), (19, .invokevirtual 45, 3, 3, 1), (22, .aload_n 0, 1, 0, 0), (23, .getfield 23, 3, 4, 2), (26, .aload_n 1, 1, 0, 0), (27, .getfield 23, 3, 4, 2), (30, .invokevirtual 45, 3, 3, 1), (33, .aload_n 0, 1, 0, 0), (34, .getfield 26, 3, 4, 3), (37, .aload_n 1, 1, 0, 0), (38, .getfield 26, 3, 4, 3), (41, .invokevirtual 45, 3, 3, 1), (44, .aload_n 0, 1, 0, 0), (45, .aload_n 1, 1, 0, 0), (46, .getfield 29, 3, 4, 4), (49, .putfield 29, 3, 4, 4), (52, .return_, 1, 0, 0)]
def zc52 : List (Nat × Instr × Nat × Nat × Nat) := [(0, .aload_n 0, 1, 0, 0), (1, .invokespecial 3, 3, 1002, 0), (4, .aload_n 0, 1, 0, 0), (5, .new 9, 3, 0, 0), (8, .dup, 1, 0, 0), (9, .iconst 4, 1, 0, 0), (10, .invokespecial 11, 3, 0, 1), (13, .putfield 14, 3, 5, 0), (16, .aload_n 0, 1, 0, 0), (17, .new 9, 3, 0, 0), (20, .dup, 1, 0, 0), (21, .iconst 4, 1, 0, 0), (22, .invokespecial 11, 3, 0, 1), (25, .putfield 20, 3, 5, 1), (28, .return_, 1, 0, 0)]
def zc53 : List (Nat × Instr × Nat × Nat × Nat) := [(0, .iload_n 1, 1, 0, 0), (1, .ifCond .lt 15, 3, 16, 0), (4, .iload_n 1, 1, 0, 0), (5, .aload_n 0, 1, 0, 0), (6, .getfield 23, 3, 5, 2), (9, .if_icmp .ge 7, 3, 16, 0), (12, .iconst 1, 1, 0, 0), (13, .goto 4, 3, 17, 0), (16, .iconst 0, 1, 0, 0), (17, .ireturn, 1, 0, 0)]
def zc54 : List (Nat × Instr × Nat × Nat × Nat) := [(0, .aload_n 0, 1, 0, 0), (1, .getfield 23, 3, 5, 2), (4, .iconst 4, 1, 0, 0), (5, .if_icmp .ge 37, 3, 42, 0), (8, .aload_n 0, 1, 0, 0), (9, .getfield 14, 3, 5, 0), (12, .aload_n 0, 1, 0, 0), (13, .getfield 23, 3, 5, 2), (16, .iload_n 1, 1, 0, 0), (17, .invokevirtual 27, 3, 2, 2), (20, .aload_n 0, 1, 0, 0), (21, .getfield 20, 3, 5, 1), (24, .aload_n 0, 1, 0, 0), (25, .getfield 23, 3, 5, 2), (28, .iload_n 2, 1, 0, 0), (29, .invokevirtual 27, 3, 2, 2), (32, .aload_n 0, 1, 0, 0), (33, .dup, 1, 0, 0), (34, .getfield 23, 3, 5, 2), (37, .iconst 1, 1, 0, 0), (38, .iadd, 1, 0, 0), (39, .putfield 23, 3, 5, 2), (42, .return_, 1, 0, 0)]
def zc55 : List (Nat × Instr × Nat × Nat × Nat) := [(0, .iconst 0, 1, 0, 0), (1, .istore_n 2, 1, 0, 0), (2, .iload_n 2, 1, 0, 0), (3, .aload_n 0, 1, 0, 0), (4, .getfield 23, 3, 5, 2), (7, .if_icmp .ge 35, 3, 42, 0), (10, .aload_n 0, 1, 0, 0), (11, .getfield 14, 3, 5, 0), (14, .iload_n 2, 1, 0, 0), (15, .invokevirtual 31, 3, 1, 1), (18, .iload_n 1, 1, 0, 0), (19, .if_icmp .eq 15, 3, 34, 0), (22, .aload_n 0, 1, 0, 0), (23, .getfield 20, 3, 5, 1), (26, .iload_n 2, 1, 0, 0), (27, .invokevirtual 31, 3, 1, 1), (30, .iload_n 1, 1, 0, 0), (31, .if_icmp .ne 5, 3, 36, 0), (34, .iconst 1, 1, 0, 0), (35, .ireturn, 1, 0, 0), (36, .iinc 2 1, 3, 0, 0), (39, .goto (-37), 3, 2, 0), (42, .iconst 0, 1, 0, 0), (43, .ireturn, 1, 0, 0)]
def zc56 : List (Nat × Instr × Nat × Nat × Nat) := [(0, .aload_n 0, 1, 0, 0), (1, .getfield 23, 3, 5, 2), (4, .istore_n 2, 1, 0, 0), (5, .aload_n 0, 1, 0, 0), (6, .iconst 0, 1, 0, 0), (7, .putfield 23, 3, 5, 2), (10, .iconst 0, 1, 0, 0), (11, .istore_n 3, 1, 0, 0), (12, .iload_n 3, 1, 0, 0), (13, .iload_n 2, 1, 0, 0), (14, .if_icmp .ge 37, 3, 51, 0), (17, .iload_n 1, 1, 0, 0), (18, .iconst 1, 1, 0, 0), (19, .iload_n 3, 1, 0, 0), (20, .ishl, 1, 0, 0), (21, .iand, 1, 0, 0), (22, .ifCond .ne 23, 3, 45, 0), (25, .aload_n 0, 1, 0, 0), (26, .aload_n 0, 1, 0, 0), (27, .getfield 14, 3, 5, 0), (30, .iload_n 3, 1, 0, 0), (31, .invokevirtual 31, 3, 1, 1), (34, .aload_n 0, 1, 0, 0), (35, .getfield 20, 3, 5, 1), (38, .iload_n 3, 1, 0, 0), (39, .invokevirtual 31, 3, 1, 1), (42, .invokevirtual 35, 3, 54, 2), (45, .iinc 3 1, 3, 0, 0), (48, .goto (-36), 3, 12, 0), (51, .return_, 1, 0, 0)]
def zc57 : List (Nat × Instr × Nat × Nat × Nat) := [(0, .aload_n 0, 1, 0, 0), (1, .getfield 14, 3, 5, 0), (4, .aload_n 1, 1, 0, 0), (5, .getfield 14, 3, 5, 0), (8, .invokevirtual 38, 3, 3, 1), (11, .aload_n 0, 1, 0, 0), (12, .getfield 20, 3, 5, 1), (15, .aload_n 1, 1, 0, 0), (16, .getfield 20, 3, 5, 1), (19, .invokevirtual 38, 3, 3, 1), (22, .aload_n 0, 1, 0, 0), (23, .aload_n 1, 1, 0, 0), (24, .getfield 23, 3, 5, 2), (27, .putfield 23, 3, 5, 2), (30, .return_, 1, 0, 0)]
def zc58 : List (Nat × Instr × Nat × Nat × Nat) := [(0, .aload_n 0, 1, 0, 0), (1, .invokespecial 3, 3, 1002, 0), (4, .aload_n 0, 1, 0, 0), (5, .new 9, 3, 5, 0), (8, .dup, 1, 0, 0), (9, .invokespecial 11, 3, 52, 0), (12, .putfield 12, 3, 6, 4), (15, .aload_n 0, 1, 0, 0), (16, .new 18, 3, 0, 0), (19, .dup, 1, 0, 0), (20, .bipush 80, 2, 0, 0), (22, .invokespecial 20, 3, 0, 1), (25, .putfield 23, 3, 6, 5), (28, .return_, 1, 0, 0)]
def zc59 : List (Nat × Instr × Nat × Nat × Nat) := [(0, .aload_n 0, 1, 0, 0), (1, .getfield 27, 3, 6, 0), (4, .bipush 80, 2, 0, 0), (6, .if_icmp .ge 25, 3, 31, 0), (9, .aload_n 0, 1, 0, 0), (10, .getfield 23, 3, 6, 5), (13, .aload_n 0, 1, 0, 0), (14, .getfield 27, 3, 6, 0), (17, .iload_n 1, 1, 0, 0), (18, .invokevirtual 31, 3, 2, 2), (21, .aload_n 0, 1, 0, 0), (22, .dup, 1, 0, 0), (23, .getfield 27, 3, 6, 0), (26, .iconst 1, 1, 0, 0), (27, .iadd, 1, 0, 0), (28, .putfield 27, 3, 6, 0), (31, .return_, 1, 0, 0)]
def zc60 : List (Nat × Instr × Nat × Nat × Nat) := [(0, .aload_n 0, 1, 0, 0), (1, .getfield 12, 3, 6, 4), (4, .aload_n 1, 1, 0, 0), (5, .getfield 35, 3, 1, 3), (8, .invokevirtual 40, 3, 57, 1), (11, .aload_n 0, 1, 0, 0), (12, .iconst 0, 1, 0, 0), (13, .putfield 44, 3, 6, 3), (16, .aload_n 0, 1, 0, 0), (17, .iconst 0, 1, 0, 0), (18, .putfield 47, 3, 6, 1), (21, .iconst 0, 1, 0, 0), (22, .istore_n 2, 1, 0, 0), (23, .iconst 0, 1, 0, 0), (24, .istore_n 3, 1, 0, 0), (25, .iload_n 3, 1, 0, 0), (26, .bipush 80, 2, 0, 0), (28, .if_icmp .ge 93, 3, 121, 0), (31, .iload_n 2, 1, 0, 0), (32, .aload_n 0, 1, 0, 0), (33, .getfield 27, 3, 6, 0), (36, .if_icmp .ge 85, 3, 121, 0), (39, .aload_n 0, 1, 0, 0), (40, .getfield 47, 3, 6, 1), (43, .ifCond .ne 78, 3, 121, 0), (46, .aload_n 0, 1, 0, 0), (47, .aload_n 0, 1, 0, 0), (48, .iload_n 2, 1, 0, 0), (49, .invokevirtual 50, 3, 61, 1), (52, .ifCond .eq 22, 3, 74, 0), (55, .aload_n 1, 1, 0, 0), (56, .aload_n 0, 1, 0, 0), (57, .getfield 12, 3, 6, 4), (60, .aload_n 0, 1, 0, 0), (61, .getfield 54, 3, 6, 6), (64, .aload_n 0, 1, 0, 0), (65, .getfield 57, 3, 6, 7), (68, .invokevirtual 60, 3, 16, 3), (71, .goto 4, 3, 75, 0), (74, .iconst 1, 1, 0, 0), (75, .putfield 47, 3, 6, 1), (78, .aload_n 0, 1, 0, 0), (79, .getfield 47, 3, 6, 1), (82, .ifCond .ne 33, 3, 115, 0), (85, .aload_n 0, 1, 0, 0), (86, .getfield 12, 3, 6, 4), (89, .aload_n 0, 1, 0, 0), (90, .getfield 54, 3, 6, 6), (93, .aload_n 0, 1, 0, 0), (94, .getfield 57, 3, 6, 7), (97, .invokevirtual 64, 3, 54, 2), (100, .aload_n 0, 1, 0, 0), (101, .dup, 1, 0, 0), (102, .getfield 44, 3, 6, 3), (105, .iconst 1, 1, 0, 0), (106, .iadd, 1, 0, 0), (107, .putfield 44, 3, 6, 3), (110, .aload_n 0, 1, 0, 0), (111, .getfield 67, 3, 6, 8), (114, .istore_n 2, 1, 0, 0), (115, .iinc 3 1, 3, 0, 0), (118, .goto (-93), 3, 25, 0), (121, .aload_n 0, 1, 0, 0), (122, .iload_n 2, 1, 0, 0), (123, .putfield 70, 3, 6, 2), (126, .return_, 1, 0, 0)]
def zc61 : List (Nat × Instr × Nat × Nat × Nat) := [(0, .iload_n 1, 1, 0, 0), (1, .aload_n 0, 1, 0, 0), (2, .iload_n 1, 1, 0, 0), (3, .invokevirtual 73, 3, 62, 1), (6, .iadd, 1, 0, 0), (7, .istore_n 2, 1, 0, 0), (8, .iload_n 2, 1, 0, 0), (9, .iconst 1, 1, 0, 0), (10, .iadd, 1, 0, 0), (11, .aload_n 0, 1, 0, 0), (12, .iload_n 2, 1, 0, 0), (13, .iconst 1, 1, 0, 0), (14, .iadd, 1, 0, 0), (15, .invokevirtual 73, 3, 62, 1), (18, .iadd, 1, 0, 0), (19, .istore_n 3, 1, 0, 0), (20, .aload_n 0, 1, 0, 0), (21, .iload_n 2, 1, 0, 0), (22, .invokevirtual 77, 3, 64, 1), (25, .bipush 45, 2, 0, 0), (27, .if_icmp .ne 13, 3, 40, 0), (30, .aload_n 0, 1, 0, 0), (31, .iload_n 3, 1, 0, 0), (32, .invokevirtual 77, 3, 64, 1), (35, .bipush 59, 2, 0, 0), (37, .if_icmp .eq 5, 3, 42, 0), (40, .iconst 0, 1, 0, 0), (41, .ireturn, 1, 0, 0), (42, .aload_n 0, 1, 0, 0), (43, .aload_n 0, 1, 0, 0), (44, .iload_n 1, 1, 0, 0), (45, .iload_n 2, 1, 0, 0), (46, .invokevirtual 80, 3, 63, 2), (49, .putfield 54, 3, 6, 6), (52, .aload_n 0, 1, 0, 0), (53, .aload_n 0, 1, 0, 0), (54, .iload_n 2, 1, 0, 0), (55, .iconst 1, 1, 0, 0), (56, .iadd, 1, 0, 0), (57, .iload_n 3, 1, 0, 0), (58, .invokevirtual 80, 3, 63, 2), (61, .putfield 57, 3, 6, 7), (64, .aload_n 0, 1, 0, 0), (65, .iload_n 3, 1, 0, 0), (66, .iconst 1, 1, 0, 0), (67, .iadd, 1, 0, 0), (68, .putfield 67, 3, 6, 8), (71, .iload_n 2, 1, 0, 0), (72, .iload_n 1, 1, 0, 0), (73, .if_icmp .le 14, 3, 87, 0), (76, .iload_n 3, 1, 0, 0), (77, .iload_n 2, 1, 0, 0), (78, .iconst 1, 1, 0, 0), (79, .iadd, 1, 0, 0), (80, .if_icmp .le 7, 3, 87, 0), (83, .iconst 1, 1, 0, 0), (84, .goto 4, 3, 88, 0), (87, .iconst 0, 1, 0, 0), (88, .ireturn, 1, 0, 0)]
def zc62 : List (Nat × Instr × Nat × Nat × Nat) := [(0, .iconst 0, 1, 0, 0), (1, .istore_n 2, 1, 0, 0), (2, .iload_n 2, 1, 0, 0), (3, .iconst 2, 1, 0, 0), (4, .if_icmp .ge 33, 3, 37, 0), (7, .aload_n 0, 1, 0, 0), (8, .iload_n 1, 1, 0, 0), (9, .iload_n 2, 1, 0, 0), (10, .iadd, 1, 0, 0), (11, .invokevirtual 77, 3, 64, 1), (14, .bipush 48, 2, 0, 0), (16, .if_icmp .lt 21, 3, 37, 0), (19, .aload_n 0, 1, 0, 0), (20, .iload_n 1, 1, 0, 0), (21, .iload_n 2, 1, 0, 0), (22, .iadd, 1, 0, 0), (23, .invokevirtual 77, 3, 64, 1), (26, .bipush 57, 2, 0, 0), (28, .if_icmp .gt 9, 3, 37, 0), (31, .iinc 2 1, 3, 0, 0), (34, .goto (-32), 3, 2, 0), (37, .iload_n 2, 1, 0, 0), (38, .ireturn, 1, 0, 0)]
def zc63 : List (Nat × Instr × Nat × Nat × Nat) := [(0, .iconst 0, 1, 0, 0), (1, .istore_n 3, 1, 0, 0), (2, .iload_n 1, 1, 0, 0), (3, .istore 4, 2, 0, 0), (5, .iload 4, 2, 0, 0), (7, .iload_n 2, 1, 0, 0), (8, .if_icmp .ge 24, 3, 32, 0), (11, .iload_n 3, 1, 0, 0), (12, .bipush 10, 2, 0, 0), (14, .imul, 1, 0, 0), (15, .aload_n 0, 1, 0, 0), (16, .iload 4, 2, 0, 0), (18, .invokevirtual 77, 3, 64, 1), (21, .iadd, 1, 0, 0), (22, .bipush 48, 2, 0, 0), (24, .isub, 1, 0, 0), (25, .istore_n 3, 1, 0, 0), (26, .iinc 4 1, 3, 0, 0), (29, .goto (-24), 3, 5, 0), (32, .iload_n 3, 1, 0, 0), (33, .ireturn, 1, 0, 0)]
def zc64 : List (Nat × Instr × Nat × Nat × Nat) := [(0, .iload_n 1, 1, 0, 0), (1, .aload_n 0, 1, 0, 0), (2, .getfield 27, 3, 6, 0), (5, .if_icmp .ge 14, 3, 19, 0), (8, .aload_n 0, 1, 0, 0), (9, .getfield 23, 3, 6, 5), (12, .iload_n 1, 1, 0, 0), (13, .invokevirtual 84, 3, 1, 1), (16, .goto 4, 3, 20, 0), (19, .iconst 0, 1, 0, 0), (20, .ireturn, 1, 0, 0)]
def zc65 : List (Nat × Instr × Nat × Nat × Nat) := [(0, .aload_n 0, 1, 0, 0), (1, .invokespecial 1, 3, 1002, 0), (4, .aload_n 0, 1, 0, 0), (5, .new 7, 3, 1, 0), (8, .dup, 1, 0, 0), (9, .invokespecial 9, 3, 4, 0), (12, .putfield 10, 3, 7, 0), (15, .aload_n 0, 1, 0, 0), (16, .new 16, 3, 3, 0), (19, .dup, 1, 0, 0), (20, .invokespecial 18, 3, 39, 0), (23, .putfield 19, 3, 7, 1), (26, .aload_n 0, 1, 0, 0), (27, .new 23, 3, 2, 0), (30, .dup, 1, 0, 0), (31, .invokespecial 25, 3, 32, 0), (34, .putfield 26, 3, 7, 2), (37, .aload_n 0, 1, 0, 0), (38, .new 30, 3, 6, 0), (41, .dup, 1, 0, 0), (42, .invokespecial 32, 3, 58, 0), (45, .putfield 33, 3, 7, 3), (48, .aload_n 0, 1, 0, 0), (49, .getfield 10, 3, 7, 0), (52, .bipush 12, 2, 0, 0), (54, .iconst 4, 1, 0, 0), (55, .iconst 4, 1, 0, 0), (56, .invokevirtual 37, 3, 5, 3), (59, .return_, 1, 0, 0)]
def zc66 : List (Nat × Instr × Nat × Nat × Nat) := [(0, .iload_n 1, 1, 0, 0), (1, .iconst 2, 1, 0, 0), (2, .if_icmp .lt 31, 3, 33, 0), (5, .iload_n 1, 1, 0, 0), (6, .bipush 24, 2, 0, 0), (8, .if_icmp .gt 25, 3, 33, 0), (11, .iload_n 2, 1, 0, 0), (12, .iconst 3, 1, 0, 0), (13, .if_icmp .lt 20, 3, 33, 0), (16, .iload_n 2, 1, 0, 0), (17, .bipush 8, 2, 0, 0), (19, .if_icmp .gt 14, 3, 33, 0), (22, .iload_n 3, 1, 0, 0), (23, .iconst 1, 1, 0, 0), (24, .if_icmp .lt 9, 3, 33, 0), (27, .iload_n 3, 1, 0, 0), (28, .bipush 6, 2, 0, 0), (30, .if_icmp .le 7, 3, 37, 0), (33, .sipush (-1001), 3, 0, 0), (36, .ireturn, 1, 0, 0), (37, .aload_n 0, 1, 0, 0), (38, .getfield 19, 3, 7, 1), (41, .aload_n 0, 1, 0, 0), (42, .getfield 10, 3, 7, 0), (45, .invokevirtual 41, 3, 40, 1), (48, .aload_n 0, 1, 0, 0), (49, .getfield 10, 3, 7, 0), (52, .iload_n 1, 1, 0, 0), (53, .iload_n 2, 1, 0, 0), (54, .iload_n 3, 1, 0, 0), (55, .invokevirtual 37, 3, 5, 3), (58, .aload_n 0, 1, 0, 0), (59, .getfield 10, 3, 7, 0), (62, .invokevirtual 45, 3, 9, 0), (65, .ireturn, 1, 0, 0)]
def zc67 : List (Nat × Instr × Nat × Nat × Nat) := [(0, .aload_n 0, 1, 0, 0), (1, .getfield 10, 3, 7, 0), (4, .iload_n 1, 1, 0, 0), (5, .invokevirtual 49, 3, 6, 1), (8, .ifCond .eq 15, 3, 23, 0), (11, .iload_n 2, 1, 0, 0), (12, .iconst 1, 1, 0, 0), (13, .if_icmp .lt 10, 3, 23, 0), (16, .iload_n 2, 1, 0, 0), (17, .sipush 1000, 3, 0, 0), (20, .if_icmp .le 7, 3, 27, 0), (23, .sipush (-1001), 3, 0, 0), (26, .ireturn, 1, 0, 0), (27, .aload_n 0, 1, 0, 0), (28, .getfield 19, 3, 7, 1), (31, .aload_n 0, 1, 0, 0), (32, .getfield 10, 3, 7, 0), (35, .invokevirtual 41, 3, 40, 1), (38, .aload_n 0, 1, 0, 0), (39, .getfield 10, 3, 7, 0), (42, .getfield 53, 3, 1, 0), (45, .iload_n 1, 1, 0, 0), (46, .invokevirtual 57, 3, 1, 1), (49, .istore_n 3, 1, 0, 0), (50, .aload_n 0, 1, 0, 0), (51, .getfield 10, 3, 7, 0), (54, .getfield 53, 3, 1, 0), (57, .iload_n 1, 1, 0, 0), (58, .iload_n 2, 1, 0, 0), (59, .invokevirtual 63, 3, 2, 2), (62, .iload_n 3, 1, 0, 0), (63, .ireturn, 1, 0, 0)]
def zc68 : List (Nat × Instr × Nat × Nat × Nat) := [(0, .iload_n 1, 1, 0, 0), (1, .ifCond .ne 45, 3, 46, 0), (4, .iload_n 2, 1, 0, 0), (5, .bipush 100, 2, 0, 0), (7, .if_icmp .lt 39, 3, 46, 0), (10, .iload_n 2, 1, 0, 0), (11, .sipush 5000, 3, 0, 0), (14, .if_icmp .gt 32, 3, 46, 0), (17, .aload_n 0, 1, 0, 0), (18, .getfield 19, 3, 7, 1), (21, .aload_n 0, 1, 0, 0), (22, .getfield 10, 3, 7, 0), (25, .invokevirtual 41, 3, 40, 1), (28, .aload_n 0, 1, 0, 0), (29, .getfield 10, 3, 7, 0), (32, .getfield 67, 3, 1, 10), (35, .istore_n 3, 1, 0, 0), (36, .aload_n 0, 1, 0, 0), (37, .getfield 10, 3, 7, 0), (40, .iload_n 2, 1, 0, 0), (41, .putfield 67, 3, 1, 10), (44, .iload_n 3, 1, 0, 0), (45, .ireturn, 1, 0, 0), (46, .iload_n 1, 1, 0, 0), (47, .iconst 1, 1, 0, 0), (48, .if_icmp .ne 44, 3, 92, 0), (51, .iload_n 2, 1, 0, 0), (52, .iconst 1, 1, 0, 0), (53, .if_icmp .lt 39, 3, 92, 0), (56, .iload_n 2, 1, 0, 0), (57, .sipush 1000, 3, 0, 0), (60, .if_icmp .gt 32, 3, 92, 0), (63, .aload_n 0, 1, 0, 0), (64, .getfield 19, 3, 7, 1), (67, .aload_n 0, 1, 0, 0), (68, .getfield 10, 3, 7, 0), (71, .invokevirtual 41, 3, 40, 1), (74, .aload_n 0, 1, 0, 0), (75, .getfield 10, 3, 7, 0), (78, .getfield 71, 3, 1, 11), (81, .istore_n 3, 1, 0, 0), (82, .aload_n 0, 1, 0, 0), (83, .getfield 10, 3, 7, 0), (86, .iload_n 2, 1, 0, 0), (87, .putfield 71, 3, 1, 11), (90, .iload_n 3, 1, 0, 0), (91, .ireturn, 1, 0, 0), (92, .sipush (-1001), 3, 0, 0), (95, .ireturn, 1, 0, 0)]
def zc69 : List (Nat × Instr × Nat × Nat × Nat) := [(0, .iload_n 1, 1, 0, 0), (1, .tableswitch 226 0 12 #[67, 75, 83, 91, 99, 107, 131, 158, 182, 190, 198, 206, 214], 67, 0, 0), (68, .aload_n 0, 1, 0, 0), (69, .getfield 10, 3, 7, 0), (72, .getfield 74, 3, 1, 5), (75, .ireturn, 1, 0, 0), (76, .aload_n 0, 1, 0, 0), (77, .getfield 10, 3, 7, 0), (80, .getfield 77, 3, 1, 6), (83, .ireturn, 1, 0, 0), (84, .aload_n 0, 1, 0, 0), (85, .getfield 10, 3, 7, 0), (88, .invokevirtual 45, 3, 9, 0), (91, .ireturn, 1, 0, 0), (92, .aload_n 0, 1, 0, 0), (93, .getfield 10, 3, 7, 0), (96, .getfield 80, 3, 1, 7), (99, .ireturn, 1, 0, 0), (100, .aload_n 0, 1, 0, 0), (101, .getfield 10, 3, 7, 0), (104, .getfield 83, 3, 1, 8), (107, .ireturn, 1, 0, 0), (108, .aload_n 0, 1, 0, 0), (109, .getfield 10, 3, 7, 0), (112, .invokevirtual 86, 3, 8, 0), (115, .ifCond .eq 13, 3, 128, 0), (118, .aload_n 0, 1, 0, 0), (119, .getfield 10, 3, 7, 0), (122, .getfield 90, 3, 1, 9), (125, .goto 6, 3, 131, 0), (128, .sipush (-1004), 3, 0, 0), (131, .ireturn, 1, 0, 0), (132, .aload_n 0, 1, 0, 0), (133, .getfield 10, 3, 7, 0), (136, .invokevirtual 86, 3, 8, 0), (139, .ifCond .eq 16, 3, 155, 0), (142, .aload_n 0, 1, 0, 0), (143, .getfield 10, 3, 7, 0), (146, .getfield 93, 3, 1, 3), (149, .getfield 97, 3, 5, 2), (152, .goto 6, 3, 158, 0), (155, .sipush (-1004), 3, 0, 0), (158, .ireturn, 1, 0, 0), (159, .aload_n 0, 1, 0, 0), (160, .getfield 10, 3, 7, 0), (163, .invokevirtual 86, 3, 8, 0), (166, .ifCond .eq 13, 3, 179, 0), (169, .aload_n 0, 1, 0, 0), (170, .getfield 10, 3, 7, 0), (173, .invokevirtual 102, 3, 12, 0), (176, .goto 6, 3, 182, 0), (179, .sipush (-1004), 3, 0, 0), (182, .ireturn, 1, 0, 0), (183, .aload_n 0, 1, 0, 0), (184, .getfield 10, 3, 7, 0), (187, .getfield 67, 3, 1, 10), (190, .ireturn, 1, 0, 0), (191, .aload_n 0, 1, 0, 0), (192, .getfield 10, 3, 7, 0), (195, .getfield 71, 3, 1, 11), (198, .ireturn, 1, 0, 0), (199, .aload_n 0, 1, 0, 0), (200, .getfield 19, 3, 7, 1), (203, .getfield 105, 3, 3, 1), (206, .ireturn, 1, 0, 0), (207, .aload_n 0, 1, 0, 0), (208, .getfield 33, 3, 7, 3), (211, .getfield 108, 3, 6, 0), (214, .ireturn, 1, 0, 0), (215, .aload_n 0, 1, 0, 0), (216, .getfield 10, 3, 7, 0), (219, .getfield 111, 3, 1, 2), (222, .iconst 0, 1, 0, 0), (223, .invokevirtual 57, 3, 1, 1), (226, .ireturn, 1, 0, 0), (227, .sipush (-1001), 3, 0, 0), (230, .ireturn, 1, 0, 0)]
def zc70 : List (Nat × Instr × Nat × Nat × Nat) := [(0, .aload_n 0, 1, 0, 0), (1, .getfield 10, 3, 7, 0), (4, .iload_n 1, 1, 0, 0), (5, .invokevirtual 49, 3, 6, 1), (8, .ifCond .ne 7, 3, 15, 0), (11, .sipush (-1001), 3, 0, 0), (14, .ireturn, 1, 0, 0), (15, .iload_n 2, 1, 0, 0), (16, .tableswitch 189 0 9 #[56, 68, 80, 89, 115, 138, 147, 156, 165, 177], 56, 0, 0), (72, .aload_n 0, 1, 0, 0), (73, .getfield 10, 3, 7, 0), (76, .getfield 53, 3, 1, 0), (79, .iload_n 1, 1, 0, 0), (80, .invokevirtual 57, 3, 1, 1), (83, .ireturn, 1, 0, 0), (84, .aload_n 0, 1, 0, 0), (85, .getfield 10, 3, 7, 0), (88, .getfield 114, 3, 1, 1), (91, .iload_n 1, 1, 0, 0), (92, .invokevirtual 57, 3, 1, 1), (95, .ireturn, 1, 0, 0), (96, .aload_n 0, 1, 0, 0), (97, .getfield 10, 3, 7, 0), (100, .iload_n 1, 1, 0, 0), (101, .invokevirtual 117, 3, 10, 1), (104, .ireturn, 1, 0, 0), (105, .aload_n 0, 1, 0, 0), (106, .getfield 10, 3, 7, 0), (109, .iload_n 1, 1, 0, 0), (110, .invokevirtual 120, 3, 15, 1), (113, .ifCond .eq 14, 3, 127, 0), (116, .aload_n 0, 1, 0, 0), (117, .getfield 10, 3, 7, 0), (120, .iload_n 1, 1, 0, 0), (121, .invokevirtual 123, 3, 14, 1), (124, .goto 6, 3, 130, 0), (127, .sipush (-1004), 3, 0, 0), (130, .ireturn, 1, 0, 0), (131, .aload_n 0, 1, 0, 0), (132, .getfield 10, 3, 7, 0), (135, .iload_n 1, 1, 0, 0), (136, .invokevirtual 120, 3, 15, 1), (139, .ifCond .eq 11, 3, 150, 0), (142, .aload_n 0, 1, 0, 0), (143, .iload_n 1, 1, 0, 0), (144, .invokevirtual 126, 3, 71, 1), (147, .goto 6, 3, 153, 0), (150, .sipush (-1004), 3, 0, 0), (153, .ireturn, 1, 0, 0), (154, .aload_n 0, 1, 0, 0), (155, .getfield 10, 3, 7, 0), (158, .iload_n 1, 1, 0, 0), (159, .invokevirtual 129, 3, 27, 1), (162, .ireturn, 1, 0, 0), (163, .aload_n 0, 1, 0, 0), (164, .getfield 10, 3, 7, 0), (167, .iload_n 1, 1, 0, 0), (168, .invokevirtual 132, 3, 28, 1), (171, .ireturn, 1, 0, 0), (172, .aload_n 0, 1, 0, 0), (173, .getfield 10, 3, 7, 0), (176, .iload_n 1, 1, 0, 0), (177, .invokevirtual 135, 3, 29, 1), (180, .ireturn, 1, 0, 0), (181, .aload_n 0, 1, 0, 0), (182, .getfield 10, 3, 7, 0), (185, .getfield 138, 3, 1, 4), (188, .iload_n 1, 1, 0, 0), (189, .invokevirtual 142, 3, 47, 1), (192, .ireturn, 1, 0, 0), (193, .aload_n 0, 1, 0, 0), (194, .getfield 10, 3, 7, 0), (197, .getfield 138, 3, 1, 4), (200, .iload_n 1, 1, 0, 0), (201, .invokevirtual 147, 3, 48, 1), (204, .ireturn, 1, 0, 0), (205, .sipush (-1001), 3, 0, 0), (208, .ireturn, 1, 0, 0)]
def zc71 : List (Nat × Instr × Nat × Nat × Nat) := [(0, .aload_n 0, 1, 0, 0), (1, .getfield 10, 3, 7, 0), (4, .getfield 93, 3, 1, 3), (7, .iload_n 1, 1, 0, 0), (8, .invokevirtual 150, 3, 55, 1), (11, .ifCond .eq 7, 3, 18, 0), (14, .iconst 1, 1, 0, 0), (15, .goto 4, 3, 19, 0), (18, .iconst 0, 1, 0, 0), (19, .ireturn, 1, 0, 0)]
def zc72 : List (Nat × Instr × Nat × Nat × Nat) := [(0, .iload_n 1, 1, 0, 0), (1, .ifCond .lt 28, 3, 29, 0), (4, .iload_n 1, 1, 0, 0), (5, .aload_n 0, 1, 0, 0), (6, .getfield 10, 3, 7, 0), (9, .getfield 74, 3, 1, 5), (12, .if_icmp .ge 17, 3, 29, 0), (15, .aload_n 0, 1, 0, 0), (16, .getfield 10, 3, 7, 0), (19, .getfield 111, 3, 1, 2), (22, .iload_n 1, 1, 0, 0), (23, .invokevirtual 57, 3, 1, 1), (26, .goto 6, 3, 32, 0), (29, .sipush (-1001), 3, 0, 0), (32, .ireturn, 1, 0, 0)]
def zc73 : List (Nat × Instr × Nat × Nat × Nat) := [(0, .iload_n 1, 1, 0, 0), (1, .ifCond .ge 7, 3, 8, 0), (4, .sipush (-1001), 3, 0, 0), (7, .ireturn, 1, 0, 0), (8, .iload_n 1, 1, 0, 0), (9, .aload_n 0, 1, 0, 0), (10, .getfield 10, 3, 7, 0), (13, .invokevirtual 102, 3, 12, 0), (16, .if_icmp .ge 14, 3, 30, 0), (19, .aload_n 0, 1, 0, 0), (20, .getfield 10, 3, 7, 0), (23, .iload_n 1, 1, 0, 0), (24, .invokevirtual 153, 3, 13, 1), (27, .goto 6, 3, 33, 0), (30, .sipush (-1004), 3, 0, 0), (33, .ireturn, 1, 0, 0)]
def zc74 : List (Nat × Instr × Nat × Nat × Nat) := [(0, .aload_n 0, 1, 0, 0), (1, .getfield 10, 3, 7, 0), (4, .iload_n 1, 1, 0, 0), (5, .invokevirtual 49, 3, 6, 1), (8, .ifCond .eq 14, 3, 22, 0), (11, .aload_n 0, 1, 0, 0), (12, .getfield 10, 3, 7, 0), (15, .iload_n 2, 1, 0, 0), (16, .invokevirtual 49, 3, 6, 1), (19, .ifCond .ne 7, 3, 26, 0), (22, .sipush (-1001), 3, 0, 0), (25, .ireturn, 1, 0, 0), (26, .aload_n 0, 1, 0, 0), (27, .getfield 10, 3, 7, 0), (30, .aload_n 0, 1, 0, 0), (31, .getfield 10, 3, 7, 0), (34, .getfield 93, 3, 1, 3), (37, .iload_n 1, 1, 0, 0), (38, .iload_n 2, 1, 0, 0), (39, .invokevirtual 156, 3, 16, 3), (42, .ifCond .eq 7, 3, 49, 0), (45, .sipush (-1002), 3, 0, 0), (48, .ireturn, 1, 0, 0), (49, .aload_n 0, 1, 0, 0), (50, .getfield 19, 3, 7, 1), (53, .aload_n 0, 1, 0, 0), (54, .getfield 10, 3, 7, 0), (57, .invokevirtual 41, 3, 40, 1), (60, .aload_n 0, 1, 0, 0), (61, .getfield 10, 3, 7, 0), (64, .getfield 93, 3, 1, 3), (67, .iload_n 1, 1, 0, 0), (68, .iload_n 2, 1, 0, 0), (69, .invokevirtual 160, 3, 54, 2), (72, .aload_n 0, 1, 0, 0), (73, .getfield 10, 3, 7, 0), (76, .getfield 93, 3, 1, 3), (79, .getfield 97, 3, 5, 2), (82, .iconst 1, 1, 0, 0), (83, .isub, 1, 0, 0), (84, .ireturn, 1, 0, 0)]
def zc75 : List (Nat × Instr × Nat × Nat × Nat) := [(0, .aload_n 0, 1, 0, 0), (1, .getfield 10, 3, 7, 0), (4, .iload_n 1, 1, 0, 0), (5, .invokevirtual 49, 3, 6, 1), (8, .ifCond .eq 14, 3, 22, 0), (11, .aload_n 0, 1, 0, 0), (12, .getfield 10, 3, 7, 0), (15, .iload_n 2, 1, 0, 0), (16, .invokevirtual 49, 3, 6, 1), (19, .ifCond .ne 7, 3, 26, 0), (22, .sipush (-1001), 3, 0, 0), (25, .ireturn, 1, 0, 0), (26, .aload_n 0, 1, 0, 0), (27, .getfield 10, 3, 7, 0), (30, .aload_n 0, 1, 0, 0), (31, .getfield 10, 3, 7, 0), (34, .getfield 93, 3, 1, 3), (37, .iload_n 1, 1, 0, 0), (38, .iload_n 2, 1, 0, 0), (39, .invokevirtual 156, 3, 16, 3), (42, .ireturn, 1, 0, 0)]
def zc76 : List (Nat × Instr × Nat × Nat × Nat) := [(0, .aload_n 0, 1, 0, 0), (1, .getfield 10, 3, 7, 0), (4, .getfield 93, 3, 1, 3), (7, .iload_n 1, 1, 0, 0), (8, .invokevirtual 163, 3, 53, 1), (11, .ifCond .ne 7, 3, 18, 0), (14, .sipush (-1001), 3, 0, 0), (17, .ireturn, 1, 0, 0), (18, .iload_n 2, 1, 0, 0), (19, .tableswitch 66 0 2 #[25, 40, 55], 25, 0, 0), (44, .aload_n 0, 1, 0, 0), (45, .getfield 10, 3, 7, 0), (48, .getfield 93, 3, 1, 3), (51, .getfield 166, 3, 5, 0), (54, .iload_n 1, 1, 0, 0), (55, .invokevirtual 57, 3, 1, 1), (58, .ireturn, 1, 0, 0), (59, .aload_n 0, 1, 0, 0), (60, .getfield 10, 3, 7, 0), (63, .getfield 93, 3, 1, 3), (66, .getfield 169, 3, 5, 1), (69, .iload_n 1, 1, 0, 0), (70, .invokevirtual 57, 3, 1, 1), (73, .ireturn, 1, 0, 0), (74, .aload_n 0, 1, 0, 0), (75, .getfield 10, 3, 7, 0), (78, .iload_n 1, 1, 0, 0), (79, .invokevirtual 172, 3, 17, 1), (82, .iconst 1, 1, 0, 0), (83, .isub, 1, 0, 0), (84, .ireturn, 1, 0, 0), (85, .sipush (-1001), 3, 0, 0), (88, .ireturn, 1, 0, 0)]
def zc77 : List (Nat × Instr × Nat × Nat × Nat) := [(0, .aload_n 0, 1, 0, 0), (1, .getfield 10, 3, 7, 0), (4, .getfield 93, 3, 1, 3), (7, .iload_n 1, 1, 0, 0), (8, .invokevirtual 163, 3, 53, 1), (11, .ifCond .ne 7, 3, 18, 0), (14, .sipush (-1001), 3, 0, 0), (17, .ireturn, 1, 0, 0), (18, .aload_n 0, 1, 0, 0), (19, .getfield 19, 3, 7, 1), (22, .aload_n 0, 1, 0, 0), (23, .getfield 10, 3, 7, 0), (26, .invokevirtual 41, 3, 40, 1), (29, .aload_n 0, 1, 0, 0), (30, .getfield 10, 3, 7, 0), (33, .iload_n 1, 1, 0, 0), (34, .invokevirtual 175, 3, 18, 1), (37, .istore_n 2, 1, 0, 0), (38, .aload_n 0, 1, 0, 0), (39, .getfield 10, 3, 7, 0), (42, .getfield 93, 3, 1, 3), (45, .iload_n 2, 1, 0, 0), (46, .invokevirtual 178, 3, 56, 1), (49, .iload_n 2, 1, 0, 0), (50, .invokestatic 182, 3, 141, 1), (53, .ireturn, 1, 0, 0)]
def zc78 : List (Nat × Instr × Nat × Nat × Nat) := [(0, .aload_n 0, 1, 0, 0), (1, .getfield 10, 3, 7, 0), (4, .invokevirtual 86, 3, 8, 0), (7, .ifCond .ne 7, 3, 14, 0), (10, .sipush (-1002), 3, 0, 0), (13, .ireturn, 1, 0, 0), (14, .aload_n 0, 1, 0, 0), (15, .getfield 19, 3, 7, 1), (18, .aload_n 0, 1, 0, 0), (19, .getfield 10, 3, 7, 0), (22, .invokevirtual 41, 3, 40, 1), (25, .aload_n 0, 1, 0, 0), (26, .getfield 10, 3, 7, 0), (29, .invokevirtual 187, 3, 21, 0), (32, .ireturn, 1, 0, 0)]
def zc79 : List (Nat × Instr × Nat × Nat × Nat) := [(0, .aload_n 0, 1, 0, 0), (1, .getfield 19, 3, 7, 1), (4, .invokevirtual 190, 3, 42, 0), (7, .astore_n 1, 1, 0, 0), (8, .aload_n 1, 1, 0, 0), (9, .ifnonnull 7, 3, 16, 0), (12, .sipush (-1002), 3, 0, 0), (15, .ireturn, 1, 0, 0), (16, .aload_n 0, 1, 0, 0), (17, .getfield 10, 3, 7, 0), (20, .aload_n 1, 1, 0, 0), (21, .invokevirtual 194, 3, 31, 1), (24, .aload_n 0, 1, 0, 0), (25, .getfield 19, 3, 7, 1), (28, .invokevirtual 197, 3, 43, 0), (31, .aload_n 0, 1, 0, 0), (32, .getfield 19, 3, 7, 1), (35, .getfield 105, 3, 3, 1), (38, .ireturn, 1, 0, 0)]
def zc80 : List (Nat × Instr × Nat × Nat × Nat) := [(0, .iload_n 1, 1, 0, 0), (1, .ifCond .lt 12, 3, 13, 0), (4, .iload_n 2, 1, 0, 0), (5, .ifCond .lt 8, 3, 13, 0), (8, .iload_n 2, 1, 0, 0), (9, .iconst 2, 1, 0, 0), (10, .if_icmp .le 7, 3, 17, 0), (13, .sipush (-1001), 3, 0, 0), (16, .ireturn, 1, 0, 0), (17, .aload_n 0, 1, 0, 0), (18, .getfield 26, 3, 7, 2), (21, .aload_n 0, 1, 0, 0), (22, .getfield 10, 3, 7, 0), (25, .invokevirtual 200, 3, 33, 1), (28, .iload_n 1, 1, 0, 0), (29, .aload_n 0, 1, 0, 0), (30, .getfield 26, 3, 7, 2), (33, .getfield 203, 3, 2, 2), (36, .if_icmp .lt 7, 3, 43, 0), (39, .sipush (-1004), 3, 0, 0), (42, .ireturn, 1, 0, 0), (43, .iload_n 2, 1, 0, 0), (44, .lookupswitch 66 #[(0, 28), (1, 47)], 28, 0, 0), (72, .aload_n 0, 1, 0, 0), (73, .getfield 10, 3, 7, 0), (76, .aload_n 0, 1, 0, 0), (77, .getfield 26, 3, 7, 2), (80, .getfield 206, 3, 2, 0), (83, .iload_n 1, 1, 0, 0), (84, .invokevirtual 57, 3, 1, 1), (87, .invokevirtual 153, 3, 13, 1), (90, .ireturn, 1, 0, 0), (91, .aload_n 0, 1, 0, 0), (92, .getfield 10, 3, 7, 0), (95, .aload_n 0, 1, 0, 0), (96, .getfield 26, 3, 7, 2), (99, .getfield 207, 3, 2, 1), (102, .iload_n 1, 1, 0, 0), (103, .invokevirtual 57, 3, 1, 1), (106, .invokevirtual 153, 3, 13, 1), (109, .ireturn, 1, 0, 0), (110, .aload_n 0, 1, 0, 0), (111, .getfield 26, 3, 7, 2), (114, .iload_n 1, 1, 0, 0), (115, .invokevirtual 208, 3, 37, 1), (118, .d2f, 1, 0, 0), (119, .invokestatic 212, 3, 84, 1), (122, .ireturn, 1, 0, 0)]
def zc81 : List (Nat × Instr × Nat × Nat × Nat) := [(0, .aload_n 0, 1, 0, 0), (1, .getfield 10, 3, 7, 0), (4, .invokevirtual 86, 3, 8, 0), (7, .ifCond .eq 16, 3, 23, 0), (10, .aload_n 0, 1, 0, 0), (11, .getfield 10, 3, 7, 0), (14, .getfield 93, 3, 1, 3), (17, .getfield 97, 3, 5, 2), (20, .ifCond .le 7, 3, 27, 0), (23, .sipush (-1002), 3, 0, 0), (26, .ireturn, 1, 0, 0), (27, .aload_n 0, 1, 0, 0), (28, .getfield 19, 3, 7, 1), (31, .aload_n 0, 1, 0, 0), (32, .getfield 10, 3, 7, 0), (35, .invokevirtual 41, 3, 40, 1), (38, .aload_n 0, 1, 0, 0), (39, .getfield 26, 3, 7, 2), (42, .aload_n 0, 1, 0, 0), (43, .getfield 10, 3, 7, 0), (46, .invokevirtual 200, 3, 33, 1), (49, .iconst 0, 1, 0, 0), (50, .istore_n 1, 1, 0, 0), (51, .iload_n 1, 1, 0, 0), (52, .aload_n 0, 1, 0, 0), (53, .getfield 26, 3, 7, 2), (56, .getfield 203, 3, 2, 2), (59, .if_icmp .ge 55, 3, 114, 0), (62, .aload_n 0, 1, 0, 0), (63, .getfield 10, 3, 7, 0), (66, .getfield 93, 3, 1, 3), (69, .aload_n 0, 1, 0, 0), (70, .getfield 10, 3, 7, 0), (73, .aload_n 0, 1, 0, 0), (74, .getfield 26, 3, 7, 2), (77, .getfield 206, 3, 2, 0), (80, .iload_n 1, 1, 0, 0), (81, .invokevirtual 57, 3, 1, 1), (84, .invokevirtual 153, 3, 13, 1), (87, .aload_n 0, 1, 0, 0), (88, .getfield 10, 3, 7, 0), (91, .aload_n 0, 1, 0, 0), (92, .getfield 26, 3, 7, 2), (95, .getfield 207, 3, 2, 1), (98, .iload_n 1, 1, 0, 0), (99, .invokevirtual 57, 3, 1, 1), (102, .invokevirtual 153, 3, 13, 1), (105, .invokevirtual 160, 3, 54, 2), (108, .iinc 1 1, 3, 0, 0), (111, .goto (-60), 3, 51, 0), (114, .aload_n 0, 1, 0, 0), (115, .getfield 10, 3, 7, 0), (118, .invokevirtual 187, 3, 21, 0), (121, .ireturn, 1, 0, 0)]
def zc82 : List (Nat × Instr × Nat × Nat × Nat) := [(0, .iload_n 1, 1, 0, 0), (1, .iconst 1, 1, 0, 0), (2, .if_icmp .lt 14, 3, 16, 0), (5, .iload_n 2, 1, 0, 0), (6, .ifCond .lt 10, 3, 16, 0), (9, .iload_n 2, 1, 0, 0), (10, .sipush 1000, 3, 0, 0), (13, .if_icmp .le 7, 3, 20, 0), (16, .sipush (-1001), 3, 0, 0), (19, .ireturn, 1, 0, 0), (20, .iload_n 1, 1, 0, 0), (21, .aload_n 0, 1, 0, 0), (22, .getfield 10, 3, 7, 0), (25, .invokevirtual 102, 3, 12, 0), (28, .if_icmp .lt 7, 3, 35, 0), (31, .sipush (-1004), 3, 0, 0), (34, .ireturn, 1, 0, 0), (35, .aload_n 0, 1, 0, 0), (36, .getfield 10, 3, 7, 0), (39, .iload_n 1, 1, 0, 0), (40, .iconst 1, 1, 0, 0), (41, .isub, 1, 0, 0), (42, .iload_n 2, 1, 0, 0), (43, .invokevirtual 216, 3, 24, 2), (46, .aload_n 0, 1, 0, 0), (47, .getfield 10, 3, 7, 0), (50, .iload_n 1, 1, 0, 0), (51, .iload_n 2, 1, 0, 0), (52, .invokevirtual 216, 3, 24, 2), (55, .dsub, 1, 0, 0), (56, .d2f, 1, 0, 0), (57, .invokestatic 212, 3, 84, 1), (60, .ireturn, 1, 0, 0)]
def zc83 : List (Nat × Instr × Nat × Nat × Nat) := [(0, .aload_n 0, 1, 0, 0), (1, .getfield 10, 3, 7, 0), (4, .iload_n 1, 1, 0, 0), (5, .invokevirtual 49, 3, 6, 1), (8, .ifCond .ne 7, 3, 15, 0), (11, .sipush (-1001), 3, 0, 0), (14, .ireturn, 1, 0, 0), (15, .aload_n 0, 1, 0, 0), (16, .getfield 10, 3, 7, 0), (19, .iload_n 1, 1, 0, 0), (20, .invokevirtual 123, 3, 14, 1), (23, .istore_n 2, 1, 0, 0), (24, .iload_n 2, 1, 0, 0), (25, .iconst 1, 1, 0, 0), (26, .if_icmp .ge 7, 3, 33, 0), (29, .sipush (-1004), 3, 0, 0), (32, .ireturn, 1, 0, 0), (33, .iconst 1, 1, 0, 0), (34, .istore_n 3, 1, 0, 0), (35, .iload_n 3, 1, 0, 0), (36, .sipush 1000, 3, 0, 0), (39, .if_icmp .gt 35, 3, 74, 0), (42, .aload_n 0, 1, 0, 0), (43, .getfield 26, 3, 7, 2), (46, .aload_n 0, 1, 0, 0), (47, .getfield 10, 3, 7, 0), (50, .iload_n 1, 1, 0, 0), (51, .iload_n 3, 1, 0, 0), (52, .invokevirtual 220, 3, 34, 3), (55, .aload_n 0, 1, 0, 0), (56, .getfield 26, 3, 7, 2), (59, .iload_n 2, 1, 0, 0), (60, .invokevirtual 224, 3, 38, 1), (63, .ifCond .eq 5, 3, 68, 0), (66, .iload_n 3, 1, 0, 0), (67, .ireturn, 1, 0, 0), (68, .iinc 3 1, 3, 0, 0), (71, .goto (-36), 3, 35, 0), (74, .sipush (-1004), 3, 0, 0), (77, .ireturn, 1, 0, 0)]
def zc84 : List (Nat × Instr × Nat × Nat × Nat) := [(0, .fload_n 0, 1, 0, 0), (1, .fconst 0, 1, 0, 0), (2, .fcmp .l, 1, 0, 0), (3, .ifCond .ne 5, 3, 8, 0), (6, .iconst 0, 1, 0, 0), (7, .ireturn, 1, 0, 0), (8, .fload_n 0, 1, 0, 0), (9, .fconst 0, 1, 0, 0), (10, .fcmp .g, 1, 0, 0), (11, .ifCond .ge 8, 3, 19, 0), (14, .fload_n 0, 1, 0, 0), (15, .fneg, 1, 0, 0), (16, .goto 4, 3, 20, 0), (19, .fload_n 0, 1, 0, 0), (20, .fstore_n 1, 1, 0, 0), (21, .bipush 127, 2, 0, 0), (23, .istore_n 2, 1, 0, 0), (24, .iconst 0, 1, 0, 0), (25, .istore_n 3, 1, 0, 0), (26, .iload_n 3, 1, 0, 0), (27, .bipush 127, 2, 0, 0), (29, .if_icmp .ge 22, 3, 51, 0), (32, .fload_n 1, 1, 0, 0), (33, .fconst 2, 1, 0, 0), (34, .fcmp .l, 1, 0, 0), (35, .ifCond .lt 16, 3, 51, 0), (38, .fload_n 1, 1, 0, 0), (39, .fconst 2, 1, 0, 0), (40, .fdiv, 1, 0, 0), (41, .fstore_n 1, 1, 0, 0), (42, .iinc 2 1, 3, 0, 0), (45, .iinc 3 1, 3, 0, 0), (48, .goto (-22), 3, 26, 0), (51, .iconst 0, 1, 0, 0), (52, .istore_n 3, 1, 0, 0), (53, .iload_n 3, 1, 0, 0), (54, .bipush 126, 2, 0, 0), (56, .if_icmp .ge 22, 3, 78, 0), (59, .fload_n 1, 1, 0, 0), (60, .fconst 1, 1, 0, 0), (61, .fcmp .g, 1, 0, 0), (62, .ifCond .ge 16, 3, 78, 0), (65, .fload_n 1, 1, 0, 0), (66, .fconst 2, 1, 0, 0), (67, .fmul, 1, 0, 0), (68, .fstore_n 1, 1, 0, 0), (69, .iinc 2 (-1), 3, 0, 0), (72, .iinc 3 1, 3, 0, 0), (75, .goto (-22), 3, 53, 0), (78, .fload_n 1, 1, 0, 0), (79, .fconst 1, 1, 0, 0), (80, .fsub, 1, 0, 0), (81, .ldc 227, 2, 0, 0), (83, .fmul, 1, 0, 0), (84, .f2i, 1, 0, 0), (85, .istore_n 3, 1, 0, 0), (86, .iload_n 2, 1, 0, 0), (87, .bipush 23, 2, 0, 0), (89, .ishl, 1, 0, 0), (90, .iload_n 3, 1, 0, 0), (91, .ior, 1, 0, 0), (92, .istore 4, 2, 0, 0), (94, .fload_n 0, 1, 0, 0), (95, .fconst 0, 1, 0, 0), (96, .fcmp .g, 1, 0, 0), (97, .ifCond .ge 11, 3, 108, 0), (100, .iload 4, 2, 0, 0), (102, .ldc 228, 2, 0, 0), (104, .ior, 1, 0, 0), (105, .goto 5, 3, 110, 0), (108, .iload 4, 2, 0, 0), (110, .ireturn, 1, 0, 0)]
def zc85 : List (Nat × Instr × Nat × Nat × Nat) := [(0, .aload_n 0, 1, 0, 0), (1, .getfield 10, 3, 7, 0), (4, .iload_n 1, 1, 0, 0), (5, .invokevirtual 49, 3, 6, 1), (8, .ifCond .eq 26, 3, 34, 0), (11, .aload_n 0, 1, 0, 0), (12, .getfield 10, 3, 7, 0), (15, .iload_n 2, 1, 0, 0), (16, .invokevirtual 229, 3, 7, 1), (19, .ifCond .eq 15, 3, 34, 0), (22, .aload_n 0, 1, 0, 0), (23, .getfield 10, 3, 7, 0), (26, .iload_n 1, 1, 0, 0), (27, .iload_n 2, 1, 0, 0), (28, .invokevirtual 232, 3, 26, 2), (31, .goto 6, 3, 37, 0), (34, .sipush (-1001), 3, 0, 0), (37, .ireturn, 1, 0, 0)]
def zc86 : List (Nat × Instr × Nat × Nat × Nat) := [(0, .aload_n 0, 1, 0, 0), (1, .getfield 10, 3, 7, 0), (4, .iload_n 1, 1, 0, 0), (5, .invokevirtual 49, 3, 6, 1), (8, .ifCond .eq 29, 3, 37, 0), (11, .aload_n 0, 1, 0, 0), (12, .getfield 10, 3, 7, 0), (15, .iload_n 2, 1, 0, 0), (16, .invokevirtual 229, 3, 7, 1), (19, .ifCond .eq 18, 3, 37, 0), (22, .aload_n 0, 1, 0, 0), (23, .getfield 10, 3, 7, 0), (26, .getfield 138, 3, 1, 4), (29, .iload_n 1, 1, 0, 0), (30, .iload_n 2, 1, 0, 0), (31, .invokevirtual 236, 3, 50, 2), (34, .goto 6, 3, 40, 0), (37, .sipush (-1001), 3, 0, 0), (40, .ireturn, 1, 0, 0)]
def zc87 : List (Nat × Instr × Nat × Nat × Nat) := [(0, .aload_n 0, 1, 0, 0), (1, .getfield 10, 3, 7, 0), (4, .getfield 83, 3, 1, 8), (7, .ifCond .le 13, 3, 20, 0), (10, .aload_n 0, 1, 0, 0), (11, .getfield 10, 3, 7, 0), (14, .invokevirtual 239, 3, 30, 0), (17, .goto 6, 3, 23, 0), (20, .sipush (-1004), 3, 0, 0), (23, .ireturn, 1, 0, 0)]
def zc88 : List (Nat × Instr × Nat × Nat × Nat) := [(0, .iload_n 1, 1, 0, 0), (1, .bipush 32, 2, 0, 0), (3, .if_icmp .lt 9, 3, 12, 0), (6, .iload_n 1, 1, 0, 0), (7, .bipush 126, 2, 0, 0), (9, .if_icmp .le 7, 3, 16, 0), (12, .sipush (-1001), 3, 0, 0), (15, .ireturn, 1, 0, 0), (16, .aload_n 0, 1, 0, 0), (17, .getfield 33, 3, 7, 3), (20, .getfield 108, 3, 6, 0), (23, .bipush 80, 2, 0, 0), (25, .if_icmp .lt 7, 3, 32, 0), (28, .sipush (-1003), 3, 0, 0), (31, .ireturn, 1, 0, 0), (32, .aload_n 0, 1, 0, 0), (33, .getfield 33, 3, 7, 3), (36, .iload_n 1, 1, 0, 0), (37, .invokevirtual 242, 3, 59, 1), (40, .aload_n 0, 1, 0, 0), (41, .getfield 33, 3, 7, 3), (44, .getfield 108, 3, 6, 0), (47, .ireturn, 1, 0, 0)]
def zc89 : List (Nat × Instr × Nat × Nat × Nat) := [(0, .aload_n 0, 1, 0, 0), (1, .getfield 33, 3, 7, 3), (4, .getfield 108, 3, 6, 0), (7, .istore_n 1, 1, 0, 0), (8, .aload_n 0, 1, 0, 0), (9, .getfield 33, 3, 7, 3), (12, .iconst 0, 1, 0, 0), (13, .putfield 108, 3, 6, 0), (16, .iload_n 1, 1, 0, 0), (17, .ireturn, 1, 0, 0)]
def zc90 : List (Nat × Instr × Nat × Nat × Nat) := [(0, .iload_n 1, 1, 0, 0), (1, .ifCond .lt 8, 3, 9, 0), (4, .iload_n 1, 1, 0, 0), (5, .iconst 1, 1, 0, 0), (6, .if_icmp .le 7, 3, 13, 0), (9, .sipush (-1001), 3, 0, 0), (12, .ireturn, 1, 0, 0), (13, .aload_n 0, 1, 0, 0), (14, .getfield 33, 3, 7, 3), (17, .aload_n 0, 1, 0, 0), (18, .getfield 10, 3, 7, 0), (21, .invokevirtual 245, 3, 60, 1), (24, .aload_n 0, 1, 0, 0), (25, .getfield 33, 3, 7, 3), (28, .getfield 248, 3, 6, 1), (31, .ifCond .ne 7, 3, 38, 0), (34, .sipush (-1004), 3, 0, 0), (37, .ireturn, 1, 0, 0), (38, .iload_n 1, 1, 0, 0), (39, .ifCond .ne 13, 3, 52, 0), (42, .aload_n 0, 1, 0, 0), (43, .getfield 33, 3, 7, 3), (46, .getfield 251, 3, 6, 2), (49, .goto 10, 3, 59, 0), (52, .aload_n 0, 1, 0, 0), (53, .getfield 33, 3, 7, 3), (56, .getfield 248, 3, 6, 1), (59, .ireturn, 1, 0, 0)]
def zc91 : List (Nat × Instr × Nat × Nat × Nat) := [(0, .aload_n 0, 1, 0, 0), (1, .getfield 33, 3, 7, 3), (4, .aload_n 0, 1, 0, 0), (5, .getfield 10, 3, 7, 0), (8, .invokevirtual 245, 3, 60, 1), (11, .aload_n 0, 1, 0, 0), (12, .getfield 33, 3, 7, 3), (15, .getfield 248, 3, 6, 1), (18, .ifCond .eq 7, 3, 25, 0), (21, .sipush (-1002), 3, 0, 0), (24, .ireturn, 1, 0, 0), (25, .aload_n 0, 1, 0, 0), (26, .getfield 19, 3, 7, 1), (29, .aload_n 0, 1, 0, 0), (30, .getfield 10, 3, 7, 0), (33, .invokevirtual 41, 3, 40, 1), (36, .aload_n 0, 1, 0, 0), (37, .getfield 10, 3, 7, 0), (40, .getfield 93, 3, 1, 3), (43, .aload_n 0, 1, 0, 0), (44, .getfield 33, 3, 7, 3), (47, .getfield 254, 3, 6, 4), (50, .invokevirtual 257, 3, 57, 1), (53, .aload_n 0, 1, 0, 0), (54, .getfield 33, 3, 7, 3), (57, .getfield 260, 3, 6, 3), (60, .ireturn, 1, 0, 0)]
def zc92 : List (Nat × Instr × Nat × Nat × Nat) := [(0, .aload_n 0, 1, 0, 0), (1, .invokespecial 1, 3, 1002, 0), (4, .aload_n 0, 1, 0, 0), (5, .sipush 585, 3, 0, 0), (8, .newarray .int, 2, 0, 0), (10, .putfield 7, 3, 8, 0), (13, .aload_n 0, 1, 0, 0), (14, .sipush 2340, 3, 0, 0), (17, .newarray .int, 2, 0, 0), (19, .putfield 13, 3, 8, 1), (22, .aload_n 0, 1, 0, 0), (23, .bipush 80, 2, 0, 0), (25, .newarray .char, 2, 0, 0), (27, .putfield 16, 3, 8, 3), (30, .aload_n 0, 1, 0, 0), (31, .bipush 9, 2, 0, 0), (33, .newarray .int, 2, 0, 0), (35, .putfield 20, 3, 8, 9), (38, .aload_n 0, 1, 0, 0), (39, .bipush 9, 2, 0, 0), (41, .newarray .boolean, 2, 0, 0), (43, .putfield 23, 3, 8, 11), (46, .aload_n 0, 1, 0, 0), (47, .iconst 4, 1, 0, 0), (48, .newarray .int, 2, 0, 0), (50, .putfield 27, 3, 8, 12), (53, .aload_n 0, 1, 0, 0), (54, .iconst 4, 1, 0, 0), (55, .newarray .int, 2, 0, 0), (57, .putfield 30, 3, 8, 13), (60, .aload_n 0, 1, 0, 0), (61, .iconst 4, 1, 0, 0), (62, .newarray .double, 2, 0, 0), (64, .putfield 33, 3, 8, 14), (67, .aload_n 0, 1, 0, 0), (68, .bipush 24, 2, 0, 0), (70, .newarray .int, 2, 0, 0), (72, .putfield 37, 3, 8, 16), (75, .aload_n 0, 1, 0, 0), (76, .getfield 7, 3, 8, 0), (79, .iconst 5, 1, 0, 0), (80, .sipush 1500, 3, 0, 0), (83, .iastore, 1, 0, 0), (84, .aload_n 0, 1, 0, 0), (85, .getfield 7, 3, 8, 0), (88, .bipush 6, 2, 0, 0), (90, .sipush 300, 3, 0, 0), (93, .iastore, 1, 0, 0), (94, .aload_n 0, 1, 0, 0), (95, .bipush 12, 2, 0, 0), (97, .iconst 4, 1, 0, 0), (98, .iconst 4, 1, 0, 0), (99, .invokevirtual 40, 3, 98, 3), (102, .return_, 1, 0, 0)]
def zc93 : List (Nat × Instr × Nat × Nat × Nat) := [(0, .iload_n 0, 1, 0, 0), (1, .iload_n 1, 1, 0, 0), (2, .if_icmp .lt 12, 3, 14, 0), (5, .iload_n 0, 1, 0, 0), (6, .iload_n 2, 1, 0, 0), (7, .if_icmp .gt 7, 3, 14, 0), (10, .iconst 1, 1, 0, 0), (11, .goto 4, 3, 15, 0), (14, .iconst 0, 1, 0, 0), (15, .ireturn, 1, 0, 0)]
def zc94 : List (Nat × Instr × Nat × Nat × Nat) := [(0, .iload_n 1, 1, 0, 0), (1, .iconst 0, 1, 0, 0), (2, .aload_n 0, 1, 0, 0), (3, .getfield 7, 3, 8, 0), (6, .iconst 0, 1, 0, 0), (7, .iaload, 1, 0, 0), (8, .iconst 1, 1, 0, 0), (9, .isub, 1, 0, 0), (10, .invokestatic 44, 3, 93, 3), (13, .ireturn, 1, 0, 0)]
def zc95 : List (Nat × Instr × Nat × Nat × Nat) := [(0, .aload_n 0, 1, 0, 0), (1, .getfield 7, 3, 8, 0), (4, .iconst 0, 1, 0, 0), (5, .iaload, 1, 0, 0), (6, .aload_n 0, 1, 0, 0), (7, .getfield 7, 3, 8, 0), (10, .iconst 1, 1, 0, 0), (11, .iaload, 1, 0, 0), (12, .iadd, 1, 0, 0), (13, .iconst 1, 1, 0, 0), (14, .isub, 1, 0, 0), (15, .aload_n 0, 1, 0, 0), (16, .getfield 7, 3, 8, 0), (19, .iconst 1, 1, 0, 0), (20, .iaload, 1, 0, 0), (21, .idiv, 1, 0, 0), (22, .ireturn, 1, 0, 0)]
def zc96 : List (Nat × Instr × Nat × Nat × Nat) := [(0, .aload_n 0, 1, 0, 0), (1, .getfield 48, 3, 8, 2), (4, .iconst 4, 1, 0, 0), (5, .if_icmp .ne 44, 3, 49, 0), (8, .iconst 0, 1, 0, 0), (9, .istore_n 1, 1, 0, 0), (10, .iload_n 1, 1, 0, 0), (11, .sipush 1755, 3, 0, 0), (14, .if_icmp .ge 25, 3, 39, 0), (17, .aload_n 0, 1, 0, 0), (18, .getfield 13, 3, 8, 1), (21, .iload_n 1, 1, 0, 0), (22, .aload_n 0, 1, 0, 0), (23, .getfield 13, 3, 8, 1), (26, .iload_n 1, 1, 0, 0), (27, .sipush 585, 3, 0, 0), (30, .iadd, 1, 0, 0), (31, .iaload, 1, 0, 0), (32, .iastore, 1, 0, 0), (33, .iinc 1 1, 3, 0, 0), (36, .goto (-26), 3, 10, 0), (39, .aload_n 0, 1, 0, 0), (40, .dup, 1, 0, 0), (41, .getfield 48, 3, 8, 2), (44, .iconst 1, 1, 0, 0), (45, .isub, 1, 0, 0), (46, .putfield 48, 3, 8, 2), (49, .iconst 0, 1, 0, 0), (50, .istore_n 1, 1, 0, 0), (51, .iload_n 1, 1, 0, 0), (52, .sipush 585, 3, 0, 0), (55, .if_icmp .ge 30, 3, 85, 0), (58, .aload_n 0, 1, 0, 0), (59, .getfield 13, 3, 8, 1), (62, .sipush 585, 3, 0, 0), (65, .aload_n 0, 1, 0, 0), (66, .getfield 48, 3, 8, 2), (69, .imul, 1, 0, 0), (70, .iload_n 1, 1, 0, 0), (71, .iadd, 1, 0, 0), (72, .aload_n 0, 1, 0, 0), (73, .getfield 7, 3, 8, 0), (76, .iload_n 1, 1, 0, 0), (77, .iaload, 1, 0, 0), (78, .iastore, 1, 0, 0), (79, .iinc 1 1, 3, 0, 0), (82, .goto (-31), 3, 51, 0), (85, .aload_n 0, 1, 0, 0), (86, .dup, 1, 0, 0), (87, .getfield 48, 3, 8, 2), (90, .iconst 1, 1, 0, 0), (91, .iadd, 1, 0, 0), (92, .putfield 48, 3, 8, 2), (95, .return_, 1, 0, 0)]
def zc97 : List (Nat × Instr × Nat × Nat × Nat) := [(0, .iconst 0, 1, 0, 0), (1, .istore_n 1, 1, 0, 0), (2, .iload_n 1, 1, 0, 0), (3, .bipush 24, 2, 0, 0), (5, .if_icmp .ge 38, 3, 43, 0), (8, .aload_n 0, 1, 0, 0), (9, .getfield 7, 3, 8, 0), (12, .sipush 417, 3, 0, 0), (15, .bipush 24, 2, 0, 0), (17, .aload_n 0, 1, 0, 0), (18, .getfield 7, 3, 8, 0), (21, .iconst 3, 1, 0, 0), (22, .iaload, 1, 0, 0), (23, .imul, 1, 0, 0), (24, .iadd, 1, 0, 0), (25, .iload_n 1, 1, 0, 0), (26, .iadd, 1, 0, 0), (27, .aload_n 0, 1, 0, 0), (28, .getfield 7, 3, 8, 0), (31, .bipush 31, 2, 0, 0), (33, .iload_n 1, 1, 0, 0), (34, .iadd, 1, 0, 0), (35, .iaload, 1, 0, 0), (36, .iastore, 1, 0, 0), (37, .iinc 1 1, 3, 0, 0), (40, .goto (-38), 3, 2, 0), (43, .return_, 1, 0, 0)]
def zc98 : List (Nat × Instr × Nat × Nat × Nat) := [(0, .aload_n 0, 1, 0, 0), (1, .getfield 7, 3, 8, 0), (4, .iconst 0, 1, 0, 0), (5, .iload_n 1, 1, 0, 0), (6, .iastore, 1, 0, 0), (7, .aload_n 0, 1, 0, 0), (8, .getfield 7, 3, 8, 0), (11, .iconst 1, 1, 0, 0), (12, .iload_n 2, 1, 0, 0), (13, .iastore, 1, 0, 0), (14, .aload_n 0, 1, 0, 0), (15, .getfield 7, 3, 8, 0), (18, .iconst 2, 1, 0, 0), (19, .iload_n 3, 1, 0, 0), (20, .iastore, 1, 0, 0), (21, .aload_n 0, 1, 0, 0), (22, .getfield 7, 3, 8, 0), (25, .iconst 3, 1, 0, 0), (26, .iconst 0, 1, 0, 0), (27, .iastore, 1, 0, 0), (28, .aload_n 0, 1, 0, 0), (29, .getfield 7, 3, 8, 0), (32, .bipush 55, 2, 0, 0), (34, .iconst 0, 1, 0, 0), (35, .iastore, 1, 0, 0), (36, .aload_n 0, 1, 0, 0), (37, .getfield 7, 3, 8, 0), (40, .bipush 80, 2, 0, 0), (42, .iconst 0, 1, 0, 0), (43, .iastore, 1, 0, 0), (44, .iconst 0, 1, 0, 0), (45, .istore 4, 2, 0, 0), (47, .iload 4, 2, 0, 0), (49, .bipush 24, 2, 0, 0), (51, .if_icmp .ge 34, 3, 85, 0), (54, .aload_n 0, 1, 0, 0), (55, .getfield 7, 3, 8, 0), (58, .bipush 7, 2, 0, 0), (60, .iload 4, 2, 0, 0), (62, .iadd, 1, 0, 0), (63, .sipush 400, 3, 0, 0), (66, .iastore, 1, 0, 0), (67, .aload_n 0, 1, 0, 0), (68, .getfield 7, 3, 8, 0), (71, .bipush 31, 2, 0, 0), (73, .iload 4, 2, 0, 0), (75, .iadd, 1, 0, 0), (76, .iload 4, 2, 0, 0), (78, .iastore, 1, 0, 0), (79, .iinc 4 1, 3, 0, 0), (82, .goto (-35), 3, 47, 0), (85, .aload_n 0, 1, 0, 0), (86, .getfield 7, 3, 8, 0), (89, .iconst 4, 1, 0, 0), (90, .aload_n 0, 1, 0, 0), (91, .invokevirtual 52, 3, 95, 0), (94, .iconst 1, 1, 0, 0), (95, .isub, 1, 0, 0), (96, .iastore, 1, 0, 0), (97, .aload_n 0, 1, 0, 0), (98, .invokevirtual 56, 3, 97, 0), (101, .return_, 1, 0, 0)]
def zc99 : List (Nat × Instr × Nat × Nat × Nat) := [(0, .iconst 0, 1, 0, 0), (1, .istore_n 2, 1, 0, 0), (2, .iload_n 2, 1, 0, 0), (3, .aload_n 0, 1, 0, 0), (4, .getfield 7, 3, 8, 0), (7, .iconst 0, 1, 0, 0), (8, .iaload, 1, 0, 0), (9, .if_icmp .ge 24, 3, 33, 0), (12, .aload_n 0, 1, 0, 0), (13, .getfield 7, 3, 8, 0), (16, .bipush 31, 2, 0, 0), (18, .iload_n 2, 1, 0, 0), (19, .iadd, 1, 0, 0), (20, .iaload, 1, 0, 0), (21, .iload_n 1, 1, 0, 0), (22, .if_icmp .ne 5, 3, 27, 0), (25, .iload_n 2, 1, 0, 0), (26, .ireturn, 1, 0, 0), (27, .iinc 2 1, 3, 0, 0), (30, .goto (-28), 3, 2, 0), (33, .iconst (-1), 1, 0, 0), (34, .ireturn, 1, 0, 0)]
def zc100 : List (Nat × Instr × Nat × Nat × Nat) := [(0, .aload_n 0, 1, 0, 0), (1, .iconst 0, 1, 0, 0), (2, .putfield 59, 3, 8, 10), (5, .aload_n 0, 1, 0, 0), (6, .getfield 7, 3, 8, 0), (9, .iconst 4, 1, 0, 0), (10, .iaload, 1, 0, 0), (11, .iconst (-1), 1, 0, 0), (12, .if_icmp .ne 4, 3, 16, 0), (15, .return_, 1, 0, 0), (16, .aload_n 0, 1, 0, 0), (17, .getfield 7, 3, 8, 0), (20, .iconst 1, 1, 0, 0), (21, .iaload, 1, 0, 0), (22, .aload_n 0, 1, 0, 0), (23, .getfield 7, 3, 8, 0), (26, .iconst 4, 1, 0, 0), (27, .iaload, 1, 0, 0), (28, .imul, 1, 0, 0), (29, .istore_n 1, 1, 0, 0), (30, .iload_n 1, 1, 0, 0), (31, .aload_n 0, 1, 0, 0), (32, .getfield 7, 3, 8, 0), (35, .iconst 1, 1, 0, 0), (36, .iaload, 1, 0, 0), (37, .iadd, 1, 0, 0), (38, .istore_n 2, 1, 0, 0), (39, .iload_n 2, 1, 0, 0), (40, .aload_n 0, 1, 0, 0), (41, .getfield 7, 3, 8, 0), (44, .iconst 0, 1, 0, 0), (45, .iaload, 1, 0, 0), (46, .if_icmp .ge 9, 3, 55, 0), (49, .iload_n 2, 1, 0, 0), (50, .iconst 1, 1, 0, 0), (51, .iadd, 1, 0, 0), (52, .goto 9, 3, 61, 0), (55, .aload_n 0, 1, 0, 0), (56, .getfield 7, 3, 8, 0), (59, .iconst 0, 1, 0, 0), (60, .iaload, 1, 0, 0), (61, .istore_n 2, 1, 0, 0), (62, .iload_n 1, 1, 0, 0), (63, .istore_n 3, 1, 0, 0), (64, .iload_n 3, 1, 0, 0), (65, .iload_n 2, 1, 0, 0), (66, .if_icmp .ge 43, 3, 109, 0), (69, .aload_n 0, 1, 0, 0), (70, .getfield 20, 3, 8, 9), (73, .aload_n 0, 1, 0, 0), (74, .getfield 59, 3, 8, 10), (77, .aload_n 0, 1, 0, 0), (78, .iload_n 3, 1, 0, 0), (79, .invokevirtual 62, 3, 99, 1), (82, .iastore, 1, 0, 0), (83, .aload_n 0, 1, 0, 0), (84, .getfield 23, 3, 8, 11), (87, .aload_n 0, 1, 0, 0), (88, .getfield 59, 3, 8, 10), (91, .iconst 0, 1, 0, 0), (92, .bastore, 1, 0, 0), (93, .aload_n 0, 1, 0, 0), (94, .dup, 1, 0, 0), (95, .getfield 59, 3, 8, 10), (98, .iconst 1, 1, 0, 0), (99, .iadd, 1, 0, 0), (100, .putfield 59, 3, 8, 10), (103, .iinc 3 1, 3, 0, 0), (106, .goto (-42), 3, 64, 0), (109, .iconst 0, 1, 0, 0), (110, .istore_n 3, 1, 0, 0), (111, .iload_n 3, 1, 0, 0), (112, .aload_n 0, 1, 0, 0), (113, .getfield 7, 3, 8, 0), (116, .bipush 55, 2, 0, 0), (118, .iaload, 1, 0, 0), (119, .if_icmp .ge 47, 3, 166, 0), (122, .aload_n 0, 1, 0, 0), (123, .getfield 23, 3, 8, 11), (126, .aload_n 0, 1, 0, 0), (127, .aload_n 0, 1, 0, 0), (128, .getfield 7, 3, 8, 0), (131, .bipush 56, 2, 0, 0), (133, .iload_n 3, 1, 0, 0), (134, .iadd, 1, 0, 0), (135, .iaload, 1, 0, 0), (136, .invokevirtual 66, 3, 101, 1), (139, .iconst 1, 1, 0, 0), (140, .bastore, 1, 0, 0), (141, .aload_n 0, 1, 0, 0), (142, .getfield 23, 3, 8, 11), (145, .aload_n 0, 1, 0, 0), (146, .aload_n 0, 1, 0, 0), (147, .getfield 7, 3, 8, 0), (150, .bipush 68, 2, 0, 0), (152, .iload_n 3, 1, 0, 0), (153, .iadd, 1, 0, 0), (154, .iaload, 1, 0, 0), (155, .invokevirtual 66, 3, 101, 1), (158, .iconst 1, 1, 0, 0), (159, .bastore, 1, 0, 0), (160, .iinc 3 1, 3, 0, 0), (163, .goto (-52), 3, 111, 0), (166, .return_, 1, 0, 0)]
def zc101 : List (Nat × Instr × Nat × Nat × Nat) := [(0, .iconst 0, 1, 0, 0), (1, .istore_n 2, 1, 0, 0), (2, .iload_n 2, 1, 0, 0), (3, .aload_n 0, 1, 0, 0), (4, .getfield 59, 3, 8, 10), (7, .if_icmp .ge 21, 3, 28, 0), (10, .aload_n 0, 1, 0, 0), (11, .getfield 20, 3, 8, 9), (14, .iload_n 2, 1, 0, 0), (15, .iaload, 1, 0, 0), (16, .iload_n 1, 1, 0, 0), (17, .if_icmp .ne 5, 3, 22, 0), (20, .iload_n 2, 1, 0, 0), (21, .ireturn, 1, 0, 0), (22, .iinc 2 1, 3, 0, 0), (25, .goto (-23), 3, 2, 0), (28, .iconst (-1), 1, 0, 0), (29, .ireturn, 1, 0, 0)]
def zc102 : List (Nat × Instr × Nat × Nat × Nat) := [(0, .iconst 1, 1, 0, 0), (1, .istore_n 3, 1, 0, 0), (2, .iload_n 1, 1, 0, 0), (3, .iconst 1, 1, 0, 0), (4, .iadd, 1, 0, 0), (5, .istore 4, 2, 0, 0), (7, .iload 4, 2, 0, 0), (9, .iload_n 2, 1, 0, 0), (10, .if_icmp .ge 29, 3, 39, 0), (13, .iload_n 3, 1, 0, 0), (14, .ifCond .eq 17, 3, 31, 0), (17, .aload_n 0, 1, 0, 0), (18, .getfield 23, 3, 8, 11), (21, .iload 4, 2, 0, 0), (23, .baload, 1, 0, 0), (24, .ifCond .eq 7, 3, 31, 0), (27, .iconst 1, 1, 0, 0), (28, .goto 4, 3, 32, 0), (31, .iconst 0, 1, 0, 0), (32, .istore_n 3, 1, 0, 0), (33, .iinc 4 1, 3, 0, 0), (36, .goto (-29), 3, 7, 0), (39, .iload_n 3, 1, 0, 0), (40, .ireturn, 1, 0, 0)]
def zc103 : List (Nat × Instr × Nat × Nat × Nat) := [(0, .aload_n 0, 1, 0, 0), (1, .iload_n 1, 1, 0, 0), (2, .invokevirtual 66, 3, 101, 1), (5, .istore_n 3, 1, 0, 0), (6, .aload_n 0, 1, 0, 0), (7, .iload_n 2, 1, 0, 0), (8, .invokevirtual 66, 3, 101, 1), (11, .istore 4, 2, 0, 0), (13, .iload_n 3, 1, 0, 0), (14, .iconst (-1), 1, 0, 0), (15, .if_icmp .eq 9, 3, 24, 0), (18, .iload 4, 2, 0, 0), (20, .iconst (-1), 1, 0, 0), (21, .if_icmp .ne 5, 3, 26, 0), (24, .iconst 2, 1, 0, 0), (25, .ireturn, 1, 0, 0), (26, .aload_n 0, 1, 0, 0), (27, .getfield 23, 3, 8, 11), (30, .iload_n 3, 1, 0, 0), (31, .baload, 1, 0, 0), (32, .ifCond .ne 13, 3, 45, 0), (35, .aload_n 0, 1, 0, 0), (36, .getfield 23, 3, 8, 11), (39, .iload 4, 2, 0, 0), (41, .baload, 1, 0, 0), (42, .ifCond .eq 5, 3, 47, 0), (45, .iconst 3, 1, 0, 0), (46, .ireturn, 1, 0, 0), (47, .iload_n 3, 1, 0, 0), (48, .iload 4, 2, 0, 0), (50, .if_icmp .gt 5, 3, 55, 0), (53, .iconst 4, 1, 0, 0), (54, .ireturn, 1, 0, 0), (55, .aload_n 0, 1, 0, 0), (56, .iload 4, 2, 0, 0), (58, .iload_n 3, 1, 0, 0), (59, .invokevirtual 69, 3, 102, 2), (62, .ifCond .eq 7, 3, 69, 0), (65, .iconst 0, 1, 0, 0), (66, .goto 4, 3, 70, 0), (69, .iconst 5, 1, 0, 0), (70, .ireturn, 1, 0, 0)]
def zc104 : List (Nat × Instr × Nat × Nat × Nat) := [(0, .aload_n 0, 1, 0, 0), (1, .getfield 7, 3, 8, 0), (4, .bipush 56, 2, 0, 0), (6, .aload_n 0, 1, 0, 0), (7, .getfield 7, 3, 8, 0), (10, .bipush 55, 2, 0, 0), (12, .iaload, 1, 0, 0), (13, .iadd, 1, 0, 0), (14, .iload_n 1, 1, 0, 0), (15, .iastore, 1, 0, 0), (16, .aload_n 0, 1, 0, 0), (17, .getfield 7, 3, 8, 0), (20, .bipush 68, 2, 0, 0), (22, .aload_n 0, 1, 0, 0), (23, .getfield 7, 3, 8, 0), (26, .bipush 55, 2, 0, 0), (28, .iaload, 1, 0, 0), (29, .iadd, 1, 0, 0), (30, .iload_n 2, 1, 0, 0), (31, .iastore, 1, 0, 0), (32, .aload_n 0, 1, 0, 0), (33, .getfield 7, 3, 8, 0), (36, .bipush 55, 2, 0, 0), (38, .dup2, 1, 0, 0), (39, .iaload, 1, 0, 0), (40, .iconst 1, 1, 0, 0), (41, .iadd, 1, 0, 0), (42, .iastore, 1, 0, 0), (43, .aload_n 0, 1, 0, 0), (44, .getfield 7, 3, 8, 0), (47, .bipush 55, 2, 0, 0), (49, .iaload, 1, 0, 0), (50, .iconst 1, 1, 0, 0), (51, .isub, 1, 0, 0), (52, .ireturn, 1, 0, 0)]
def zc105 : List (Nat × Instr × Nat × Nat × Nat) := [(0, .aload_n 0, 1, 0, 0), (1, .getfield 7, 3, 8, 0), (4, .bipush 55, 2, 0, 0), (6, .iaload, 1, 0, 0), (7, .istore_n 1, 1, 0, 0), (8, .iconst 0, 1, 0, 0), (9, .istore_n 2, 1, 0, 0), (10, .iload_n 2, 1, 0, 0), (11, .iload_n 1, 1, 0, 0), (12, .if_icmp .ge 139, 3, 151, 0), (15, .aload_n 0, 1, 0, 0), (16, .getfield 7, 3, 8, 0), (19, .bipush 56, 2, 0, 0), (21, .iload_n 2, 1, 0, 0), (22, .iadd, 1, 0, 0), (23, .iaload, 1, 0, 0), (24, .istore_n 3, 1, 0, 0), (25, .aload_n 0, 1, 0, 0), (26, .getfield 7, 3, 8, 0), (29, .bipush 68, 2, 0, 0), (31, .iload_n 2, 1, 0, 0), (32, .iadd, 1, 0, 0), (33, .iaload, 1, 0, 0), (34, .istore 4, 2, 0, 0), (36, .aload_n 0, 1, 0, 0), (37, .getfield 7, 3, 8, 0), (40, .bipush 31, 2, 0, 0), (42, .iload_n 3, 1, 0, 0), (43, .iadd, 1, 0, 0), (44, .iaload, 1, 0, 0), (45, .istore 5, 2, 0, 0), (47, .aload_n 0, 1, 0, 0), (48, .getfield 7, 3, 8, 0), (51, .bipush 31, 2, 0, 0), (53, .iload_n 3, 1, 0, 0), (54, .iadd, 1, 0, 0), (55, .aload_n 0, 1, 0, 0), (56, .getfield 7, 3, 8, 0), (59, .bipush 31, 2, 0, 0), (61, .iload 4, 2, 0, 0), (63, .iadd, 1, 0, 0), (64, .iaload, 1, 0, 0), (65, .iastore, 1, 0, 0), (66, .aload_n 0, 1, 0, 0), (67, .getfield 7, 3, 8, 0), (70, .bipush 31, 2, 0, 0), (72, .iload 4, 2, 0, 0), (74, .iadd, 1, 0, 0), (75, .iload 5, 2, 0, 0), (77, .iastore, 1, 0, 0), (78, .aload_n 0, 1, 0, 0), (79, .getfield 7, 3, 8, 0), (82, .bipush 81, 2, 0, 0), (84, .aload_n 0, 1, 0, 0), (85, .getfield 7, 3, 8, 0), (88, .bipush 80, 2, 0, 0), (90, .iaload, 1, 0, 0), (91, .iadd, 1, 0, 0), (92, .aload_n 0, 1, 0, 0), (93, .getfield 7, 3, 8, 0), (96, .iconst 3, 1, 0, 0), (97, .iaload, 1, 0, 0), (98, .iastore, 1, 0, 0), (99, .aload_n 0, 1, 0, 0), (100, .getfield 7, 3, 8, 0), (103, .sipush 193, 3, 0, 0), (106, .aload_n 0, 1, 0, 0), (107, .getfield 7, 3, 8, 0), (110, .bipush 80, 2, 0, 0), (112, .iaload, 1, 0, 0), (113, .iadd, 1, 0, 0), (114, .iload_n 3, 1, 0, 0), (115, .iastore, 1, 0, 0), (116, .aload_n 0, 1, 0, 0), (117, .getfield 7, 3, 8, 0), (120, .sipush 305, 3, 0, 0), (123, .aload_n 0, 1, 0, 0), (124, .getfield 7, 3, 8, 0), (127, .bipush 80, 2, 0, 0), (129, .iaload, 1, 0, 0), (130, .iadd, 1, 0, 0), (131, .iload 4, 2, 0, 0), (133, .iastore, 1, 0, 0), (134, .aload_n 0, 1, 0, 0), (135, .getfield 7, 3, 8, 0), (138, .bipush 80, 2, 0, 0), (140, .dup2, 1, 0, 0), (141, .iaload, 1, 0, 0), (142, .iconst 1, 1, 0, 0), (143, .iadd, 1, 0, 0), (144, .iastore, 1, 0, 0), (145, .iinc 2 1, 3, 0, 0), (148, .goto (-138), 3, 10, 0), (151, .aload_n 0, 1, 0, 0), (152, .getfield 7, 3, 8, 0), (155, .bipush 55, 2, 0, 0), (157, .iconst 0, 1, 0, 0), (158, .iastore, 1, 0, 0), (159, .aload_n 0, 1, 0, 0), (160, .getfield 7, 3, 8, 0), (163, .iconst 4, 1, 0, 0), (164, .dup2, 1, 0, 0), (165, .iaload, 1, 0, 0), (166, .iconst 1, 1, 0, 0), (167, .isub, 1, 0, 0), (168, .iastore, 1, 0, 0), (169, .aload_n 0, 1, 0, 0), (170, .getfield 7, 3, 8, 0), (173, .iconst 4, 1, 0, 0), (174, .iaload, 1, 0, 0), (175, .iconst (-1), 1, 0, 0), (176, .if_icmp .ne 48, 3, 224, 0), (179, .aload_n 0, 1, 0, 0), (180, .getfield 7, 3, 8, 0), (183, .iconst 3, 1, 0, 0), (184, .dup2, 1, 0, 0), (185, .iaload, 1, 0, 0), (186, .iconst 1, 1, 0, 0), (187, .iadd, 1, 0, 0), (188, .iastore, 1, 0, 0), (189, .aload_n 0, 1, 0, 0), (190, .invokevirtual 56, 3, 97, 0), (193, .aload_n 0, 1, 0, 0), (194, .getfield 7, 3, 8, 0), (197, .iconst 4, 1, 0, 0), (198, .aload_n 0, 1, 0, 0), (199, .getfield 7, 3, 8, 0), (202, .iconst 3, 1, 0, 0), (203, .iaload, 1, 0, 0), (204, .aload_n 0, 1, 0, 0), (205, .getfield 7, 3, 8, 0), (208, .iconst 2, 1, 0, 0), (209, .iaload, 1, 0, 0), (210, .if_icmp .ge 12, 3, 222, 0), (213, .aload_n 0, 1, 0, 0), (214, .invokevirtual 52, 3, 95, 0), (217, .iconst 1, 1, 0, 0), (218, .isub, 1, 0, 0), (219, .goto 4, 3, 223, 0), (222, .iconst (-1), 1, 0, 0), (223, .iastore, 1, 0, 0), (224, .iload_n 1, 1, 0, 0), (225, .ireturn, 1, 0, 0)]
def zc106 : List (Nat × Instr × Nat × Nat × Nat) := [(0, .iload_n 1, 1, 0, 0), (1, .iconst 2, 1, 0, 0), (2, .bipush 24, 2, 0, 0), (4, .invokestatic 44, 3, 93, 3), (7, .ifCond .eq 23, 3, 30, 0), (10, .iload_n 2, 1, 0, 0), (11, .iconst 3, 1, 0, 0), (12, .bipush 8, 2, 0, 0), (14, .invokestatic 44, 3, 93, 3), (17, .ifCond .eq 13, 3, 30, 0), (20, .iload_n 3, 1, 0, 0), (21, .iconst 1, 1, 0, 0), (22, .bipush 6, 2, 0, 0), (24, .invokestatic 44, 3, 93, 3), (27, .ifCond .ne 7, 3, 34, 0), (30, .sipush (-1001), 3, 0, 0), (33, .ireturn, 1, 0, 0), (34, .aload_n 0, 1, 0, 0), (35, .invokevirtual 73, 3, 96, 0), (38, .aload_n 0, 1, 0, 0), (39, .iload_n 1, 1, 0, 0), (40, .iload_n 2, 1, 0, 0), (41, .iload_n 3, 1, 0, 0), (42, .invokevirtual 40, 3, 98, 3), (45, .aload_n 0, 1, 0, 0), (46, .invokevirtual 52, 3, 95, 0), (49, .ireturn, 1, 0, 0)]
def zc107 : List (Nat × Instr × Nat × Nat × Nat) := [(0, .aload_n 0, 1, 0, 0), (1, .iload_n 1, 1, 0, 0), (2, .invokevirtual 76, 3, 94, 1), (5, .ifCond .eq 14, 3, 19, 0), (8, .iload_n 2, 1, 0, 0), (9, .iconst 1, 1, 0, 0), (10, .sipush 1000, 3, 0, 0), (13, .invokestatic 44, 3, 93, 3), (16, .ifCond .ne 7, 3, 23, 0), (19, .sipush (-1001), 3, 0, 0), (22, .ireturn, 1, 0, 0), (23, .aload_n 0, 1, 0, 0), (24, .invokevirtual 73, 3, 96, 0), (27, .aload_n 0, 1, 0, 0), (28, .getfield 7, 3, 8, 0), (31, .bipush 7, 2, 0, 0), (33, .iload_n 1, 1, 0, 0), (34, .iadd, 1, 0, 0), (35, .iaload, 1, 0, 0), (36, .istore_n 3, 1, 0, 0), (37, .aload_n 0, 1, 0, 0), (38, .getfield 7, 3, 8, 0), (41, .bipush 7, 2, 0, 0), (43, .iload_n 1, 1, 0, 0), (44, .iadd, 1, 0, 0), (45, .iload_n 2, 1, 0, 0), (46, .iastore, 1, 0, 0), (47, .iload_n 3, 1, 0, 0), (48, .ireturn, 1, 0, 0)]
def zc108 : List (Nat × Instr × Nat × Nat × Nat) := [(0, .iload_n 1, 1, 0, 0), (1, .iconst 0, 1, 0, 0), (2, .iconst 1, 1, 0, 0), (3, .invokestatic 44, 3, 93, 3), (6, .ifCond .eq 33, 3, 39, 0), (9, .iload_n 2, 1, 0, 0), (10, .iload_n 1, 1, 0, 0), (11, .ifCond .ne 8, 3, 19, 0), (14, .bipush 100, 2, 0, 0), (16, .goto 4, 3, 20, 0), (19, .iconst 1, 1, 0, 0), (20, .iload_n 1, 1, 0, 0), (21, .ifCond .ne 9, 3, 30, 0), (24, .sipush 5000, 3, 0, 0), (27, .goto 6, 3, 33, 0), (30, .sipush 1000, 3, 0, 0), (33, .invokestatic 44, 3, 93, 3), (36, .ifCond .ne 7, 3, 43, 0), (39, .sipush (-1001), 3, 0, 0), (42, .ireturn, 1, 0, 0), (43, .aload_n 0, 1, 0, 0), (44, .invokevirtual 73, 3, 96, 0), (47, .aload_n 0, 1, 0, 0), (48, .getfield 7, 3, 8, 0), (51, .iconst 5, 1, 0, 0), (52, .iload_n 1, 1, 0, 0), (53, .iadd, 1, 0, 0), (54, .iaload, 1, 0, 0), (55, .istore_n 3, 1, 0, 0), (56, .aload_n 0, 1, 0, 0), (57, .getfield 7, 3, 8, 0), (60, .iconst 5, 1, 0, 0), (61, .iload_n 1, 1, 0, 0), (62, .iadd, 1, 0, 0), (63, .iload_n 2, 1, 0, 0), (64, .iastore, 1, 0, 0), (65, .iload_n 3, 1, 0, 0), (66, .ireturn, 1, 0, 0)]
def zc109 : List (Nat × Instr × Nat × Nat × Nat) := [(0, .aload_n 0, 1, 0, 0), (1, .invokevirtual 80, 3, 100, 0), (4, .aload_n 0, 1, 0, 0), (5, .getfield 7, 3, 8, 0), (8, .iconst 4, 1, 0, 0), (9, .iaload, 1, 0, 0), (10, .iconst (-1), 1, 0, 0), (11, .if_icmp .eq 7, 3, 18, 0), (14, .iconst 1, 1, 0, 0), (15, .goto 4, 3, 19, 0), (18, .iconst 0, 1, 0, 0), (19, .istore_n 2, 1, 0, 0), (20, .iload_n 1, 1, 0, 0), (21, .tableswitch 163 0 12 #[67, 67, 74, 79, 79, 88, 105, 123, 138, 138, 147, 152, 157], 67, 0, 0), (88, .aload_n 0, 1, 0, 0), (89, .getfield 7, 3, 8, 0), (92, .iload_n 1, 1, 0, 0), (93, .iaload, 1, 0, 0), (94, .ireturn, 1, 0, 0), (95, .aload_n 0, 1, 0, 0), (96, .invokevirtual 52, 3, 95, 0), (99, .ireturn, 1, 0, 0), (100, .aload_n 0, 1, 0, 0), (101, .getfield 7, 3, 8, 0), (104, .iload_n 1, 1, 0, 0), (105, .iconst 1, 1, 0, 0), (106, .isub, 1, 0, 0), (107, .iaload, 1, 0, 0), (108, .ireturn, 1, 0, 0), (109, .iload_n 2, 1, 0, 0), (110, .ifCond .eq 12, 3, 122, 0), (113, .aload_n 0, 1, 0, 0), (114, .getfield 7, 3, 8, 0), (117, .iconst 4, 1, 0, 0), (118, .iaload, 1, 0, 0), (119, .goto 6, 3, 125, 0), (122, .sipush (-1004), 3, 0, 0), (125, .ireturn, 1, 0, 0), (126, .iload_n 2, 1, 0, 0), (127, .ifCond .eq 13, 3, 140, 0), (130, .aload_n 0, 1, 0, 0), (131, .getfield 7, 3, 8, 0), (134, .bipush 55, 2, 0, 0), (136, .iaload, 1, 0, 0), (137, .goto 6, 3, 143, 0), (140, .sipush (-1004), 3, 0, 0), (143, .ireturn, 1, 0, 0), (144, .iload_n 2, 1, 0, 0), (145, .ifCond .eq 10, 3, 155, 0), (148, .aload_n 0, 1, 0, 0), (149, .getfield 59, 3, 8, 10), (152, .goto 6, 3, 158, 0), (155, .sipush (-1004), 3, 0, 0), (158, .ireturn, 1, 0, 0), (159, .aload_n 0, 1, 0, 0), (160, .getfield 7, 3, 8, 0), (163, .iload_n 1, 1, 0, 0), (164, .iconst 3, 1, 0, 0), (165, .isub, 1, 0, 0), (166, .iaload, 1, 0, 0), (167, .ireturn, 1, 0, 0), (168, .aload_n 0, 1, 0, 0), (169, .getfield 48, 3, 8, 2), (172, .ireturn, 1, 0, 0), (173, .aload_n 0, 1, 0, 0), (174, .getfield 83, 3, 8, 4), (177, .ireturn, 1, 0, 0), (178, .aload_n 0, 1, 0, 0), (179, .iconst 0, 1, 0, 0), (180, .invokevirtual 62, 3, 99, 1), (183, .ireturn, 1, 0, 0), (184, .sipush (-1001), 3, 0, 0), (187, .ireturn, 1, 0, 0)]
def zc110 : List (Nat × Instr × Nat × Nat × Nat) := [(0, .iconst 0, 1, 0, 0), (1, .istore_n 3, 1, 0, 0), (2, .iconst 0, 1, 0, 0), (3, .istore 4, 2, 0, 0), (5, .iload 4, 2, 0, 0), (7, .aload_n 0, 1, 0, 0), (8, .getfield 7, 3, 8, 0), (11, .iconst 3, 1, 0, 0), (12, .iaload, 1, 0, 0), (13, .if_icmp .ge 62, 3, 75, 0), (16, .aload_n 0, 1, 0, 0), (17, .getfield 7, 3, 8, 0), (20, .sipush 417, 3, 0, 0), (23, .bipush 24, 2, 0, 0), (25, .iload 4, 2, 0, 0), (27, .imul, 1, 0, 0), (28, .iadd, 1, 0, 0), (29, .iload_n 1, 1, 0, 0), (30, .iadd, 1, 0, 0), (31, .iaload, 1, 0, 0), (32, .aload_n 0, 1, 0, 0), (33, .getfield 7, 3, 8, 0), (36, .sipush 417, 3, 0, 0), (39, .bipush 24, 2, 0, 0), (41, .iload 4, 2, 0, 0), (43, .imul, 1, 0, 0), (44, .iadd, 1, 0, 0), (45, .bipush 24, 2, 0, 0), (47, .iadd, 1, 0, 0), (48, .iload_n 1, 1, 0, 0), (49, .iadd, 1, 0, 0), (50, .iaload, 1, 0, 0), (51, .isub, 1, 0, 0), (52, .istore 5, 2, 0, 0), (54, .iload_n 3, 1, 0, 0), (55, .iload_n 2, 1, 0, 0), (56, .iload 5, 2, 0, 0), (58, .imul, 1, 0, 0), (59, .ifCond .le 7, 3, 66, 0), (62, .iconst 1, 1, 0, 0), (63, .goto 4, 3, 67, 0), (66, .iconst 0, 1, 0, 0), (67, .iadd, 1, 0, 0), (68, .istore_n 3, 1, 0, 0), (69, .iinc 4 1, 3, 0, 0), (72, .goto (-67), 3, 5, 0), (75, .iload_n 3, 1, 0, 0), (76, .ireturn, 1, 0, 0)]
def zc111 : List (Nat × Instr × Nat × Nat × Nat) := [(0, .iconst 0, 1, 0, 0), (1, .istore_n 3, 1, 0, 0), (2, .iconst 0, 1, 0, 0), (3, .istore 4, 2, 0, 0), (5, .iload 4, 2, 0, 0), (7, .aload_n 0, 1, 0, 0), (8, .getfield 7, 3, 8, 0), (11, .bipush 80, 2, 0, 0), (13, .iaload, 1, 0, 0), (14, .if_icmp .ge 30, 3, 44, 0), (17, .iload_n 3, 1, 0, 0), (18, .aload_n 0, 1, 0, 0), (19, .getfield 7, 3, 8, 0), (22, .iload_n 2, 1, 0, 0), (23, .iload 4, 2, 0, 0), (25, .iadd, 1, 0, 0), (26, .iaload, 1, 0, 0), (27, .iload_n 1, 1, 0, 0), (28, .if_icmp .ne 7, 3, 35, 0), (31, .iconst 1, 1, 0, 0), (32, .goto 4, 3, 36, 0), (35, .iconst 0, 1, 0, 0), (36, .iadd, 1, 0, 0), (37, .istore_n 3, 1, 0, 0), (38, .iinc 4 1, 3, 0, 0), (41, .goto (-36), 3, 5, 0), (44, .iload_n 3, 1, 0, 0), (45, .ireturn, 1, 0, 0)]
def zc112 : List (Nat × Instr × Nat × Nat × Nat) := [(0, .aload_n 0, 1, 0, 0), (1, .iload_n 1, 1, 0, 0), (2, .invokevirtual 76, 3, 94, 1), (5, .ifCond .eq 13, 3, 18, 0), (8, .iload_n 2, 1, 0, 0), (9, .iconst 0, 1, 0, 0), (10, .bipush 9, 2, 0, 0), (12, .invokestatic 44, 3, 93, 3), (15, .ifCond .ne 7, 3, 22, 0), (18, .sipush (-1001), 3, 0, 0), (21, .ireturn, 1, 0, 0), (22, .aload_n 0, 1, 0, 0), (23, .invokevirtual 80, 3, 100, 0), (26, .aload_n 0, 1, 0, 0), (27, .iload_n 1, 1, 0, 0), (28, .invokevirtual 66, 3, 101, 1), (31, .istore_n 3, 1, 0, 0), (32, .iload_n 2, 1, 0, 0), (33, .tableswitch 190 0 7 #[47, 57, 67, 84, 97, 123, 130, 137], 47, 0, 0), (80, .aload_n 0, 1, 0, 0), (81, .getfield 7, 3, 8, 0), (84, .bipush 7, 2, 0, 0), (86, .iload_n 1, 1, 0, 0), (87, .iadd, 1, 0, 0), (88, .iaload, 1, 0, 0), (89, .ireturn, 1, 0, 0), (90, .aload_n 0, 1, 0, 0), (91, .getfield 7, 3, 8, 0), (94, .bipush 31, 2, 0, 0), (96, .iload_n 1, 1, 0, 0), (97, .iadd, 1, 0, 0), (98, .iaload, 1, 0, 0), (99, .ireturn, 1, 0, 0), (100, .aload_n 0, 1, 0, 0), (101, .getfield 7, 3, 8, 0), (104, .bipush 31, 2, 0, 0), (106, .iload_n 1, 1, 0, 0), (107, .iadd, 1, 0, 0), (108, .iaload, 1, 0, 0), (109, .aload_n 0, 1, 0, 0), (110, .getfield 7, 3, 8, 0), (113, .iconst 1, 1, 0, 0), (114, .iaload, 1, 0, 0), (115, .idiv, 1, 0, 0), (116, .ireturn, 1, 0, 0), (117, .iload_n 3, 1, 0, 0), (118, .iconst (-1), 1, 0, 0), (119, .if_icmp .ne 9, 3, 128, 0), (122, .sipush (-1004), 3, 0, 0), (125, .goto 4, 3, 129, 0), (128, .iload_n 3, 1, 0, 0), (129, .ireturn, 1, 0, 0), (130, .iload_n 3, 1, 0, 0), (131, .iconst (-1), 1, 0, 0), (132, .if_icmp .ne 9, 3, 141, 0), (135, .sipush (-1004), 3, 0, 0), (138, .goto 17, 3, 155, 0), (141, .aload_n 0, 1, 0, 0), (142, .getfield 23, 3, 8, 11), (145, .iload_n 3, 1, 0, 0), (146, .baload, 1, 0, 0), (147, .ifCond .eq 7, 3, 154, 0), (150, .iconst 1, 1, 0, 0), (151, .goto 4, 3, 155, 0), (154, .iconst 0, 1, 0, 0), (155, .ireturn, 1, 0, 0), (156, .aload_n 0, 1, 0, 0), (157, .iload_n 1, 1, 0, 0), (158, .iconst 1, 1, 0, 0), (159, .invokevirtual 86, 3, 110, 2), (162, .ireturn, 1, 0, 0), (163, .aload_n 0, 1, 0, 0), (164, .iload_n 1, 1, 0, 0), (165, .iconst (-1), 1, 0, 0), (166, .invokevirtual 86, 3, 110, 2), (169, .ireturn, 1, 0, 0), (170, .aload_n 0, 1, 0, 0), (171, .getfield 7, 3, 8, 0), (174, .iconst 3, 1, 0, 0), (175, .iaload, 1, 0, 0), (176, .ifCond .ne 7, 3, 183, 0), (179, .iconst 0, 1, 0, 0), (180, .goto 42, 3, 222, 0), (183, .aload_n 0, 1, 0, 0), (184, .iload_n 1, 1, 0, 0), (185, .iconst 1, 1, 0, 0), (186, .invokevirtual 86, 3, 110, 2), (189, .aload_n 0, 1, 0, 0), (190, .getfield 7, 3, 8, 0), (193, .iconst 3, 1, 0, 0), (194, .iaload, 1, 0, 0), (195, .if_icmp .ne 7, 3, 202, 0), (198, .iconst 1, 1, 0, 0), (199, .goto 23, 3, 222, 0), (202, .aload_n 0, 1, 0, 0), (203, .iload_n 1, 1, 0, 0), (204, .iconst (-1), 1, 0, 0), (205, .invokevirtual 86, 3, 110, 2), (208, .aload_n 0, 1, 0, 0), (209, .getfield 7, 3, 8, 0), (212, .iconst 3, 1, 0, 0), (213, .iaload, 1, 0, 0), (214, .if_icmp .ne 7, 3, 221, 0), (217, .iconst 2, 1, 0, 0), (218, .goto 4, 3, 222, 0), (221, .iconst 0, 1, 0, 0), (222, .ireturn, 1, 0, 0), (223, .aload_n 0, 1, 0, 0), (224, .iload_n 1, 1, 0, 0), (225, .iload_n 2, 1, 0, 0), (226, .bipush 8, 2, 0, 0), (228, .if_icmp .ne 9, 3, 237, 0), (231, .sipush 193, 3, 0, 0), (234, .goto 6, 3, 240, 0), (237, .sipush 305, 3, 0, 0), (240, .invokevirtual 90, 3, 111, 2), (243, .ireturn, 1, 0, 0)]
def zc113 : List (Nat × Instr × Nat × Nat × Nat) := [(0, .iload_n 1, 1, 0, 0), (1, .iconst 0, 1, 0, 0), (2, .aload_n 0, 1, 0, 0), (3, .getfield 7, 3, 8, 0), (6, .iconst 0, 1, 0, 0), (7, .iaload, 1, 0, 0), (8, .iconst 1, 1, 0, 0), (9, .isub, 1, 0, 0), (10, .invokestatic 44, 3, 93, 3), (13, .ifCond .eq 11, 3, 24, 0), (16, .aload_n 0, 1, 0, 0), (17, .iload_n 1, 1, 0, 0), (18, .invokevirtual 62, 3, 99, 1), (21, .goto 6, 3, 27, 0), (24, .sipush (-1001), 3, 0, 0), (27, .ireturn, 1, 0, 0)]
def zc114 : List (Nat × Instr × Nat × Nat × Nat) := [(0, .iload_n 1, 1, 0, 0), (1, .ifCond .ge 7, 3, 8, 0), (4, .sipush (-1001), 3, 0, 0), (7, .ireturn, 1, 0, 0), (8, .aload_n 0, 1, 0, 0), (9, .invokevirtual 80, 3, 100, 0), (12, .iload_n 1, 1, 0, 0), (13, .aload_n 0, 1, 0, 0), (14, .getfield 59, 3, 8, 10), (17, .if_icmp .ge 12, 3, 29, 0), (20, .aload_n 0, 1, 0, 0), (21, .getfield 20, 3, 8, 9), (24, .iload_n 1, 1, 0, 0), (25, .iaload, 1, 0, 0), (26, .goto 6, 3, 32, 0), (29, .sipush (-1004), 3, 0, 0), (32, .ireturn, 1, 0, 0)]
def zc115 : List (Nat × Instr × Nat × Nat × Nat) := [(0, .aload_n 0, 1, 0, 0), (1, .iload_n 1, 1, 0, 0), (2, .invokevirtual 76, 3, 94, 1), (5, .ifCond .eq 11, 3, 16, 0), (8, .aload_n 0, 1, 0, 0), (9, .iload_n 2, 1, 0, 0), (10, .invokevirtual 76, 3, 94, 1), (13, .ifCond .ne 7, 3, 20, 0), (16, .sipush (-1001), 3, 0, 0), (19, .ireturn, 1, 0, 0), (20, .aload_n 0, 1, 0, 0), (21, .invokevirtual 80, 3, 100, 0), (24, .aload_n 0, 1, 0, 0), (25, .iload_n 1, 1, 0, 0), (26, .iload_n 2, 1, 0, 0), (27, .invokevirtual 93, 3, 103, 2), (30, .ifCond .le 7, 3, 37, 0), (33, .sipush (-1002), 3, 0, 0), (36, .ireturn, 1, 0, 0), (37, .aload_n 0, 1, 0, 0), (38, .invokevirtual 73, 3, 96, 0), (41, .aload_n 0, 1, 0, 0), (42, .iload_n 1, 1, 0, 0), (43, .iload_n 2, 1, 0, 0), (44, .invokevirtual 96, 3, 104, 2), (47, .ireturn, 1, 0, 0)]
def zc116 : List (Nat × Instr × Nat × Nat × Nat) := [(0, .aload_n 0, 1, 0, 0), (1, .iload_n 1, 1, 0, 0), (2, .invokevirtual 76, 3, 94, 1), (5, .ifCond .eq 11, 3, 16, 0), (8, .aload_n 0, 1, 0, 0), (9, .iload_n 2, 1, 0, 0), (10, .invokevirtual 76, 3, 94, 1), (13, .ifCond .ne 7, 3, 20, 0), (16, .sipush (-1001), 3, 0, 0), (19, .ireturn, 1, 0, 0), (20, .aload_n 0, 1, 0, 0), (21, .invokevirtual 80, 3, 100, 0), (24, .aload_n 0, 1, 0, 0), (25, .iload_n 1, 1, 0, 0), (26, .iload_n 2, 1, 0, 0), (27, .invokevirtual 93, 3, 103, 2), (30, .ireturn, 1, 0, 0)]
def zc117 : List (Nat × Instr × Nat × Nat × Nat) := [(0, .iload_n 1, 1, 0, 0), (1, .iconst 0, 1, 0, 0), (2, .aload_n 0, 1, 0, 0), (3, .getfield 7, 3, 8, 0), (6, .bipush 55, 2, 0, 0), (8, .iaload, 1, 0, 0), (9, .iconst 1, 1, 0, 0), (10, .isub, 1, 0, 0), (11, .invokestatic 44, 3, 93, 3), (14, .ifCond .eq 12, 3, 26, 0), (17, .iload_n 2, 1, 0, 0), (18, .iconst 0, 1, 0, 0), (19, .iconst 2, 1, 0, 0), (20, .invokestatic 44, 3, 93, 3), (23, .ifCond .ne 7, 3, 30, 0), (26, .sipush (-1001), 3, 0, 0), (29, .ireturn, 1, 0, 0), (30, .aload_n 0, 1, 0, 0), (31, .getfield 7, 3, 8, 0), (34, .bipush 56, 2, 0, 0), (36, .iload_n 1, 1, 0, 0), (37, .iadd, 1, 0, 0), (38, .iaload, 1, 0, 0), (39, .istore_n 3, 1, 0, 0), (40, .aload_n 0, 1, 0, 0), (41, .getfield 7, 3, 8, 0), (44, .bipush 68, 2, 0, 0), (46, .iload_n 1, 1, 0, 0), (47, .iadd, 1, 0, 0), (48, .iaload, 1, 0, 0), (49, .istore 4, 2, 0, 0), (51, .iload_n 2, 1, 0, 0), (52, .ifCond .ne 7, 3, 59, 0), (55, .iload_n 3, 1, 0, 0), (56, .goto 35, 3, 91, 0), (59, .iload_n 2, 1, 0, 0), (60, .iconst 1, 1, 0, 0), (61, .if_icmp .ne 8, 3, 69, 0), (64, .iload 4, 2, 0, 0), (66, .goto 25, 3, 91, 0), (69, .aload_n 0, 1, 0, 0), (70, .getfield 7, 3, 8, 0), (73, .bipush 31, 2, 0, 0), (75, .iload_n 3, 1, 0, 0), (76, .iadd, 1, 0, 0), (77, .iaload, 1, 0, 0), (78, .aload_n 0, 1, 0, 0), (79, .getfield 7, 3, 8, 0), (82, .bipush 31, 2, 0, 0), (84, .iload 4, 2, 0, 0), (86, .iadd, 1, 0, 0), (87, .iaload, 1, 0, 0), (88, .isub, 1, 0, 0), (89, .iconst 1, 1, 0, 0), (90, .isub, 1, 0, 0), (91, .ireturn, 1, 0, 0)]
def zc118 : List (Nat × Instr × Nat × Nat × Nat) := [(0, .aload_n 0, 1, 0, 0), (1, .getfield 7, 3, 8, 0), (4, .bipush 31, 2, 0, 0), (6, .aload_n 0, 1, 0, 0), (7, .getfield 7, 3, 8, 0), (10, .bipush 56, 2, 0, 0), (12, .iload_n 1, 1, 0, 0), (13, .iadd, 1, 0, 0), (14, .iaload, 1, 0, 0), (15, .iadd, 1, 0, 0), (16, .iaload, 1, 0, 0), (17, .istore_n 3, 1, 0, 0), (18, .aload_n 0, 1, 0, 0), (19, .getfield 7, 3, 8, 0), (22, .bipush 31, 2, 0, 0), (24, .aload_n 0, 1, 0, 0), (25, .getfield 7, 3, 8, 0), (28, .bipush 68, 2, 0, 0), (30, .iload_n 1, 1, 0, 0), (31, .iadd, 1, 0, 0), (32, .iaload, 1, 0, 0), (33, .iadd, 1, 0, 0), (34, .iaload, 1, 0, 0), (35, .istore 4, 2, 0, 0), (37, .aload_n 0, 1, 0, 0), (38, .getfield 7, 3, 8, 0), (41, .bipush 31, 2, 0, 0), (43, .aload_n 0, 1, 0, 0), (44, .getfield 7, 3, 8, 0), (47, .bipush 56, 2, 0, 0), (49, .iload_n 2, 1, 0, 0), (50, .iadd, 1, 0, 0), (51, .iaload, 1, 0, 0), (52, .iadd, 1, 0, 0), (53, .iaload, 1, 0, 0), (54, .iload 4, 2, 0, 0), (56, .iconst 1, 1, 0, 0), (57, .iadd, 1, 0, 0), (58, .iload_n 3, 1, 0, 0), (59, .iconst 1, 1, 0, 0), (60, .isub, 1, 0, 0), (61, .invokestatic 44, 3, 93, 3), (64, .ifCond .ne 33, 3, 97, 0), (67, .aload_n 0, 1, 0, 0), (68, .getfield 7, 3, 8, 0), (71, .bipush 31, 2, 0, 0), (73, .aload_n 0, 1, 0, 0), (74, .getfield 7, 3, 8, 0), (77, .bipush 68, 2, 0, 0), (79, .iload_n 2, 1, 0, 0), (80, .iadd, 1, 0, 0), (81, .iaload, 1, 0, 0), (82, .iadd, 1, 0, 0), (83, .iaload, 1, 0, 0), (84, .iload 4, 2, 0, 0), (86, .iconst 1, 1, 0, 0), (87, .iadd, 1, 0, 0), (88, .iload_n 3, 1, 0, 0), (89, .iconst 1, 1, 0, 0), (90, .isub, 1, 0, 0), (91, .invokestatic 44, 3, 93, 3), (94, .ifCond .eq 7, 3, 101, 0), (97, .iconst 1, 1, 0, 0), (98, .goto 4, 3, 102, 0), (101, .iconst 0, 1, 0, 0), (102, .ireturn, 1, 0, 0)]
def zc119 : List (Nat × Instr × Nat × Nat × Nat) := [(0, .iload_n 1, 1, 0, 0), (1, .iconst 0, 1, 0, 0), (2, .aload_n 0, 1, 0, 0), (3, .getfield 7, 3, 8, 0), (6, .bipush 55, 2, 0, 0), (8, .iaload, 1, 0, 0), (9, .iconst 1, 1, 0, 0), (10, .isub, 1, 0, 0), (11, .invokestatic 44, 3, 93, 3), (14, .ifCond .ne 7, 3, 21, 0), (17, .sipush (-1001), 3, 0, 0), (20, .ireturn, 1, 0, 0), (21, .aload_n 0, 1, 0, 0), (22, .invokevirtual 73, 3, 96, 0), (25, .iconst 1, 1, 0, 0), (26, .iload_n 1, 1, 0, 0), (27, .ishl, 1, 0, 0), (28, .istore_n 2, 1, 0, 0), (29, .iload_n 1, 1, 0, 0), (30, .iconst 1, 1, 0, 0), (31, .iadd, 1, 0, 0), (32, .istore_n 3, 1, 0, 0), (33, .iload_n 3, 1, 0, 0), (34, .aload_n 0, 1, 0, 0), (35, .getfield 7, 3, 8, 0), (38, .bipush 55, 2, 0, 0), (40, .iaload, 1, 0, 0), (41, .if_icmp .ge 54, 3, 95, 0), (44, .iconst 0, 1, 0, 0), (45, .istore 4, 2, 0, 0), (47, .iload 4, 2, 0, 0), (49, .iload_n 3, 1, 0, 0), (50, .if_icmp .ge 39, 3, 89, 0), (53, .iload_n 2, 1, 0, 0), (54, .iload_n 2, 1, 0, 0), (55, .iload 4, 2, 0, 0), (57, .ishr, 1, 0, 0), (58, .iconst 1, 1, 0, 0), (59, .iand, 1, 0, 0), (60, .iconst 1, 1, 0, 0), (61, .if_icmp .ne 19, 3, 80, 0), (64, .aload_n 0, 1, 0, 0), (65, .iload_n 3, 1, 0, 0), (66, .iload 4, 2, 0, 0), (68, .invokevirtual 99, 3, 118, 2), (71, .ifCond .eq 9, 3, 80, 0), (74, .iconst 1, 1, 0, 0), (75, .iload_n 3, 1, 0, 0), (76, .ishl, 1, 0, 0), (77, .goto 4, 3, 81, 0), (80, .iconst 0, 1, 0, 0), (81, .ior, 1, 0, 0), (82, .istore_n 2, 1, 0, 0), (83, .iinc 4 1, 3, 0, 0), (86, .goto (-39), 3, 47, 0), (89, .iinc 3 1, 3, 0, 0), (92, .goto (-59), 3, 33, 0), (95, .iconst 0, 1, 0, 0), (96, .istore_n 3, 1, 0, 0), (97, .aload_n 0, 1, 0, 0), (98, .getfield 7, 3, 8, 0), (101, .bipush 55, 2, 0, 0), (103, .iaload, 1, 0, 0), (104, .istore 4, 2, 0, 0), (106, .iconst 0, 1, 0, 0), (107, .istore 5, 2, 0, 0), (109, .iload 5, 2, 0, 0), (111, .iload 4, 2, 0, 0), (113, .if_icmp .ge 59, 3, 172, 0), (116, .iload_n 2, 1, 0, 0), (117, .iload 5, 2, 0, 0), (119, .ishr, 1, 0, 0), (120, .iconst 1, 1, 0, 0), (121, .iand, 1, 0, 0), (122, .ifCond .ne 44, 3, 166, 0), (125, .aload_n 0, 1, 0, 0), (126, .getfield 7, 3, 8, 0), (129, .bipush 56, 2, 0, 0), (131, .iload_n 3, 1, 0, 0), (132, .iadd, 1, 0, 0), (133, .aload_n 0, 1, 0, 0), (134, .getfield 7, 3, 8, 0), (137, .bipush 56, 2, 0, 0), (139, .iload 5, 2, 0, 0), (141, .iadd, 1, 0, 0), (142, .iaload, 1, 0, 0), (143, .iastore, 1, 0, 0), (144, .aload_n 0, 1, 0, 0), (145, .getfield 7, 3, 8, 0), (148, .bipush 68, 2, 0, 0), (150, .iload_n 3, 1, 0, 0), (151, .iadd, 1, 0, 0), (152, .aload_n 0, 1, 0, 0), (153, .getfield 7, 3, 8, 0), (156, .bipush 68, 2, 0, 0), (158, .iload 5, 2, 0, 0), (160, .iadd, 1, 0, 0), (161, .iaload, 1, 0, 0), (162, .iastore, 1, 0, 0), (163, .iinc 3 1, 3, 0, 0), (166, .iinc 5 1, 3, 0, 0), (169, .goto (-60), 3, 109, 0), (172, .aload_n 0, 1, 0, 0), (173, .getfield 7, 3, 8, 0), (176, .bipush 55, 2, 0, 0), (178, .iload_n 3, 1, 0, 0), (179, .iastore, 1, 0, 0), (180, .iload 4, 2, 0, 0), (182, .iload_n 3, 1, 0, 0), (183, .isub, 1, 0, 0), (184, .ireturn, 1, 0, 0)]
def zc120 : List (Nat × Instr × Nat × Nat × Nat) := [(0, .aload_n 0, 1, 0, 0), (1, .getfield 7, 3, 8, 0), (4, .iconst 4, 1, 0, 0), (5, .iaload, 1, 0, 0), (6, .iconst (-1), 1, 0, 0), (7, .if_icmp .ne 7, 3, 14, 0), (10, .sipush (-1002), 3, 0, 0), (13, .ireturn, 1, 0, 0), (14, .aload_n 0, 1, 0, 0), (15, .invokevirtual 73, 3, 96, 0), (18, .aload_n 0, 1, 0, 0), (19, .invokevirtual 102, 3, 105, 0), (22, .ireturn, 1, 0, 0)]
def zc121 : List (Nat × Instr × Nat × Nat × Nat) := [(0, .aload_n 0, 1, 0, 0), (1, .getfield 48, 3, 8, 2), (4, .ifCond .ne 7, 3, 11, 0), (7, .sipush (-1002), 3, 0, 0), (10, .ireturn, 1, 0, 0), (11, .aload_n 0, 1, 0, 0), (12, .dup, 1, 0, 0), (13, .getfield 48, 3, 8, 2), (16, .iconst 1, 1, 0, 0), (17, .isub, 1, 0, 0), (18, .putfield 48, 3, 8, 2), (21, .iconst 0, 1, 0, 0), (22, .istore_n 1, 1, 0, 0), (23, .iload_n 1, 1, 0, 0), (24, .sipush 585, 3, 0, 0), (27, .if_icmp .ge 30, 3, 57, 0), (30, .aload_n 0, 1, 0, 0), (31, .getfield 7, 3, 8, 0), (34, .iload_n 1, 1, 0, 0), (35, .aload_n 0, 1, 0, 0), (36, .getfield 13, 3, 8, 1), (39, .sipush 585, 3, 0, 0), (42, .aload_n 0, 1, 0, 0), (43, .getfield 48, 3, 8, 2), (46, .imul, 1, 0, 0), (47, .iload_n 1, 1, 0, 0), (48, .iadd, 1, 0, 0), (49, .iaload, 1, 0, 0), (50, .iastore, 1, 0, 0), (51, .iinc 1 1, 3, 0, 0), (54, .goto (-31), 3, 23, 0), (57, .aload_n 0, 1, 0, 0), (58, .getfield 48, 3, 8, 2), (61, .ireturn, 1, 0, 0)]
def zc122 : List (Nat × Instr × Nat × Nat × Nat) := [(0, .aload_n 0, 1, 0, 0), (1, .invokevirtual 80, 3, 100, 0), (4, .iconst 0, 1, 0, 0), (5, .istore_n 1, 1, 0, 0), (6, .iload_n 1, 1, 0, 0), (7, .aload_n 0, 1, 0, 0), (8, .getfield 59, 3, 8, 10), (11, .if_icmp .ge 16, 3, 27, 0), (14, .aload_n 0, 1, 0, 0), (15, .getfield 23, 3, 8, 11), (18, .iload_n 1, 1, 0, 0), (19, .iconst 0, 1, 0, 0), (20, .bastore, 1, 0, 0), (21, .iinc 1 1, 3, 0, 0), (24, .goto (-18), 3, 6, 0), (27, .aload_n 0, 1, 0, 0), (28, .iconst 0, 1, 0, 0), (29, .putfield 105, 3, 8, 15), (32, .iconst 1, 1, 0, 0), (33, .istore_n 1, 1, 0, 0), (34, .iload_n 1, 1, 0, 0), (35, .ifCond .eq 254, 3, 289, 0), (38, .iconst (-1), 1, 0, 0), (39, .istore_n 2, 1, 0, 0), (40, .iconst (-1), 1, 0, 0), (41, .istore_n 3, 1, 0, 0), (42, .dconst 0, 1, 0, 0), (43, .dstore 4, 2, 0, 0), (45, .iconst 0, 1, 0, 0), (46, .istore 6, 2, 0, 0), (48, .iload 6, 2, 0, 0), (50, .aload_n 0, 1, 0, 0), (51, .getfield 59, 3, 8, 10), (54, .if_icmp .ge 148, 3, 202, 0), (57, .iload 6, 2, 0, 0), (59, .iconst 1, 1, 0, 0), (60, .iadd, 1, 0, 0), (61, .istore 7, 2, 0, 0), (63, .iload 7, 2, 0, 0), (65, .aload_n 0, 1, 0, 0), (66, .getfield 59, 3, 8, 10), (69, .if_icmp .ge 19, 3, 88, 0), (72, .aload_n 0, 1, 0, 0), (73, .getfield 23, 3, 8, 11), (76, .iload 7, 2, 0, 0), (78, .baload, 1, 0, 0), (79, .ifCond .eq 9, 3, 88, 0), (82, .iinc 7 1, 3, 0, 0), (85, .goto (-22), 3, 63, 0), (88, .aload_n 0, 1, 0, 0), (89, .getfield 23, 3, 8, 11), (92, .iload 6, 2, 0, 0), (94, .baload, 1, 0, 0), (95, .ifCond .ne 101, 3, 196, 0), (98, .iload 7, 2, 0, 0), (100, .aload_n 0, 1, 0, 0), (101, .getfield 59, 3, 8, 10), (104, .if_icmp .ge 92, 3, 196, 0), (107, .aload_n 0, 1, 0, 0), (108, .getfield 7, 3, 8, 0), (111, .bipush 7, 2, 0, 0), (113, .aload_n 0, 1, 0, 0), (114, .getfield 20, 3, 8, 9), (117, .iload 7, 2, 0, 0), (119, .iaload, 1, 0, 0), (120, .iadd, 1, 0, 0), (121, .iaload, 1, 0, 0), (122, .aload_n 0, 1, 0, 0), (123, .getfield 7, 3, 8, 0), (126, .bipush 7, 2, 0, 0), (128, .aload_n 0, 1, 0, 0), (129, .getfield 20, 3, 8, 9), (132, .iload 6, 2, 0, 0), (134, .iaload, 1, 0, 0), (135, .iadd, 1, 0, 0), (136, .iaload, 1, 0, 0), (137, .isub, 1, 0, 0), (138, .istore 8, 2, 0, 0), (140, .iload 8, 2, 0, 0), (142, .ifCond .le 23, 3, 165, 0), (145, .iload 7, 2, 0, 0), (147, .iload 6, 2, 0, 0), (149, .isub, 1, 0, 0), (150, .aload_n 0, 1, 0, 0), (151, .getfield 7, 3, 8, 0), (154, .iconst 5, 1, 0, 0), (155, .iaload, 1, 0, 0), (156, .imul, 1, 0, 0), (157, .i2d, 1, 0, 0), (158, .iload 8, 2, 0, 0), (160, .i2d, 1, 0, 0), (161, .ddiv, 1, 0, 0), (162, .goto 4, 3, 166, 0), (165, .dconst 0, 1, 0, 0), (166, .dstore 9, 2, 0, 0), (168, .iload 8, 2, 0, 0), (170, .ifCond .le 26, 3, 196, 0), (173, .iload_n 2, 1, 0, 0), (174, .iconst (-1), 1, 0, 0), (175, .if_icmp .eq 11, 3, 186, 0), (178, .dload 9, 2, 0, 0), (180, .dload 4, 2, 0, 0), (182, .dcmp .g, 1, 0, 0), (183, .ifCond .ge 13, 3, 196, 0), (186, .iload 6, 2, 0, 0), (188, .istore_n 2, 1, 0, 0), (189, .iload 7, 2, 0, 0), (191, .istore_n 3, 1, 0, 0), (192, .dload 9, 2, 0, 0), (194, .dstore 4, 2, 0, 0), (196, .iinc 6 1, 3, 0, 0), (199, .goto (-151), 3, 48, 0), (202, .iload_n 2, 1, 0, 0), (203, .iconst (-1), 1, 0, 0), (204, .if_icmp .eq 21, 3, 225, 0), (207, .dload 4, 2, 0, 0), (209, .aload_n 0, 1, 0, 0), (210, .getfield 7, 3, 8, 0), (213, .bipush 6, 2, 0, 0), (215, .iaload, 1, 0, 0), (216, .i2d, 1, 0, 0), (217, .dcmp .g, 1, 0, 0), (218, .ifCond .gt 7, 3, 225, 0), (221, .iconst 1, 1, 0, 0), (222, .goto 4, 3, 226, 0), (225, .iconst 0, 1, 0, 0), (226, .istore_n 1, 1, 0, 0), (227, .iload_n 1, 1, 0, 0), (228, .ifCond .eq 58, 3, 286, 0), (231, .aload_n 0, 1, 0, 0), (232, .getfield 27, 3, 8, 12), (235, .aload_n 0, 1, 0, 0), (236, .getfield 105, 3, 8, 15), (239, .iload_n 3, 1, 0, 0), (240, .iastore, 1, 0, 0), (241, .aload_n 0, 1, 0, 0), (242, .getfield 30, 3, 8, 13), (245, .aload_n 0, 1, 0, 0), (246, .getfield 105, 3, 8, 15), (249, .iload_n 2, 1, 0, 0), (250, .iastore, 1, 0, 0), (251, .aload_n 0, 1, 0, 0), (252, .getfield 33, 3, 8, 14), (255, .aload_n 0, 1, 0, 0), (256, .getfield 105, 3, 8, 15), (259, .dload 4, 2, 0, 0), (261, .dastore, 1, 0, 0), (262, .aload_n 0, 1, 0, 0), (263, .dup, 1, 0, 0), (264, .getfield 105, 3, 8, 15), (267, .iconst 1, 1, 0, 0), (268, .iadd, 1, 0, 0), (269, .putfield 105, 3, 8, 15), (272, .aload_n 0, 1, 0, 0), (273, .getfield 23, 3, 8, 11), (276, .iload_n 2, 1, 0, 0), (277, .iconst 1, 1, 0, 0), (278, .bastore, 1, 0, 0), (279, .aload_n 0, 1, 0, 0), (280, .getfield 23, 3, 8, 11), (283, .iload_n 3, 1, 0, 0), (284, .iconst 1, 1, 0, 0), (285, .bastore, 1, 0, 0), (286, .goto (-252), 3, 34, 0), (289, .return_, 1, 0, 0)]
def zc123 : List (Nat × Instr × Nat × Nat × Nat) := [(0, .iload_n 1, 1, 0, 0), (1, .ifCond .lt 12, 3, 13, 0), (4, .iload_n 2, 1, 0, 0), (5, .iconst 0, 1, 0, 0), (6, .iconst 2, 1, 0, 0), (7, .invokestatic 44, 3, 93, 3), (10, .ifCond .ne 7, 3, 17, 0), (13, .sipush (-1001), 3, 0, 0), (16, .ireturn, 1, 0, 0), (17, .aload_n 0, 1, 0, 0), (18, .invokevirtual 108, 3, 122, 0), (21, .iload_n 1, 1, 0, 0), (22, .aload_n 0, 1, 0, 0), (23, .getfield 105, 3, 8, 15), (26, .if_icmp .lt 7, 3, 33, 0), (29, .sipush (-1004), 3, 0, 0), (32, .ireturn, 1, 0, 0), (33, .iload_n 2, 1, 0, 0), (34, .ifCond .ne 17, 3, 51, 0), (37, .aload_n 0, 1, 0, 0), (38, .getfield 20, 3, 8, 9), (41, .aload_n 0, 1, 0, 0), (42, .getfield 27, 3, 8, 12), (45, .iload_n 1, 1, 0, 0), (46, .iaload, 1, 0, 0), (47, .iaload, 1, 0, 0), (48, .goto 32, 3, 80, 0), (51, .iload_n 2, 1, 0, 0), (52, .iconst 1, 1, 0, 0), (53, .if_icmp .ne 17, 3, 70, 0), (56, .aload_n 0, 1, 0, 0), (57, .getfield 20, 3, 8, 9), (60, .aload_n 0, 1, 0, 0), (61, .getfield 30, 3, 8, 13), (64, .iload_n 1, 1, 0, 0), (65, .iaload, 1, 0, 0), (66, .iaload, 1, 0, 0), (67, .goto 13, 3, 80, 0), (70, .aload_n 0, 1, 0, 0), (71, .getfield 33, 3, 8, 14), (74, .iload_n 1, 1, 0, 0), (75, .daload, 1, 0, 0), (76, .d2f, 1, 0, 0), (77, .invokestatic 111, 3, 140, 1), (80, .ireturn, 1, 0, 0)]
def zc124 : List (Nat × Instr × Nat × Nat × Nat) := [(0, .aload_n 0, 1, 0, 0), (1, .getfield 7, 3, 8, 0), (4, .iconst 4, 1, 0, 0), (5, .iaload, 1, 0, 0), (6, .iconst (-1), 1, 0, 0), (7, .if_icmp .eq 13, 3, 20, 0), (10, .aload_n 0, 1, 0, 0), (11, .getfield 7, 3, 8, 0), (14, .bipush 55, 2, 0, 0), (16, .iaload, 1, 0, 0), (17, .ifCond .le 7, 3, 24, 0), (20, .sipush (-1002), 3, 0, 0), (23, .ireturn, 1, 0, 0), (24, .aload_n 0, 1, 0, 0), (25, .invokevirtual 73, 3, 96, 0), (28, .aload_n 0, 1, 0, 0), (29, .invokevirtual 108, 3, 122, 0), (32, .iconst 0, 1, 0, 0), (33, .istore_n 1, 1, 0, 0), (34, .iload_n 1, 1, 0, 0), (35, .aload_n 0, 1, 0, 0), (36, .getfield 105, 3, 8, 15), (39, .if_icmp .ge 36, 3, 75, 0), (42, .aload_n 0, 1, 0, 0), (43, .aload_n 0, 1, 0, 0), (44, .getfield 20, 3, 8, 9), (47, .aload_n 0, 1, 0, 0), (48, .getfield 27, 3, 8, 12), (51, .iload_n 1, 1, 0, 0), (52, .iaload, 1, 0, 0), (53, .iaload, 1, 0, 0), (54, .aload_n 0, 1, 0, 0), (55, .getfield 20, 3, 8, 9), (58, .aload_n 0, 1, 0, 0), (59, .getfield 30, 3, 8, 13), (62, .iload_n 1, 1, 0, 0), (63, .iaload, 1, 0, 0), (64, .iaload, 1, 0, 0), (65, .invokevirtual 96, 3, 104, 2), (68, .pop, 1, 0, 0), (69, .iinc 1 1, 3, 0, 0), (72, .goto (-38), 3, 34, 0), (75, .aload_n 0, 1, 0, 0), (76, .invokevirtual 102, 3, 105, 0), (79, .ireturn, 1, 0, 0)]
def zc125 : List (Nat × Instr × Nat × Nat × Nat) := [(0, .aload_n 0, 1, 0, 0), (1, .getfield 7, 3, 8, 0), (4, .bipush 7, 2, 0, 0), (6, .aload_n 0, 1, 0, 0), (7, .getfield 20, 3, 8, 9), (10, .iload_n 1, 1, 0, 0), (11, .iaload, 1, 0, 0), (12, .iadd, 1, 0, 0), (13, .iaload, 1, 0, 0), (14, .i2d, 1, 0, 0), (15, .iload_n 2, 1, 0, 0), (16, .i2d, 1, 0, 0), (17, .dmul, 1, 0, 0), (18, .iload_n 1, 1, 0, 0), (19, .aload_n 0, 1, 0, 0), (20, .getfield 7, 3, 8, 0), (23, .iconst 5, 1, 0, 0), (24, .iaload, 1, 0, 0), (25, .imul, 1, 0, 0), (26, .i2d, 1, 0, 0), (27, .dsub, 1, 0, 0), (28, .dreturn, 1, 0, 0)]
def zc126 : List (Nat × Instr × Nat × Nat × Nat) := [(0, .iload_n 1, 1, 0, 0), (1, .iconst 1, 1, 0, 0), (2, .if_icmp .lt 14, 3, 16, 0), (5, .iload_n 2, 1, 0, 0), (6, .iconst 0, 1, 0, 0), (7, .sipush 1000, 3, 0, 0), (10, .invokestatic 44, 3, 93, 3), (13, .ifCond .ne 7, 3, 20, 0), (16, .sipush (-1001), 3, 0, 0), (19, .ireturn, 1, 0, 0), (20, .aload_n 0, 1, 0, 0), (21, .invokevirtual 80, 3, 100, 0), (24, .iload_n 1, 1, 0, 0), (25, .aload_n 0, 1, 0, 0), (26, .getfield 59, 3, 8, 10), (29, .if_icmp .lt 7, 3, 36, 0), (32, .sipush (-1004), 3, 0, 0), (35, .ireturn, 1, 0, 0), (36, .aload_n 0, 1, 0, 0), (37, .iload_n 1, 1, 0, 0), (38, .iconst 1, 1, 0, 0), (39, .isub, 1, 0, 0), (40, .iload_n 2, 1, 0, 0), (41, .invokevirtual 117, 3, 125, 2), (44, .aload_n 0, 1, 0, 0), (45, .iload_n 1, 1, 0, 0), (46, .iload_n 2, 1, 0, 0), (47, .invokevirtual 117, 3, 125, 2), (50, .dsub, 1, 0, 0), (51, .d2f, 1, 0, 0), (52, .invokestatic 111, 3, 140, 1), (55, .ireturn, 1, 0, 0)]
def zc127 : List (Nat × Instr × Nat × Nat × Nat) := [(0, .aload_n 0, 1, 0, 0), (1, .iload_n 1, 1, 0, 0), (2, .invokevirtual 76, 3, 94, 1), (5, .ifCond .ne 7, 3, 12, 0), (8, .sipush (-1001), 3, 0, 0), (11, .ireturn, 1, 0, 0), (12, .aload_n 0, 1, 0, 0), (13, .invokevirtual 80, 3, 100, 0), (16, .aload_n 0, 1, 0, 0), (17, .iload_n 1, 1, 0, 0), (18, .invokevirtual 66, 3, 101, 1), (21, .istore_n 2, 1, 0, 0), (22, .aload_n 0, 1, 0, 0), (23, .getfield 7, 3, 8, 0), (26, .bipush 7, 2, 0, 0), (28, .iload_n 1, 1, 0, 0), (29, .iadd, 1, 0, 0), (30, .iaload, 1, 0, 0), (31, .istore_n 3, 1, 0, 0), (32, .sipush (-1004), 3, 0, 0), (35, .istore 4, 2, 0, 0), (37, .iconst 1, 1, 0, 0), (38, .istore 5, 2, 0, 0), (40, .iload 5, 2, 0, 0), (42, .sipush 1000, 3, 0, 0), (45, .if_icmp .gt 75, 3, 120, 0), (48, .iload 4, 2, 0, 0), (50, .sipush (-1004), 3, 0, 0), (53, .if_icmp .ne 67, 3, 120, 0), (56, .iload_n 2, 1, 0, 0), (57, .iconst (-1), 1, 0, 0), (58, .if_icmp .eq 62, 3, 120, 0), (61, .aload_n 0, 1, 0, 0), (62, .getfield 7, 3, 8, 0), (65, .bipush 7, 2, 0, 0), (67, .iload_n 1, 1, 0, 0), (68, .iadd, 1, 0, 0), (69, .iload 5, 2, 0, 0), (71, .iastore, 1, 0, 0), (72, .aload_n 0, 1, 0, 0), (73, .invokevirtual 108, 3, 122, 0), (76, .iconst 0, 1, 0, 0), (77, .istore 6, 2, 0, 0), (79, .iload 6, 2, 0, 0), (81, .aload_n 0, 1, 0, 0), (82, .getfield 105, 3, 8, 15), (85, .if_icmp .ge 29, 3, 114, 0), (88, .aload_n 0, 1, 0, 0), (89, .getfield 27, 3, 8, 12), (92, .iload 6, 2, 0, 0), (94, .iaload, 1, 0, 0), (95, .iload_n 2, 1, 0, 0), (96, .if_icmp .ne 8, 3, 104, 0), (99, .iload 5, 2, 0, 0), (101, .goto 5, 3, 106, 0), (104, .iload 4, 2, 0, 0), (106, .istore 4, 2, 0, 0), (108, .iinc 6 1, 3, 0, 0), (111, .goto (-32), 3, 79, 0), (114, .iinc 5 1, 3, 0, 0), (117, .goto (-77), 3, 40, 0), (120, .aload_n 0, 1, 0, 0), (121, .getfield 7, 3, 8, 0), (124, .bipush 7, 2, 0, 0), (126, .iload_n 1, 1, 0, 0), (127, .iadd, 1, 0, 0), (128, .iload_n 3, 1, 0, 0), (129, .iastore, 1, 0, 0), (130, .iload 4, 2, 0, 0), (132, .ireturn, 1, 0, 0)]
def zc128 : List (Nat × Instr × Nat × Nat × Nat) := [(0, .iload_n 1, 1, 0, 0), (1, .iconst 0, 1, 0, 0), (2, .aload_n 0, 1, 0, 0), (3, .getfield 7, 3, 8, 0), (6, .iconst 3, 1, 0, 0), (7, .iaload, 1, 0, 0), (8, .invokestatic 44, 3, 93, 3), (11, .ireturn, 1, 0, 0)]
def zc129 : List (Nat × Instr × Nat × Nat × Nat) := [(0, .aload_n 0, 1, 0, 0), (1, .iload_n 1, 1, 0, 0), (2, .invokevirtual 76, 3, 94, 1), (5, .ifCond .eq 29, 3, 34, 0), (8, .aload_n 0, 1, 0, 0), (9, .iload_n 2, 1, 0, 0), (10, .invokevirtual 121, 3, 128, 1), (13, .ifCond .eq 21, 3, 34, 0), (16, .aload_n 0, 1, 0, 0), (17, .getfield 7, 3, 8, 0), (20, .sipush 417, 3, 0, 0), (23, .bipush 24, 2, 0, 0), (25, .iload_n 2, 1, 0, 0), (26, .imul, 1, 0, 0), (27, .iadd, 1, 0, 0), (28, .iload_n 1, 1, 0, 0), (29, .iadd, 1, 0, 0), (30, .iaload, 1, 0, 0), (31, .goto 6, 3, 37, 0), (34, .sipush (-1001), 3, 0, 0), (37, .ireturn, 1, 0, 0)]
def zc130 : List (Nat × Instr × Nat × Nat × Nat) := [(0, .aload_n 0, 1, 0, 0), (1, .iload_n 1, 1, 0, 0), (2, .invokevirtual 76, 3, 94, 1), (5, .ifCond .eq 11, 3, 16, 0), (8, .aload_n 0, 1, 0, 0), (9, .iload_n 2, 1, 0, 0), (10, .invokevirtual 121, 3, 128, 1), (13, .ifCond .ne 7, 3, 20, 0), (16, .sipush (-1001), 3, 0, 0), (19, .ireturn, 1, 0, 0), (20, .iconst 0, 1, 0, 0), (21, .istore_n 3, 1, 0, 0), (22, .iload_n 3, 1, 0, 0), (23, .bipush 24, 2, 0, 0), (25, .if_icmp .ge 16, 3, 41, 0), (28, .aload_n 0, 1, 0, 0), (29, .getfield 37, 3, 8, 16), (32, .iload_n 3, 1, 0, 0), (33, .iload_n 3, 1, 0, 0), (34, .iastore, 1, 0, 0), (35, .iinc 3 1, 3, 0, 0), (38, .goto (-16), 3, 22, 0), (41, .iconst 0, 1, 0, 0), (42, .istore_n 3, 1, 0, 0), (43, .iload_n 3, 1, 0, 0), (44, .aload_n 0, 1, 0, 0), (45, .getfield 7, 3, 8, 0), (48, .bipush 80, 2, 0, 0), (50, .iaload, 1, 0, 0), (51, .if_icmp .ge 86, 3, 137, 0), (54, .aload_n 0, 1, 0, 0), (55, .getfield 7, 3, 8, 0), (58, .bipush 81, 2, 0, 0), (60, .iload_n 3, 1, 0, 0), (61, .iadd, 1, 0, 0), (62, .iaload, 1, 0, 0), (63, .iload_n 2, 1, 0, 0), (64, .if_icmp .ge 73, 3, 137, 0), (67, .aload_n 0, 1, 0, 0), (68, .getfield 37, 3, 8, 16), (71, .aload_n 0, 1, 0, 0), (72, .getfield 7, 3, 8, 0), (75, .sipush 193, 3, 0, 0), (78, .iload_n 3, 1, 0, 0), (79, .iadd, 1, 0, 0), (80, .iaload, 1, 0, 0), (81, .iaload, 1, 0, 0), (82, .istore 4, 2, 0, 0), (84, .aload_n 0, 1, 0, 0), (85, .getfield 37, 3, 8, 16), (88, .aload_n 0, 1, 0, 0), (89, .getfield 7, 3, 8, 0), (92, .sipush 193, 3, 0, 0), (95, .iload_n 3, 1, 0, 0), (96, .iadd, 1, 0, 0), (97, .iaload, 1, 0, 0), (98, .aload_n 0, 1, 0, 0), (99, .getfield 37, 3, 8, 16), (102, .aload_n 0, 1, 0, 0), (103, .getfield 7, 3, 8, 0), (106, .sipush 305, 3, 0, 0), (109, .iload_n 3, 1, 0, 0), (110, .iadd, 1, 0, 0), (111, .iaload, 1, 0, 0), (112, .iaload, 1, 0, 0), (113, .iastore, 1, 0, 0), (114, .aload_n 0, 1, 0, 0), (115, .getfield 37, 3, 8, 16), (118, .aload_n 0, 1, 0, 0), (119, .getfield 7, 3, 8, 0), (122, .sipush 305, 3, 0, 0), (125, .iload_n 3, 1, 0, 0), (126, .iadd, 1, 0, 0), (127, .iaload, 1, 0, 0), (128, .iload 4, 2, 0, 0), (130, .iastore, 1, 0, 0), (131, .iinc 3 1, 3, 0, 0), (134, .goto (-91), 3, 43, 0), (137, .aload_n 0, 1, 0, 0), (138, .getfield 37, 3, 8, 16), (141, .iload_n 1, 1, 0, 0), (142, .iaload, 1, 0, 0), (143, .ireturn, 1, 0, 0)]
def zc131 : List (Nat × Instr × Nat × Nat × Nat) := [(0, .aload_n 0, 1, 0, 0), (1, .getfield 7, 3, 8, 0), (4, .iconst 3, 1, 0, 0), (5, .iaload, 1, 0, 0), (6, .ifCond .ne 7, 3, 13, 0), (9, .sipush (-1004), 3, 0, 0), (12, .ireturn, 1, 0, 0), (13, .iconst (-1), 1, 0, 0), (14, .istore_n 1, 1, 0, 0), (15, .iconst 0, 1, 0, 0), (16, .istore_n 2, 1, 0, 0), (17, .iload_n 2, 1, 0, 0), (18, .aload_n 0, 1, 0, 0), (19, .getfield 7, 3, 8, 0), (22, .iconst 0, 1, 0, 0), (23, .iaload, 1, 0, 0), (24, .if_icmp .ge 109, 3, 133, 0), (27, .iload_n 2, 1, 0, 0), (28, .aload_n 0, 1, 0, 0), (29, .getfield 7, 3, 8, 0), (32, .sipush 417, 3, 0, 0), (35, .bipush 24, 2, 0, 0), (37, .aload_n 0, 1, 0, 0), (38, .getfield 7, 3, 8, 0), (41, .iconst 3, 1, 0, 0), (42, .iaload, 1, 0, 0), (43, .imul, 1, 0, 0), (44, .iadd, 1, 0, 0), (45, .iload_n 2, 1, 0, 0), (46, .iadd, 1, 0, 0), (47, .iaload, 1, 0, 0), (48, .isub, 1, 0, 0), (49, .istore_n 3, 1, 0, 0), (50, .iload_n 1, 1, 0, 0), (51, .iconst (-1), 1, 0, 0), (52, .if_icmp .ne 7, 3, 59, 0), (55, .iconst 0, 1, 0, 0), (56, .goto 25, 3, 81, 0), (59, .iload_n 1, 1, 0, 0), (60, .aload_n 0, 1, 0, 0), (61, .getfield 7, 3, 8, 0), (64, .sipush 417, 3, 0, 0), (67, .bipush 24, 2, 0, 0), (69, .aload_n 0, 1, 0, 0), (70, .getfield 7, 3, 8, 0), (73, .iconst 3, 1, 0, 0), (74, .iaload, 1, 0, 0), (75, .imul, 1, 0, 0), (76, .iadd, 1, 0, 0), (77, .iload_n 1, 1, 0, 0), (78, .iadd, 1, 0, 0), (79, .iaload, 1, 0, 0), (80, .isub, 1, 0, 0), (81, .istore 4, 2, 0, 0), (83, .iload_n 1, 1, 0, 0), (84, .iconst (-1), 1, 0, 0), (85, .if_icmp .eq 36, 3, 121, 0), (88, .iload_n 3, 1, 0, 0), (89, .iload 4, 2, 0, 0), (91, .if_icmp .gt 30, 3, 121, 0), (94, .iload_n 3, 1, 0, 0), (95, .iload 4, 2, 0, 0), (97, .if_icmp .ne 28, 3, 125, 0), (100, .aload_n 0, 1, 0, 0), (101, .getfield 7, 3, 8, 0), (104, .bipush 31, 2, 0, 0), (106, .iload_n 2, 1, 0, 0), (107, .iadd, 1, 0, 0), (108, .iaload, 1, 0, 0), (109, .aload_n 0, 1, 0, 0), (110, .getfield 7, 3, 8, 0), (113, .bipush 31, 2, 0, 0), (115, .iload_n 1, 1, 0, 0), (116, .iadd, 1, 0, 0), (117, .iaload, 1, 0, 0), (118, .if_icmp .ge 7, 3, 125, 0), (121, .iload_n 2, 1, 0, 0), (122, .goto 4, 3, 126, 0), (125, .iload_n 1, 1, 0, 0), (126, .istore_n 1, 1, 0, 0), (127, .iinc 2 1, 3, 0, 0), (130, .goto (-113), 3, 17, 0), (133, .iload_n 1, 1, 0, 0), (134, .ireturn, 1, 0, 0)]
def zc132 : List (Nat × Instr × Nat × Nat × Nat) := [(0, .iload_n 1, 1, 0, 0), (1, .bipush 32, 2, 0, 0), (3, .bipush 126, 2, 0, 0), (5, .invokestatic 44, 3, 93, 3), (8, .ifCond .ne 7, 3, 15, 0), (11, .sipush (-1001), 3, 0, 0), (14, .ireturn, 1, 0, 0), (15, .aload_n 0, 1, 0, 0), (16, .getfield 83, 3, 8, 4), (19, .bipush 80, 2, 0, 0), (21, .if_icmp .ne 7, 3, 28, 0), (24, .sipush (-1003), 3, 0, 0), (27, .ireturn, 1, 0, 0), (28, .aload_n 0, 1, 0, 0), (29, .getfield 16, 3, 8, 3), (32, .aload_n 0, 1, 0, 0), (33, .getfield 83, 3, 8, 4), (36, .iload_n 1, 1, 0, 0), (37, .i2c, 1, 0, 0), (38, .castore, 1, 0, 0), (39, .aload_n 0, 1, 0, 0), (40, .dup, 1, 0, 0), (41, .getfield 83, 3, 8, 4), (44, .iconst 1, 1, 0, 0), (45, .iadd, 1, 0, 0), (46, .putfield 83, 3, 8, 4), (49, .aload_n 0, 1, 0, 0), (50, .getfield 83, 3, 8, 4), (53, .ireturn, 1, 0, 0)]
def zc133 : List (Nat × Instr × Nat × Nat × Nat) := [(0, .aload_n 0, 1, 0, 0), (1, .getfield 83, 3, 8, 4), (4, .istore_n 1, 1, 0, 0), (5, .aload_n 0, 1, 0, 0), (6, .iconst 0, 1, 0, 0), (7, .putfield 83, 3, 8, 4), (10, .iload_n 1, 1, 0, 0), (11, .ireturn, 1, 0, 0)]
def zc134 : List (Nat × Instr × Nat × Nat × Nat) := [(0, .aload_n 0, 1, 0, 0), (1, .getfield 124, 3, 8, 5), (4, .istore_n 2, 1, 0, 0), (5, .iconst 0, 1, 0, 0), (6, .istore_n 3, 1, 0, 0), (7, .aload_n 0, 1, 0, 0), (8, .getfield 124, 3, 8, 5), (11, .aload_n 0, 1, 0, 0), (12, .getfield 83, 3, 8, 4), (15, .if_icmp .ge 63, 3, 78, 0), (18, .aload_n 0, 1, 0, 0), (19, .getfield 124, 3, 8, 5), (22, .iload_n 2, 1, 0, 0), (23, .iconst 2, 1, 0, 0), (24, .iadd, 1, 0, 0), (25, .if_icmp .ge 53, 3, 78, 0), (28, .aload_n 0, 1, 0, 0), (29, .getfield 16, 3, 8, 3), (32, .aload_n 0, 1, 0, 0), (33, .getfield 124, 3, 8, 5), (36, .caload, 1, 0, 0), (37, .bipush 48, 2, 0, 0), (39, .bipush 57, 2, 0, 0), (41, .invokestatic 44, 3, 93, 3), (44, .ifCond .eq 34, 3, 78, 0), (47, .bipush 10, 2, 0, 0), (49, .iload_n 3, 1, 0, 0), (50, .imul, 1, 0, 0), (51, .aload_n 0, 1, 0, 0), (52, .getfield 16, 3, 8, 3), (55, .aload_n 0, 1, 0, 0), (56, .getfield 124, 3, 8, 5), (59, .caload, 1, 0, 0), (60, .iadd, 1, 0, 0), (61, .bipush 48, 2, 0, 0), (63, .isub, 1, 0, 0), (64, .istore_n 3, 1, 0, 0), (65, .aload_n 0, 1, 0, 0), (66, .dup, 1, 0, 0), (67, .getfield 124, 3, 8, 5), (70, .iconst 1, 1, 0, 0), (71, .iadd, 1, 0, 0), (72, .putfield 124, 3, 8, 5), (75, .goto (-68), 3, 7, 0), (78, .aload_n 0, 1, 0, 0), (79, .getfield 124, 3, 8, 5), (82, .iload_n 2, 1, 0, 0), (83, .if_icmp .le 31, 3, 114, 0), (86, .aload_n 0, 1, 0, 0), (87, .getfield 124, 3, 8, 5), (90, .aload_n 0, 1, 0, 0), (91, .getfield 83, 3, 8, 4), (94, .if_icmp .ge 20, 3, 114, 0), (97, .aload_n 0, 1, 0, 0), (98, .getfield 16, 3, 8, 3), (101, .aload_n 0, 1, 0, 0), (102, .getfield 124, 3, 8, 5), (105, .caload, 1, 0, 0), (106, .iload_n 1, 1, 0, 0), (107, .if_icmp .ne 7, 3, 114, 0), (110, .iconst 1, 1, 0, 0), (111, .goto 4, 3, 115, 0), (114, .iconst 0, 1, 0, 0), (115, .istore 4, 2, 0, 0), (117, .aload_n 0, 1, 0, 0), (118, .dup, 1, 0, 0), (119, .getfield 124, 3, 8, 5), (122, .iconst 1, 1, 0, 0), (123, .iadd, 1, 0, 0), (124, .putfield 124, 3, 8, 5), (127, .iload 4, 2, 0, 0), (129, .ifCond .eq 7, 3, 136, 0), (132, .iload_n 3, 1, 0, 0), (133, .goto 4, 3, 137, 0), (136, .iconst (-1), 1, 0, 0), (137, .ireturn, 1, 0, 0)]
def zc135 : List (Nat × Instr × Nat × Nat × Nat) := [(0, .aload_n 0, 1, 0, 0), (1, .aload_n 0, 1, 0, 0), (2, .bipush 45, 2, 0, 0), (4, .invokevirtual 127, 3, 134, 1), (7, .putfield 131, 3, 8, 6), (10, .aload_n 0, 1, 0, 0), (11, .aload_n 0, 1, 0, 0), (12, .getfield 131, 3, 8, 6), (15, .iconst (-1), 1, 0, 0), (16, .if_icmp .ne 7, 3, 23, 0), (19, .iconst (-1), 1, 0, 0), (20, .goto 9, 3, 29, 0), (23, .aload_n 0, 1, 0, 0), (24, .bipush 59, 2, 0, 0), (26, .invokevirtual 127, 3, 134, 1), (29, .putfield 134, 3, 8, 7), (32, .aload_n 0, 1, 0, 0), (33, .aload_n 0, 1, 0, 0), (34, .getfield 134, 3, 8, 7), (37, .iconst (-1), 1, 0, 0), (38, .if_icmp .ne 7, 3, 45, 0), (41, .iconst 1, 1, 0, 0), (42, .goto 15, 3, 57, 0), (45, .aload_n 0, 1, 0, 0), (46, .aload_n 0, 1, 0, 0), (47, .getfield 131, 3, 8, 6), (50, .aload_n 0, 1, 0, 0), (51, .getfield 134, 3, 8, 7), (54, .invokevirtual 93, 3, 103, 2), (57, .putfield 137, 3, 8, 8), (60, .aload_n 0, 1, 0, 0), (61, .getfield 137, 3, 8, 8), (64, .ifCond .ne 31, 3, 95, 0), (67, .aload_n 0, 1, 0, 0), (68, .getfield 23, 3, 8, 11), (71, .aload_n 0, 1, 0, 0), (72, .aload_n 0, 1, 0, 0), (73, .getfield 131, 3, 8, 6), (76, .invokevirtual 66, 3, 101, 1), (79, .iconst 1, 1, 0, 0), (80, .bastore, 1, 0, 0), (81, .aload_n 0, 1, 0, 0), (82, .getfield 23, 3, 8, 11), (85, .aload_n 0, 1, 0, 0), (86, .aload_n 0, 1, 0, 0), (87, .getfield 134, 3, 8, 7), (90, .invokevirtual 66, 3, 101, 1), (93, .iconst 1, 1, 0, 0), (94, .bastore, 1, 0, 0), (95, .return_, 1, 0, 0)]
def zc136 : List (Nat × Instr × Nat × Nat × Nat) := [(0, .aload_n 0, 1, 0, 0), (1, .invokevirtual 80, 3, 100, 0), (4, .aload_n 0, 1, 0, 0), (5, .iconst 0, 1, 0, 0), (6, .putfield 124, 3, 8, 5), (9, .aload_n 0, 1, 0, 0), (10, .getfield 124, 3, 8, 5), (13, .aload_n 0, 1, 0, 0), (14, .getfield 83, 3, 8, 4), (17, .if_icmp .ge 24, 3, 41, 0), (20, .aload_n 0, 1, 0, 0), (21, .getfield 124, 3, 8, 5), (24, .istore_n 1, 1, 0, 0), (25, .aload_n 0, 1, 0, 0), (26, .invokevirtual 140, 3, 135, 0), (29, .aload_n 0, 1, 0, 0), (30, .getfield 137, 3, 8, 8), (33, .ifCond .le 5, 3, 38, 0), (36, .iload_n 1, 1, 0, 0), (37, .ireturn, 1, 0, 0), (38, .goto (-29), 3, 9, 0), (41, .sipush (-1004), 3, 0, 0), (44, .ireturn, 1, 0, 0)]
def zc137 : List (Nat × Instr × Nat × Nat × Nat) := [(0, .iload_n 1, 1, 0, 0), (1, .iconst 0, 1, 0, 0), (2, .iconst 1, 1, 0, 0), (3, .invokestatic 44, 3, 93, 3), (6, .ifCond .ne 7, 3, 13, 0), (9, .sipush (-1001), 3, 0, 0), (12, .ireturn, 1, 0, 0), (13, .aload_n 0, 1, 0, 0), (14, .invokevirtual 143, 3, 136, 0), (17, .istore_n 2, 1, 0, 0), (18, .iload_n 2, 1, 0, 0), (19, .sipush (-1004), 3, 0, 0), (22, .if_icmp .eq 7, 3, 29, 0), (25, .iload_n 1, 1, 0, 0), (26, .ifCond .ne 7, 3, 33, 0), (29, .iload_n 2, 1, 0, 0), (30, .goto 7, 3, 37, 0), (33, .aload_n 0, 1, 0, 0), (34, .getfield 137, 3, 8, 8), (37, .ireturn, 1, 0, 0)]
def zc138 : List (Nat × Instr × Nat × Nat × Nat) := [(0, .aload_n 0, 1, 0, 0), (1, .invokevirtual 143, 3, 136, 0), (4, .sipush (-1004), 3, 0, 0), (7, .if_icmp .eq 7, 3, 14, 0), (10, .sipush (-1002), 3, 0, 0), (13, .ireturn, 1, 0, 0), (14, .aload_n 0, 1, 0, 0), (15, .invokevirtual 73, 3, 96, 0), (18, .aload_n 0, 1, 0, 0), (19, .invokevirtual 80, 3, 100, 0), (22, .iconst 0, 1, 0, 0), (23, .istore_n 1, 1, 0, 0), (24, .aload_n 0, 1, 0, 0), (25, .iconst 0, 1, 0, 0), (26, .putfield 124, 3, 8, 5), (29, .aload_n 0, 1, 0, 0), (30, .getfield 124, 3, 8, 5), (33, .aload_n 0, 1, 0, 0), (34, .getfield 83, 3, 8, 4), (37, .if_icmp .ge 26, 3, 63, 0), (40, .aload_n 0, 1, 0, 0), (41, .invokevirtual 140, 3, 135, 0), (44, .aload_n 0, 1, 0, 0), (45, .aload_n 0, 1, 0, 0), (46, .getfield 131, 3, 8, 6), (49, .aload_n 0, 1, 0, 0), (50, .getfield 134, 3, 8, 7), (53, .invokevirtual 96, 3, 104, 2), (56, .pop, 1, 0, 0), (57, .iinc 1 1, 3, 0, 0), (60, .goto (-31), 3, 29, 0), (63, .iload_n 1, 1, 0, 0), (64, .ireturn, 1, 0, 0)]
def zc139 : List (Nat × Instr × Nat × Nat × Nat) := [(0, .fload_n 0, 1, 0, 0), (1, .fload_n 0, 1, 0, 0), (2, .fcmp .l, 1, 0, 0), (3, .ifCond .eq 7, 3, 10, 0), (6, .iconst 1, 1, 0, 0), (7, .goto 4, 3, 11, 0), (10, .iconst 0, 1, 0, 0), (11, .ireturn, 1, 0, 0)]
def zc140 : List (Nat × Instr × Nat × Nat × Nat) := [(0, .fload_n 0, 1, 0, 0), (1, .invokestatic 59, 3, 139, 1), (4, .ifCond .ne 8, 3, 12, 0), (7, .fload_n 0, 1, 0, 0), (8, .invokestatic 74, 3, 1001, 1), (11, .ireturn, 1, 0, 0), (12, .ldc 77, 2, 0, 0), (14, .ireturn, 1, 0, 0)]
def zc141 : List (Nat × Instr × Nat × Nat × Nat) := [(0, .iload_n 0, 1, 0, 0), (1, .iload_n 0, 1, 0, 0), (2, .iconst 1, 1, 0, 0), (3, .iushr, 1, 0, 0), (4, .ldc_w 265, 3, 0, 0), (7, .iand, 1, 0, 0), (8, .isub, 1, 0, 0), (9, .istore_n 0, 1, 0, 0), (10, .iload_n 0, 1, 0, 0), (11, .ldc_w 266, 3, 0, 0), (14, .iand, 1, 0, 0), (15, .iload_n 0, 1, 0, 0), (16, .iconst 2, 1, 0, 0), (17, .iushr, 1, 0, 0), (18, .ldc_w 266, 3, 0, 0), (21, .iand, 1, 0, 0), (22, .iadd, 1, 0, 0), (23, .istore_n 0, 1, 0, 0), (24, .iload_n 0, 1, 0, 0), (25, .iload_n 0, 1, 0, 0), (26, .iconst 4, 1, 0, 0), (27, .iushr, 1, 0, 0), (28, .iadd, 1, 0, 0), (29, .ldc_w 267, 3, 0, 0), (32, .iand, 1, 0, 0), (33, .istore_n 0, 1, 0, 0), (34, .iload_n 0, 1, 0, 0), (35, .iload_n 0, 1, 0, 0), (36, .bipush 8, 2, 0, 0), (38, .iushr, 1, 0, 0), (39, .iadd, 1, 0, 0), (40, .istore_n 0, 1, 0, 0), (41, .iload_n 0, 1, 0, 0), (42, .iload_n 0, 1, 0, 0), (43, .bipush 16, 2, 0, 0), (45, .iushr, 1, 0, 0), (46, .iadd, 1, 0, 0), (47, .istore_n 0, 1, 0, 0), (48, .iload_n 0, 1, 0, 0), (49, .bipush 63, 2, 0, 0), (51, .iand, 1, 0, 0), (52, .ireturn, 1, 0, 0)]
def zc142 : List (Nat × Instr × Nat × Nat × Nat) := [(0, .iload_n 0, 1, 0, 0), (1, .iload_n 1, 1, 0, 0), (2, .if_icmp .gt 7, 3, 9, 0), (5, .iload_n 0, 1, 0, 0), (6, .goto 4, 3, 10, 0), (9, .iload_n 1, 1, 0, 0), (10, .ireturn, 1, 0, 0)]
def zc143 : List (Nat × Instr × Nat × Nat × Nat) := [(0, .new 7, 3, 7, 0), (3, .dup, 1, 0, 0), (4, .invokespecial 9, 3, 65, 0), (7, .astore_n 1, 1, 0, 0), (8, .new 10, 3, 8, 0), (11, .dup, 1, 0, 0), (12, .invokespecial 12, 3, 92, 0), (15, .astore_n 2, 1, 0, 0), (16, .iconst 0, 1, 0, 0), (17, .istore_n 3, 1, 0, 0), (18, .iload_n 3, 1, 0, 0), (19, .aload_n 0, 1, 0, 0), (20, .arraylength, 1, 0, 0), (21, .iconst 4, 1, 0, 0), (22, .isub, 1, 0, 0), (23, .if_icmp .gt 739, 3, 762, 0), (26, .aload_n 0, 1, 0, 0), (27, .iload_n 3, 1, 0, 0), (28, .iaload, 1, 0, 0), (29, .bipush 31, 2, 0, 0), (31, .iand, 1, 0, 0), (32, .tableswitch 724 0 23 #[112, 155, 188, 221, 244, 277, 300, 323, 356, 389, 422, 445, 458, 471, 504, 517, 550, 573, 606, 639, 652, 675, 688, 711], 112, 0, 0), (144, .aload_n 1, 1, 0, 0), (145, .aload_n 0, 1, 0, 0), (146, .iload_n 3, 1, 0, 0), (147, .iconst 1, 1, 0, 0), (148, .iadd, 1, 0, 0), (149, .iaload, 1, 0, 0), (150, .aload_n 0, 1, 0, 0), (151, .iload_n 3, 1, 0, 0), (152, .iconst 2, 1, 0, 0), (153, .iadd, 1, 0, 0), (154, .iaload, 1, 0, 0), (155, .aload_n 0, 1, 0, 0), (156, .iload_n 3, 1, 0, 0), (157, .iconst 3, 1, 0, 0), (158, .iadd, 1, 0, 0), (159, .iaload, 1, 0, 0), (160, .invokevirtual 13, 3, 66, 3), (163, .aload_n 2, 1, 0, 0), (164, .aload_n 0, 1, 0, 0), (165, .iload_n 3, 1, 0, 0), (166, .iconst 1, 1, 0, 0), (167, .iadd, 1, 0, 0), (168, .iaload, 1, 0, 0), (169, .aload_n 0, 1, 0, 0), (170, .iload_n 3, 1, 0, 0), (171, .iconst 2, 1, 0, 0), (172, .iadd, 1, 0, 0), (173, .iaload, 1, 0, 0), (174, .aload_n 0, 1, 0, 0), (175, .iload_n 3, 1, 0, 0), (176, .iconst 3, 1, 0, 0), (177, .iadd, 1, 0, 0), (178, .iaload, 1, 0, 0), (179, .invokevirtual 17, 3, 106, 3), (182, .if_icmp .eq 574, 3, 756, 0), (185, .iconst 0, 1, 0, 0), (186, .ireturn, 1, 0, 0), (187, .aload_n 1, 1, 0, 0), (188, .aload_n 0, 1, 0, 0), (189, .iload_n 3, 1, 0, 0), (190, .iconst 1, 1, 0, 0), (191, .iadd, 1, 0, 0), (192, .iaload, 1, 0, 0), (193, .aload_n 0, 1, 0, 0), (194, .iload_n 3, 1, 0, 0), (195, .iconst 2, 1, 0, 0), (196, .iadd, 1, 0, 0), (197, .iaload, 1, 0, 0), (198, .invokevirtual 18, 3, 67, 2), (201, .aload_n 2, 1, 0, 0), (202, .aload_n 0, 1, 0, 0), (203, .iload_n 3, 1, 0, 0), (204, .iconst 1, 1, 0, 0), (205, .iadd, 1, 0, 0), (206, .iaload, 1, 0, 0), (207, .aload_n 0, 1, 0, 0), (208, .iload_n 3, 1, 0, 0), (209, .iconst 2, 1, 0, 0), (210, .iadd, 1, 0, 0), (211, .iaload, 1, 0, 0), (212, .invokevirtual 22, 3, 107, 2), (215, .if_icmp .eq 541, 3, 756, 0), (218, .iconst 0, 1, 0, 0), (219, .ireturn, 1, 0, 0), (220, .aload_n 1, 1, 0, 0), (221, .aload_n 0, 1, 0, 0), (222, .iload_n 3, 1, 0, 0), (223, .iconst 1, 1, 0, 0), (224, .iadd, 1, 0, 0), (225, .iaload, 1, 0, 0), (226, .aload_n 0, 1, 0, 0), (227, .iload_n 3, 1, 0, 0), (228, .iconst 2, 1, 0, 0), (229, .iadd, 1, 0, 0), (230, .iaload, 1, 0, 0), (231, .invokevirtual 23, 3, 68, 2), (234, .aload_n 2, 1, 0, 0), (235, .aload_n 0, 1, 0, 0), (236, .iload_n 3, 1, 0, 0), (237, .iconst 1, 1, 0, 0), (238, .iadd, 1, 0, 0), (239, .iaload, 1, 0, 0), (240, .aload_n 0, 1, 0, 0), (241, .iload_n 3, 1, 0, 0), (242, .iconst 2, 1, 0, 0), (243, .iadd, 1, 0, 0), (244, .iaload, 1, 0, 0), (245, .invokevirtual 26, 3, 108, 2), (248, .if_icmp .eq 508, 3, 756, 0), (251, .iconst 0, 1, 0, 0), (252, .ireturn, 1, 0, 0), (253, .aload_n 1, 1, 0, 0), (254, .aload_n 0, 1, 0, 0), (255, .iload_n 3, 1, 0, 0), (256, .iconst 1, 1, 0, 0), (257, .iadd, 1, 0, 0), (258, .iaload, 1, 0, 0), (259, .invokevirtual 27, 3, 69, 1), (262, .aload_n 2, 1, 0, 0), (263, .aload_n 0, 1, 0, 0), (264, .iload_n 3, 1, 0, 0), (265, .iconst 1, 1, 0, 0), (266, .iadd, 1, 0, 0), (267, .iaload, 1, 0, 0), (268, .invokevirtual 31, 3, 109, 1), (271, .if_icmp .eq 485, 3, 756, 0), (274, .iconst 0, 1, 0, 0), (275, .ireturn, 1, 0, 0), (276, .aload_n 1, 1, 0, 0), (277, .aload_n 0, 1, 0, 0), (278, .iload_n 3, 1, 0, 0), (279, .iconst 1, 1, 0, 0), (280, .iadd, 1, 0, 0), (281, .iaload, 1, 0, 0), (282, .aload_n 0, 1, 0, 0), (283, .iload_n 3, 1, 0, 0), (284, .iconst 2, 1, 0, 0), (285, .iadd, 1, 0, 0), (286, .iaload, 1, 0, 0), (287, .invokevirtual 32, 3, 70, 2), (290, .aload_n 2, 1, 0, 0), (291, .aload_n 0, 1, 0, 0), (292, .iload_n 3, 1, 0, 0), (293, .iconst 1, 1, 0, 0), (294, .iadd, 1, 0, 0), (295, .iaload, 1, 0, 0), (296, .aload_n 0, 1, 0, 0), (297, .iload_n 3, 1, 0, 0), (298, .iconst 2, 1, 0, 0), (299, .iadd, 1, 0, 0), (300, .iaload, 1, 0, 0), (301, .invokevirtual 35, 3, 112, 2), (304, .if_icmp .eq 452, 3, 756, 0), (307, .iconst 0, 1, 0, 0), (308, .ireturn, 1, 0, 0), (309, .aload_n 1, 1, 0, 0), (310, .aload_n 0, 1, 0, 0), (311, .iload_n 3, 1, 0, 0), (312, .iconst 1, 1, 0, 0), (313, .iadd, 1, 0, 0), (314, .iaload, 1, 0, 0), (315, .invokevirtual 36, 3, 72, 1), (318, .aload_n 2, 1, 0, 0), (319, .aload_n 0, 1, 0, 0), (320, .iload_n 3, 1, 0, 0), (321, .iconst 1, 1, 0, 0), (322, .iadd, 1, 0, 0), (323, .iaload, 1, 0, 0), (324, .invokevirtual 39, 3, 113, 1), (327, .if_icmp .eq 429, 3, 756, 0), (330, .iconst 0, 1, 0, 0), (331, .ireturn, 1, 0, 0), (332, .aload_n 1, 1, 0, 0), (333, .aload_n 0, 1, 0, 0), (334, .iload_n 3, 1, 0, 0), (335, .iconst 1, 1, 0, 0), (336, .iadd, 1, 0, 0), (337, .iaload, 1, 0, 0), (338, .invokevirtual 40, 3, 73, 1), (341, .aload_n 2, 1, 0, 0), (342, .aload_n 0, 1, 0, 0), (343, .iload_n 3, 1, 0, 0), (344, .iconst 1, 1, 0, 0), (345, .iadd, 1, 0, 0), (346, .iaload, 1, 0, 0), (347, .invokevirtual 43, 3, 114, 1), (350, .if_icmp .eq 406, 3, 756, 0), (353, .iconst 0, 1, 0, 0), (354, .ireturn, 1, 0, 0), (355, .aload_n 1, 1, 0, 0), (356, .aload_n 0, 1, 0, 0), (357, .iload_n 3, 1, 0, 0), (358, .iconst 1, 1, 0, 0), (359, .iadd, 1, 0, 0), (360, .iaload, 1, 0, 0), (361, .aload_n 0, 1, 0, 0), (362, .iload_n 3, 1, 0, 0), (363, .iconst 2, 1, 0, 0), (364, .iadd, 1, 0, 0), (365, .iaload, 1, 0, 0), (366, .invokevirtual 44, 3, 74, 2), (369, .aload_n 2, 1, 0, 0), (370, .aload_n 0, 1, 0, 0), (371, .iload_n 3, 1, 0, 0), (372, .iconst 1, 1, 0, 0), (373, .iadd, 1, 0, 0), (374, .iaload, 1, 0, 0), (375, .aload_n 0, 1, 0, 0), (376, .iload_n 3, 1, 0, 0), (377, .iconst 2, 1, 0, 0), (378, .iadd, 1, 0, 0), (379, .iaload, 1, 0, 0), (380, .invokevirtual 47, 3, 115, 2), (383, .if_icmp .eq 373, 3, 756, 0), (386, .iconst 0, 1, 0, 0), (387, .ireturn, 1, 0, 0), (388, .aload_n 1, 1, 0, 0), (389, .aload_n 0, 1, 0, 0), (390, .iload_n 3, 1, 0, 0), (391, .iconst 1, 1, 0, 0), (392, .iadd, 1, 0, 0), (393, .iaload, 1, 0, 0), (394, .aload_n 0, 1, 0, 0), (395, .iload_n 3, 1, 0, 0), (396, .iconst 2, 1, 0, 0), (397, .iadd, 1, 0, 0), (398, .iaload, 1, 0, 0), (399, .invokevirtual 48, 3, 75, 2), (402, .aload_n 2, 1, 0, 0), (403, .aload_n 0, 1, 0, 0), (404, .iload_n 3, 1, 0, 0), (405, .iconst 1, 1, 0, 0), (406, .iadd, 1, 0, 0), (407, .iaload, 1, 0, 0), (408, .aload_n 0, 1, 0, 0), (409, .iload_n 3, 1, 0, 0), (410, .iconst 2, 1, 0, 0), (411, .iadd, 1, 0, 0), (412, .iaload, 1, 0, 0), (413, .invokevirtual 51, 3, 116, 2), (416, .if_icmp .eq 340, 3, 756, 0), (419, .iconst 0, 1, 0, 0), (420, .ireturn, 1, 0, 0), (421, .aload_n 1, 1, 0, 0), (422, .aload_n 0, 1, 0, 0), (423, .iload_n 3, 1, 0, 0), (424, .iconst 1, 1, 0, 0), (425, .iadd, 1, 0, 0), (426, .iaload, 1, 0, 0), (427, .aload_n 0, 1, 0, 0), (428, .iload_n 3, 1, 0, 0), (429, .iconst 2, 1, 0, 0), (430, .iadd, 1, 0, 0), (431, .iaload, 1, 0, 0), (432, .invokevirtual 52, 3, 76, 2), (435, .aload_n 2, 1, 0, 0), (436, .aload_n 0, 1, 0, 0), (437, .iload_n 3, 1, 0, 0), (438, .iconst 1, 1, 0, 0), (439, .iadd, 1, 0, 0), (440, .iaload, 1, 0, 0), (441, .aload_n 0, 1, 0, 0), (442, .iload_n 3, 1, 0, 0), (443, .iconst 2, 1, 0, 0), (444, .iadd, 1, 0, 0), (445, .iaload, 1, 0, 0), (446, .invokevirtual 55, 3, 117, 2), (449, .if_icmp .eq 307, 3, 756, 0), (452, .iconst 0, 1, 0, 0), (453, .ireturn, 1, 0, 0), (454, .aload_n 1, 1, 0, 0), (455, .aload_n 0, 1, 0, 0), (456, .iload_n 3, 1, 0, 0), (457, .iconst 1, 1, 0, 0), (458, .iadd, 1, 0, 0), (459, .iaload, 1, 0, 0), (460, .invokevirtual 56, 3, 77, 1), (463, .aload_n 2, 1, 0, 0), (464, .aload_n 0, 1, 0, 0), (465, .iload_n 3, 1, 0, 0), (466, .iconst 1, 1, 0, 0), (467, .iadd, 1, 0, 0), (468, .iaload, 1, 0, 0), (469, .invokevirtual 59, 3, 119, 1), (472, .if_icmp .eq 284, 3, 756, 0), (475, .iconst 0, 1, 0, 0), (476, .ireturn, 1, 0, 0), (477, .aload_n 1, 1, 0, 0), (478, .invokevirtual 60, 3, 78, 0), (481, .aload_n 2, 1, 0, 0), (482, .invokevirtual 64, 3, 120, 0), (485, .if_icmp .eq 271, 3, 756, 0), (488, .iconst 0, 1, 0, 0), (489, .ireturn, 1, 0, 0), (490, .aload_n 1, 1, 0, 0), (491, .invokevirtual 65, 3, 79, 0), (494, .aload_n 2, 1, 0, 0), (495, .invokevirtual 68, 3, 121, 0), (498, .if_icmp .eq 258, 3, 756, 0), (501, .iconst 0, 1, 0, 0), (502, .ireturn, 1, 0, 0), (503, .aload_n 1, 1, 0, 0), (504, .aload_n 0, 1, 0, 0), (505, .iload_n 3, 1, 0, 0), (506, .iconst 1, 1, 0, 0), (507, .iadd, 1, 0, 0), (508, .iaload, 1, 0, 0), (509, .aload_n 0, 1, 0, 0), (510, .iload_n 3, 1, 0, 0), (511, .iconst 2, 1, 0, 0), (512, .iadd, 1, 0, 0), (513, .iaload, 1, 0, 0), (514, .invokevirtual 69, 3, 80, 2), (517, .aload_n 2, 1, 0, 0), (518, .aload_n 0, 1, 0, 0), (519, .iload_n 3, 1, 0, 0), (520, .iconst 1, 1, 0, 0), (521, .iadd, 1, 0, 0), (522, .iaload, 1, 0, 0), (523, .aload_n 0, 1, 0, 0), (524, .iload_n 3, 1, 0, 0), (525, .iconst 2, 1, 0, 0), (526, .iadd, 1, 0, 0), (527, .iaload, 1, 0, 0), (528, .invokevirtual 72, 3, 123, 2), (531, .if_icmp .eq 225, 3, 756, 0), (534, .iconst 0, 1, 0, 0), (535, .ireturn, 1, 0, 0), (536, .aload_n 1, 1, 0, 0), (537, .invokevirtual 73, 3, 81, 0), (540, .aload_n 2, 1, 0, 0), (541, .invokevirtual 76, 3, 124, 0), (544, .if_icmp .eq 212, 3, 756, 0), (547, .iconst 0, 1, 0, 0), (548, .ireturn, 1, 0, 0), (549, .aload_n 1, 1, 0, 0), (550, .aload_n 0, 1, 0, 0), (551, .iload_n 3, 1, 0, 0), (552, .iconst 1, 1, 0, 0), (553, .iadd, 1, 0, 0), (554, .iaload, 1, 0, 0), (555, .aload_n 0, 1, 0, 0), (556, .iload_n 3, 1, 0, 0), (557, .iconst 2, 1, 0, 0), (558, .iadd, 1, 0, 0), (559, .iaload, 1, 0, 0), (560, .invokevirtual 77, 3, 82, 2), (563, .aload_n 2, 1, 0, 0), (564, .aload_n 0, 1, 0, 0), (565, .iload_n 3, 1, 0, 0), (566, .iconst 1, 1, 0, 0), (567, .iadd, 1, 0, 0), (568, .iaload, 1, 0, 0), (569, .aload_n 0, 1, 0, 0), (570, .iload_n 3, 1, 0, 0), (571, .iconst 2, 1, 0, 0), (572, .iadd, 1, 0, 0), (573, .iaload, 1, 0, 0), (574, .invokevirtual 80, 3, 126, 2), (577, .if_icmp .eq 179, 3, 756, 0), (580, .iconst 0, 1, 0, 0), (581, .ireturn, 1, 0, 0), (582, .aload_n 1, 1, 0, 0), (583, .aload_n 0, 1, 0, 0), (584, .iload_n 3, 1, 0, 0), (585, .iconst 1, 1, 0, 0), (586, .iadd, 1, 0, 0), (587, .iaload, 1, 0, 0), (588, .invokevirtual 81, 3, 83, 1), (591, .aload_n 2, 1, 0, 0), (592, .aload_n 0, 1, 0, 0), (593, .iload_n 3, 1, 0, 0), (594, .iconst 1, 1, 0, 0), (595, .iadd, 1, 0, 0), (596, .iaload, 1, 0, 0), (597, .invokevirtual 84, 3, 127, 1), (600, .if_icmp .eq 156, 3, 756, 0), (603, .iconst 0, 1, 0, 0), (604, .ireturn, 1, 0, 0), (605, .aload_n 1, 1, 0, 0), (606, .aload_n 0, 1, 0, 0), (607, .iload_n 3, 1, 0, 0), (608, .iconst 1, 1, 0, 0), (609, .iadd, 1, 0, 0), (610, .iaload, 1, 0, 0), (611, .aload_n 0, 1, 0, 0), (612, .iload_n 3, 1, 0, 0), (613, .iconst 2, 1, 0, 0), (614, .iadd, 1, 0, 0), (615, .iaload, 1, 0, 0), (616, .invokevirtual 85, 3, 85, 2), (619, .aload_n 2, 1, 0, 0), (620, .aload_n 0, 1, 0, 0), (621, .iload_n 3, 1, 0, 0), (622, .iconst 1, 1, 0, 0), (623, .iadd, 1, 0, 0), (624, .iaload, 1, 0, 0), (625, .aload_n 0, 1, 0, 0), (626, .iload_n 3, 1, 0, 0), (627, .iconst 2, 1, 0, 0), (628, .iadd, 1, 0, 0), (629, .iaload, 1, 0, 0), (630, .invokevirtual 88, 3, 129, 2), (633, .if_icmp .eq 123, 3, 756, 0), (636, .iconst 0, 1, 0, 0), (637, .ireturn, 1, 0, 0), (638, .aload_n 1, 1, 0, 0), (639, .aload_n 0, 1, 0, 0), (640, .iload_n 3, 1, 0, 0), (641, .iconst 1, 1, 0, 0), (642, .iadd, 1, 0, 0), (643, .iaload, 1, 0, 0), (644, .aload_n 0, 1, 0, 0), (645, .iload_n 3, 1, 0, 0), (646, .iconst 2, 1, 0, 0), (647, .iadd, 1, 0, 0), (648, .iaload, 1, 0, 0), (649, .invokevirtual 89, 3, 86, 2), (652, .aload_n 2, 1, 0, 0), (653, .aload_n 0, 1, 0, 0), (654, .iload_n 3, 1, 0, 0), (655, .iconst 1, 1, 0, 0), (656, .iadd, 1, 0, 0), (657, .iaload, 1, 0, 0), (658, .aload_n 0, 1, 0, 0), (659, .iload_n 3, 1, 0, 0), (660, .iconst 2, 1, 0, 0), (661, .iadd, 1, 0, 0), (662, .iaload, 1, 0, 0), (663, .invokevirtual 92, 3, 130, 2), (666, .if_icmp .eq 90, 3, 756, 0), (669, .iconst 0, 1, 0, 0), (670, .ireturn, 1, 0, 0), (671, .aload_n 1, 1, 0, 0), (672, .invokevirtual 93, 3, 87, 0), (675, .aload_n 2, 1, 0, 0), (676, .invokevirtual 96, 3, 131, 0), (679, .if_icmp .eq 77, 3, 756, 0), (682, .iconst 0, 1, 0, 0), (683, .ireturn, 1, 0, 0), (684, .aload_n 1, 1, 0, 0), (685, .aload_n 0, 1, 0, 0), (686, .iload_n 3, 1, 0, 0), (687, .iconst 1, 1, 0, 0), (688, .iadd, 1, 0, 0), (689, .iaload, 1, 0, 0), (690, .invokevirtual 97, 3, 88, 1), (693, .aload_n 2, 1, 0, 0), (694, .aload_n 0, 1, 0, 0), (695, .iload_n 3, 1, 0, 0), (696, .iconst 1, 1, 0, 0), (697, .iadd, 1, 0, 0), (698, .iaload, 1, 0, 0), (699, .invokevirtual 100, 3, 132, 1), (702, .if_icmp .eq 54, 3, 756, 0), (705, .iconst 0, 1, 0, 0), (706, .ireturn, 1, 0, 0), (707, .aload_n 1, 1, 0, 0), (708, .invokevirtual 101, 3, 89, 0), (711, .aload_n 2, 1, 0, 0), (712, .invokevirtual 104, 3, 133, 0), (715, .if_icmp .eq 41, 3, 756, 0), (718, .iconst 0, 1, 0, 0), (719, .ireturn, 1, 0, 0), (720, .aload_n 1, 1, 0, 0), (721, .aload_n 0, 1, 0, 0), (722, .iload_n 3, 1, 0, 0), (723, .iconst 1, 1, 0, 0), (724, .iadd, 1, 0, 0), (725, .iaload, 1, 0, 0), (726, .invokevirtual 105, 3, 90, 1), (729, .aload_n 2, 1, 0, 0), (730, .aload_n 0, 1, 0, 0), (731, .iload_n 3, 1, 0, 0), (732, .iconst 1, 1, 0, 0), (733, .iadd, 1, 0, 0), (734, .iaload, 1, 0, 0), (735, .invokevirtual 108, 3, 137, 1), (738, .if_icmp .eq 18, 3, 756, 0), (741, .iconst 0, 1, 0, 0), (742, .ireturn, 1, 0, 0), (743, .aload_n 1, 1, 0, 0), (744, .invokevirtual 109, 3, 91, 0), (747, .aload_n 2, 1, 0, 0), (748, .invokevirtual 112, 3, 138, 0), (751, .if_icmp .eq 5, 3, 756, 0), (754, .iconst 0, 1, 0, 0), (755, .ireturn, 1, 0, 0), (756, .iinc 3 4, 3, 0, 0), (759, .goto (-741), 3, 18, 0), (762, .iconst 1, 1, 0, 0), (763, .ireturn, 1, 0, 0)]
def zcode (y : Nat) : List (Nat × Instr × Nat × Nat × Nat) := (bif Nat.ble y 71 then (bif Nat.ble y 35 then (bif Nat.ble y 17 then (bif Nat.ble y 8 then (bif Nat.ble y 4 then (bif Nat.ble y 2 then (bif Nat.ble y 1 then (bif Nat.ble y 0 then zc0 else zc1) else zc2) else (bif Nat.ble y 3 then zc3 else zc4)) else (bif Nat.ble y 6 then (bif Nat.ble y 5 then zc5 else zc6) else (bif Nat.ble y 7 then zc7 else zc8))) else (bif Nat.ble y 13 then (bif Nat.ble y 11 then (bif Nat.ble y 10 then (bif Nat.ble y 9 then zc9 else zc10) else zc11) else (bif Nat.ble y 12 then zc12 else zc13)) else (bif Nat.ble y 15 then (bif Nat.ble y 14 then zc14 else zc15) else (bif Nat.ble y 16 then zc16 else zc17)))) else (bif Nat.ble y 26 then (bif Nat.ble y 22 then (bif Nat.ble y 20 then (bif Nat.ble y 19 then (bif Nat.ble y 18 then zc18 else zc19) else zc20) else (bif Nat.ble y 21 then zc21 else zc22)) else (bif Nat.ble y 24 then (bif Nat.ble y 23 then zc23 else zc24) else (bif Nat.ble y 25 then zc25 else zc26))) else (bif Nat.ble y 31 then (bif Nat.ble y 29 then (bif Nat.ble y 28 then (bif Nat.ble y 27 then zc27 else zc28) else zc29) else (bif Nat.ble y 30 then zc30 else zc31)) else (bif Nat.ble y 33 then (bif Nat.ble y 32 then zc32 else zc33) else (bif Nat.ble y 34 then zc34 else zc35))))) else (bif Nat.ble y 53 then (bif Nat.ble y 44 then (bif Nat.ble y 40 then (bif Nat.ble y 38 then (bif Nat.ble y 37 then (bif Nat.ble y 36 then zc36 else zc37) else zc38) else (bif Nat.ble y 39 then zc39 else zc40)) else (bif Nat.ble y 42 then (bif Nat.ble y 41 then zc41 else zc42) else (bif Nat.ble y 43 then zc43 else zc44))) else (bif Nat.ble y 49 then (bif Nat.ble y 47 then (bif Nat.ble y 46 then (bif Nat.ble y 45 then zc45 else zc46) else zc47) else (bif Nat.ble y 48 then zc48 else zc49)) else (bif Nat.ble y 51 then (bif Nat.ble y 50 then zc50 else zc51) else (bif Nat.ble y 52 then zc52 else zc53)))) else (bif Nat.ble y 62 then (bif Nat.ble y 58 then (bif Nat.ble y 56 then (bif Nat.ble y 55 then (bif Nat.ble y 54 then zc54 else zc55) else zc56) else (bif Nat.ble y 57 then zc57 else zc58)) else (bif Nat.ble y 60 then (bif Nat.ble y 59 then zc59 else zc60) else (bif Nat.ble y 61 then zc61 else zc62))) else (bif Nat.ble y 67 then (bif Nat.ble y 65 then (bif Nat.ble y 64 then (bif Nat.ble y 63 then zc63 else zc64) else zc65) else (bif Nat.ble y 66 then zc66 else zc67)) else (bif Nat.ble y 69 then (bif Nat.ble y 68 then zc68 else zc69) else (bif Nat.ble y 70 then zc70 else zc71)))))) else (bif Nat.ble y 107 then (bif Nat.ble y 89 then (bif Nat.ble y 80 then (bif Nat.ble y 76 then (bif Nat.ble y 74 then (bif Nat.ble y 73 then (bif Nat.ble y 72 then zc72 else zc73) else zc74) else (bif Nat.ble y 75 then zc75 else zc76)) else (bif Nat.ble y 78 then (bif Nat.ble y 77 then zc77 else zc78) else (bif Nat.ble y 79 then zc79 else zc80))) else (bif Nat.ble y 85 then (bif Nat.ble y 83 then (bif Nat.ble y 82 then (bif Nat.ble y 81 then zc81 else zc82) else zc83) else (bif Nat.ble y 84 then zc84 else zc85)) else (bif Nat.ble y 87 then (bif Nat.ble y 86 then zc86 else zc87) else (bif Nat.ble y 88 then zc88 else zc89)))) else (bif Nat.ble y 98 then (bif Nat.ble y 94 then (bif Nat.ble y 92 then (bif Nat.ble y 91 then (bif Nat.ble y 90 then zc90 else zc91) else zc92) else (bif Nat.ble y 93 then zc93 else zc94)) else (bif Nat.ble y 96 then (bif Nat.ble y 95 then zc95 else zc96) else (bif Nat.ble y 97 then zc97 else zc98))) else (bif Nat.ble y 103 then (bif Nat.ble y 101 then (bif Nat.ble y 100 then (bif Nat.ble y 99 then zc99 else zc100) else zc101) else (bif Nat.ble y 102 then zc102 else zc103)) else (bif Nat.ble y 105 then (bif Nat.ble y 104 then zc104 else zc105) else (bif Nat.ble y 106 then zc106 else zc107))))) else (bif Nat.ble y 125 then (bif Nat.ble y 116 then (bif Nat.ble y 112 then (bif Nat.ble y 110 then (bif Nat.ble y 109 then (bif Nat.ble y 108 then zc108 else zc109) else zc110) else (bif Nat.ble y 111 then zc111 else zc112)) else (bif Nat.ble y 114 then (bif Nat.ble y 113 then zc113 else zc114) else (bif Nat.ble y 115 then zc115 else zc116))) else (bif Nat.ble y 121 then (bif Nat.ble y 119 then (bif Nat.ble y 118 then (bif Nat.ble y 117 then zc117 else zc118) else zc119) else (bif Nat.ble y 120 then zc120 else zc121)) else (bif Nat.ble y 123 then (bif Nat.ble y 122 then zc122 else zc123) else (bif Nat.ble y 124 then zc124 else zc125)))) else (bif Nat.ble y 134 then (bif Nat.ble y 130 then (bif Nat.ble y 128 then (bif Nat.ble y 127 then (bif Nat.ble y 126 then zc126 else zc127) else zc128) else (bif Nat.ble y 129 then zc129 else zc130)) else (bif Nat.ble y 132 then (bif Nat.ble y 131 then zc131 else zc132) else (bif Nat.ble y 133 then zc133 else zc134))) else (bif Nat.ble y 139 then (bif Nat.ble y 137 then (bif Nat.ble y 136 then (bif Nat.ble y 135 then zc135 else zc136) else zc137) else (bif Nat.ble y 138 then zc138 else zc139)) else (bif Nat.ble y 141 then (bif Nat.ble y 140 then zc140 else zc141) else (bif Nat.ble y 142 then zc142 else zc143)))))))
def zb (y : Nat) : ByteArray := (bif Nat.ble y 71 then (bif Nat.ble y 35 then (bif Nat.ble y 17 then (bif Nat.ble y 8 then (bif Nat.ble y 4 then (bif Nat.ble y 2 then (bif Nat.ble y 1 then (bif Nat.ble y 0 then cX0_init else cX0_get) else cX0_put) else (bif Nat.ble y 3 then cX0_copyFrom else cX1_init)) else (bif Nat.ble y 6 then (bif Nat.ble y 5 then cX1_startAnew else cX1_hasCrew) else (bif Nat.ble y 7 then cX1_hasDay else cX1_hasRace))) else (bif Nat.ble y 13 then (bif Nat.ble y 11 then (bif Nat.ble y 10 then (bif Nat.ble y 9 then cX1_divisions else cX1_divisionOf) else cX1_putAt) else (bif Nat.ble y 12 then cX1_starters else cX1_starterAt)) else (bif Nat.ble y 15 then (bif Nat.ble y 14 then cX1_startNumber else cX1_isStarter) else (bif Nat.ble y 16 then cX1_reasonAgainst else cX1_span)))) else (bif Nat.ble y 26 then (bif Nat.ble y 22 then (bif Nat.ble y 20 then (bif Nat.ble y 19 then (bif Nat.ble y 18 then cX1_withThoseThatNeed else cX1_neededBy) else cX1_liesWithin) else (bif Nat.ble y 21 then cX1_endRace else cX1_exchange)) else (bif Nat.ble y 24 then (bif Nat.ble y 23 then cX1_endDay else cX1_position) else (bif Nat.ble y 25 then cX1_notePlaces else cX1_placeAfter))) else (bif Nat.ble y 31 then (bif Nat.ble y 29 then (bif Nat.ble y 28 then (bif Nat.ble y 27 then cX1_daysRisen else cX1_daysFallen) else cX1_award) else (bif Nat.ble y 30 then cX1_bestRiser else cX1_copyFrom)) else (bif Nat.ble y 33 then (bif Nat.ble y 32 then cX2_init else cX2_foretell) else (bif Nat.ble y 34 then cX2_foretellWith else cX2_findNext))))) else (bif Nat.ble y 53 then (bif Nat.ble y 44 then (bif Nat.ble y 40 then (bif Nat.ble y 38 then (bif Nat.ble y 37 then (bif Nat.ble y 36 then cX2_add else cX2_timeOf) else cX2_hasUp) else (bif Nat.ble y 39 then cX3_init else cX3_keep)) else (bif Nat.ble y 42 then (bif Nat.ble y 41 then cX3_moveOldestToEnd else cX3_latest) else (bif Nat.ble y 43 then cX3_dropLatest else cX4_init))) else (bif Nat.ble y 49 then (bif Nat.ble y 47 then (bif Nat.ble y 46 then (bif Nat.ble y 45 then cX4_empty else cX4_add) else cX4_madeBy) else (bif Nat.ble y 48 then cX4_madeOn else cX4_countOf)) else (bif Nat.ble y 51 then (bif Nat.ble y 50 then cX4_follow else cX4_copyFrom) else (bif Nat.ble y 52 then cX5_init else cX5_has)))) else (bif Nat.ble y 62 then (bif Nat.ble y 58 then (bif Nat.ble y 56 then (bif Nat.ble y 55 then (bif Nat.ble y 54 then cX5_add else cX5_isOut) else cX5_takeBack) else (bif Nat.ble y 57 then cX5_copyFrom else cX6_init)) else (bif Nat.ble y 60 then (bif Nat.ble y 59 then cX6_append else cX6_check) else (bif Nat.ble y 61 then cX6_readBump else cX6_digitsAt))) else (bif Nat.ble y 67 then (bif Nat.ble y 65 then (bif Nat.ble y 64 then (bif Nat.ble y 63 then cX6_numberAt else cX6_signAt) else cX7_init) else (bif Nat.ble y 66 then cX7_begin else cX7_setSpeed)) else (bif Nat.ble y 69 then (bif Nat.ble y 68 then cX7_set else cX7_count) else (bif Nat.ble y 70 then cX7_crew else cX7_outFlag)))))) else (bif Nat.ble y 107 then (bif Nat.ble y 89 then (bif Nat.ble y 80 then (bif Nat.ble y 76 then (bif Nat.ble y 74 then (bif Nat.ble y 73 then (bif Nat.ble y 72 then cX7_at else cX7_starter) else cX7_bump) else (bif Nat.ble y 75 then cX7_why else cX7_bumped)) else (bif Nat.ble y 78 then (bif Nat.ble y 77 then cX7_rerow else cX7_finish) else (bif Nat.ble y 79 then cX7_undo else cX7_foretold))) else (bif Nat.ble y 85 then (bif Nat.ble y 83 then (bif Nat.ble y 82 then (bif Nat.ble y 81 then cX7_row else cX7_distanceBits) else cX7_speedFor) else (bif Nat.ble y 84 then cX7_floatBits else cX7_place)) else (bif Nat.ble y 87 then (bif Nat.ble y 86 then cX7_again else cX7_bestRise) else (bif Nat.ble y 88 then cX7_type else cX7_clearText)))) else (bif Nat.ble y 98 then (bif Nat.ble y 94 then (bif Nat.ble y 92 then (bif Nat.ble y 91 then (bif Nat.ble y 90 then cX7_fault else cX7_enter) else cX8_init) else (bif Nat.ble y 93 then cX8_in else cX8_isCrew)) else (bif Nat.ble y 96 then (bif Nat.ble y 95 then cX8_divisions else cX8_records) else (bif Nat.ble y 97 then cX8_charts else cX8_begins))) else (bif Nat.ble y 103 then (bif Nat.ble y 101 then (bif Nat.ble y 100 then (bif Nat.ble y 99 then cX8_crewAt else cX8_lines) else cX8_numberOf) else (bif Nat.ble y 102 then cX8_isClear else cX8_refusal)) else (bif Nat.ble y 105 then (bif Nat.ble y 104 then cX8_puts else cX8_finishes) else (bif Nat.ble y 106 then cX8_begin else cX8_setSpeed))))) else (bif Nat.ble y 125 then (bif Nat.ble y 116 then (bif Nat.ble y 112 then (bif Nat.ble y 110 then (bif Nat.ble y 109 then (bif Nat.ble y 108 then cX8_set else cX8_count) else cX8_days) else (bif Nat.ble y 111 then cX8_bumpsOf else cX8_crew)) else (bif Nat.ble y 114 then (bif Nat.ble y 113 then cX8_at else cX8_starter) else (bif Nat.ble y 115 then cX8_bump else cX8_why))) else (bif Nat.ble y 121 then (bif Nat.ble y 119 then (bif Nat.ble y 118 then (bif Nat.ble y 117 then cX8_bumped else cX8_needs) else cX8_rerow) else (bif Nat.ble y 120 then cX8_finish else cX8_undo)) else (bif Nat.ble y 123 then (bif Nat.ble y 122 then cX8_foretells else cX8_foretold) else (bif Nat.ble y 124 then cX8_row else cX8_whereIs)))) else (bif Nat.ble y 134 then (bif Nat.ble y 130 then (bif Nat.ble y 128 then (bif Nat.ble y 127 then (bif Nat.ble y 126 then cX8_distanceBits else cX8_speedFor) else cX8_isDay) else (bif Nat.ble y 129 then cX8_place else cX8_again)) else (bif Nat.ble y 132 then (bif Nat.ble y 131 then cX8_bestRise else cX8_type) else (bif Nat.ble y 133 then cX8_clearText else cX8_number))) else (bif Nat.ble y 139 then (bif Nat.ble y 137 then (bif Nat.ble y 136 then (bif Nat.ble y 135 then cX8_readsBump else cX8_faulty) else cX8_fault) else (bif Nat.ble y 138 then cX8_enter else cJxf58ca_isNaN_12338)) else (bif Nat.ble y 141 then (bif Nat.ble y 140 then cJxf58ca_floatToIntBits_5c35a else cJ6_bitCount_0f7a4) else (bif Nat.ble y 142 then cJ9_min_7cf53 else cL_law)))))))
def zname (y : Nat) : MethodName := (bif Nat.ble y 71 then (bif Nat.ble y 35 then (bif Nat.ble y 17 then (bif Nat.ble y 8 then (bif Nat.ble y 4 then (bif Nat.ble y 2 then (bif Nat.ble y 1 then (bif Nat.ble y 0 then yX0_init else yX0_get) else yX0_put) else (bif Nat.ble y 3 then yX0_copyFrom else yX1_init)) else (bif Nat.ble y 6 then (bif Nat.ble y 5 then yX1_startAnew else yX1_hasCrew) else (bif Nat.ble y 7 then yX1_hasDay else yX1_hasRace))) else (bif Nat.ble y 13 then (bif Nat.ble y 11 then (bif Nat.ble y 10 then (bif Nat.ble y 9 then yX1_divisions else yX1_divisionOf) else yX1_putAt) else (bif Nat.ble y 12 then yX1_starters else yX1_starterAt)) else (bif Nat.ble y 15 then (bif Nat.ble y 14 then yX1_startNumber else yX1_isStarter) else (bif Nat.ble y 16 then yX1_reasonAgainst else yX1_span)))) else (bif Nat.ble y 26 then (bif Nat.ble y 22 then (bif Nat.ble y 20 then (bif Nat.ble y 19 then (bif Nat.ble y 18 then yX1_withThoseThatNeed else yX1_neededBy) else yX1_liesWithin) else (bif Nat.ble y 21 then yX1_endRace else yX1_exchange)) else (bif Nat.ble y 24 then (bif Nat.ble y 23 then yX1_endDay else yX1_position) else (bif Nat.ble y 25 then yX1_notePlaces else yX1_placeAfter))) else (bif Nat.ble y 31 then (bif Nat.ble y 29 then (bif Nat.ble y 28 then (bif Nat.ble y 27 then yX1_daysRisen else yX1_daysFallen) else yX1_award) else (bif Nat.ble y 30 then yX1_bestRiser else yX1_copyFrom)) else (bif Nat.ble y 33 then (bif Nat.ble y 32 then yX2_init else yX2_foretell) else (bif Nat.ble y 34 then yX2_foretellWith else yX2_findNext))))) else (bif Nat.ble y 53 then (bif Nat.ble y 44 then (bif Nat.ble y 40 then (bif Nat.ble y 38 then (bif Nat.ble y 37 then (bif Nat.ble y 36 then yX2_add else yX2_timeOf) else yX2_hasUp) else (bif Nat.ble y 39 then yX3_init else yX3_keep)) else (bif Nat.ble y 42 then (bif Nat.ble y 41 then yX3_moveOldestToEnd else yX3_latest) else (bif Nat.ble y 43 then yX3_dropLatest else yX4_init))) else (bif Nat.ble y 49 then (bif Nat.ble y 47 then (bif Nat.ble y 46 then (bif Nat.ble y 45 then yX4_empty else yX4_add) else yX4_madeBy) else (bif Nat.ble y 48 then yX4_madeOn else yX4_countOf)) else (bif Nat.ble y 51 then (bif Nat.ble y 50 then yX4_follow else yX4_copyFrom) else (bif Nat.ble y 52 then yX5_init else yX5_has)))) else (bif Nat.ble y 62 then (bif Nat.ble y 58 then (bif Nat.ble y 56 then (bif Nat.ble y 55 then (bif Nat.ble y 54 then yX5_add else yX5_isOut) else yX5_takeBack) else (bif Nat.ble y 57 then yX5_copyFrom else yX6_init)) else (bif Nat.ble y 60 then (bif Nat.ble y 59 then yX6_append else yX6_check) else (bif Nat.ble y 61 then yX6_readBump else yX6_digitsAt))) else (bif Nat.ble y 67 then (bif Nat.ble y 65 then (bif Nat.ble y 64 then (bif Nat.ble y 63 then yX6_numberAt else yX6_signAt) else yX7_init) else (bif Nat.ble y 66 then yX7_begin else yX7_setSpeed)) else (bif Nat.ble y 69 then (bif Nat.ble y 68 then yX7_set else yX7_count) else (bif Nat.ble y 70 then yX7_crew else yX7_outFlag)))))) else (bif Nat.ble y 107 then (bif Nat.ble y 89 then (bif Nat.ble y 80 then (bif Nat.ble y 76 then (bif Nat.ble y 74 then (bif Nat.ble y 73 then (bif Nat.ble y 72 then yX7_at else yX7_starter) else yX7_bump) else (bif Nat.ble y 75 then yX7_why else yX7_bumped)) else (bif Nat.ble y 78 then (bif Nat.ble y 77 then yX7_rerow else yX7_finish) else (bif Nat.ble y 79 then yX7_undo else yX7_foretold))) else (bif Nat.ble y 85 then (bif Nat.ble y 83 then (bif Nat.ble y 82 then (bif Nat.ble y 81 then yX7_row else yX7_distanceBits) else yX7_speedFor) else (bif Nat.ble y 84 then yX7_floatBits else yX7_place)) else (bif Nat.ble y 87 then (bif Nat.ble y 86 then yX7_again else yX7_bestRise) else (bif Nat.ble y 88 then yX7_type else yX7_clearText)))) else (bif Nat.ble y 98 then (bif Nat.ble y 94 then (bif Nat.ble y 92 then (bif Nat.ble y 91 then (bif Nat.ble y 90 then yX7_fault else yX7_enter) else yX8_init) else (bif Nat.ble y 93 then yX8_in else yX8_isCrew)) else (bif Nat.ble y 96 then (bif Nat.ble y 95 then yX8_divisions else yX8_records) else (bif Nat.ble y 97 then yX8_charts else yX8_begins))) else (bif Nat.ble y 103 then (bif Nat.ble y 101 then (bif Nat.ble y 100 then (bif Nat.ble y 99 then yX8_crewAt else yX8_lines) else yX8_numberOf) else (bif Nat.ble y 102 then yX8_isClear else yX8_refusal)) else (bif Nat.ble y 105 then (bif Nat.ble y 104 then yX8_puts else yX8_finishes) else (bif Nat.ble y 106 then yX8_begin else yX8_setSpeed))))) else (bif Nat.ble y 125 then (bif Nat.ble y 116 then (bif Nat.ble y 112 then (bif Nat.ble y 110 then (bif Nat.ble y 109 then (bif Nat.ble y 108 then yX8_set else yX8_count) else yX8_days) else (bif Nat.ble y 111 then yX8_bumpsOf else yX8_crew)) else (bif Nat.ble y 114 then (bif Nat.ble y 113 then yX8_at else yX8_starter) else (bif Nat.ble y 115 then yX8_bump else yX8_why))) else (bif Nat.ble y 121 then (bif Nat.ble y 119 then (bif Nat.ble y 118 then (bif Nat.ble y 117 then yX8_bumped else yX8_needs) else yX8_rerow) else (bif Nat.ble y 120 then yX8_finish else yX8_undo)) else (bif Nat.ble y 123 then (bif Nat.ble y 122 then yX8_foretells else yX8_foretold) else (bif Nat.ble y 124 then yX8_row else yX8_whereIs)))) else (bif Nat.ble y 134 then (bif Nat.ble y 130 then (bif Nat.ble y 128 then (bif Nat.ble y 127 then (bif Nat.ble y 126 then yX8_distanceBits else yX8_speedFor) else yX8_isDay) else (bif Nat.ble y 129 then yX8_place else yX8_again)) else (bif Nat.ble y 132 then (bif Nat.ble y 131 then yX8_bestRise else yX8_type) else (bif Nat.ble y 133 then yX8_clearText else yX8_number))) else (bif Nat.ble y 139 then (bif Nat.ble y 137 then (bif Nat.ble y 136 then (bif Nat.ble y 135 then yX8_readsBump else yX8_faulty) else yX8_fault) else (bif Nat.ble y 138 then yX8_enter else yJxf58ca_isNaN_12338)) else (bif Nat.ble y 141 then (bif Nat.ble y 140 then yJxf58ca_floatToIntBits_5c35a else yJ6_bitCount_0f7a4) else (bif Nat.ble y 142 then yJ9_min_7cf53 else yL_law)))))))
def zml (y : Nat) : Nat := (bif Nat.ble y 71 then (bif Nat.ble y 35 then (bif Nat.ble y 17 then (bif Nat.ble y 8 then (bif Nat.ble y 4 then (bif Nat.ble y 2 then (bif Nat.ble y 1 then (bif Nat.ble y 0 then 2 else 2) else 3) else (bif Nat.ble y 3 then 2 else 1)) else (bif Nat.ble y 6 then (bif Nat.ble y 5 then 5 else 2) else (bif Nat.ble y 7 then 2 else 1))) else (bif Nat.ble y 13 then (bif Nat.ble y 11 then (bif Nat.ble y 10 then (bif Nat.ble y 9 then 1 else 2) else 3) else (bif Nat.ble y 12 then 1 else 2)) else (bif Nat.ble y 15 then (bif Nat.ble y 14 then 3 else 2) else (bif Nat.ble y 16 then 7 else 2)))) else (bif Nat.ble y 26 then (bif Nat.ble y 22 then (bif Nat.ble y 20 then (bif Nat.ble y 19 then (bif Nat.ble y 18 then 4 else 4) else 4) else (bif Nat.ble y 21 then 5 else 5)) else (bif Nat.ble y 24 then (bif Nat.ble y 23 then 1 else 4) else (bif Nat.ble y 25 then 2 else 3))) else (bif Nat.ble y 31 then (bif Nat.ble y 29 then (bif Nat.ble y 28 then (bif Nat.ble y 27 then 4 else 4) else 2) else (bif Nat.ble y 30 then 6 else 2)) else (bif Nat.ble y 33 then (bif Nat.ble y 32 then 1 else 2) else (bif Nat.ble y 34 then 6 else 13))))) else (bif Nat.ble y 53 then (bif Nat.ble y 44 then (bif Nat.ble y 40 then (bif Nat.ble y 38 then (bif Nat.ble y 37 then (bif Nat.ble y 36 then 5 else 2) else 3) else (bif Nat.ble y 39 then 2 else 3)) else (bif Nat.ble y 42 then (bif Nat.ble y 41 then 3 else 1) else (bif Nat.ble y 43 then 1 else 1))) else (bif Nat.ble y 49 then (bif Nat.ble y 47 then (bif Nat.ble y 46 then (bif Nat.ble y 45 then 1 else 5) else 2) else (bif Nat.ble y 48 then 2 else 5)) else (bif Nat.ble y 51 then (bif Nat.ble y 50 then 5 else 2) else (bif Nat.ble y 52 then 1 else 2)))) else (bif Nat.ble y 62 then (bif Nat.ble y 58 then (bif Nat.ble y 56 then (bif Nat.ble y 55 then (bif Nat.ble y 54 then 3 else 3) else 4) else (bif Nat.ble y 57 then 2 else 1)) else (bif Nat.ble y 60 then (bif Nat.ble y 59 then 2 else 4) else (bif Nat.ble y 61 then 4 else 3))) else (bif Nat.ble y 67 then (bif Nat.ble y 65 then (bif Nat.ble y 64 then (bif Nat.ble y 63 then 5 else 2) else 1) else (bif Nat.ble y 66 then 4 else 4)) else (bif Nat.ble y 69 then (bif Nat.ble y 68 then 4 else 2) else (bif Nat.ble y 70 then 3 else 2)))))) else (bif Nat.ble y 107 then (bif Nat.ble y 89 then (bif Nat.ble y 80 then (bif Nat.ble y 76 then (bif Nat.ble y 74 then (bif Nat.ble y 73 then (bif Nat.ble y 72 then 2 else 2) else 3) else (bif Nat.ble y 75 then 3 else 3)) else (bif Nat.ble y 78 then (bif Nat.ble y 77 then 3 else 1) else (bif Nat.ble y 79 then 2 else 3))) else (bif Nat.ble y 85 then (bif Nat.ble y 83 then (bif Nat.ble y 82 then (bif Nat.ble y 81 then 2 else 3) else 4) else (bif Nat.ble y 84 then 5 else 3)) else (bif Nat.ble y 87 then (bif Nat.ble y 86 then 3 else 1) else (bif Nat.ble y 88 then 2 else 2)))) else (bif Nat.ble y 98 then (bif Nat.ble y 94 then (bif Nat.ble y 92 then (bif Nat.ble y 91 then (bif Nat.ble y 90 then 2 else 1) else 1) else (bif Nat.ble y 93 then 3 else 2)) else (bif Nat.ble y 96 then (bif Nat.ble y 95 then 1 else 2) else (bif Nat.ble y 97 then 2 else 5))) else (bif Nat.ble y 103 then (bif Nat.ble y 101 then (bif Nat.ble y 100 then (bif Nat.ble y 99 then 3 else 4) else 3) else (bif Nat.ble y 102 then 5 else 5)) else (bif Nat.ble y 105 then (bif Nat.ble y 104 then 3 else 6) else (bif Nat.ble y 106 then 4 else 4))))) else (bif Nat.ble y 125 then (bif Nat.ble y 116 then (bif Nat.ble y 112 then (bif Nat.ble y 110 then (bif Nat.ble y 109 then (bif Nat.ble y 108 then 4 else 3) else 6) else (bif Nat.ble y 111 then 5 else 4)) else (bif Nat.ble y 114 then (bif Nat.ble y 113 then 2 else 2) else (bif Nat.ble y 115 then 3 else 3))) else (bif Nat.ble y 121 then (bif Nat.ble y 119 then (bif Nat.ble y 118 then (bif Nat.ble y 117 then 5 else 5) else 6) else (bif Nat.ble y 120 then 1 else 2)) else (bif Nat.ble y 123 then (bif Nat.ble y 122 then 11 else 3) else (bif Nat.ble y 124 then 2 else 3)))) else (bif Nat.ble y 134 then (bif Nat.ble y 130 then (bif Nat.ble y 128 then (bif Nat.ble y 127 then (bif Nat.ble y 126 then 3 else 7) else 2) else (bif Nat.ble y 129 then 3 else 5)) else (bif Nat.ble y 132 then (bif Nat.ble y 131 then 5 else 2) else (bif Nat.ble y 133 then 2 else 5))) else (bif Nat.ble y 139 then (bif Nat.ble y 137 then (bif Nat.ble y 136 then (bif Nat.ble y 135 then 1 else 2) else 3) else (bif Nat.ble y 138 then 2 else 1)) else (bif Nat.ble y 141 then (bif Nat.ble y 140 then 1 else 1) else (bif Nat.ble y 142 then 2 else 4)))))))
def zrt (y : Nat) : Option FieldType := (bif Nat.ble y 71 then (bif Nat.ble y 35 then (bif Nat.ble y 17 then (bif Nat.ble y 8 then (bif Nat.ble y 4 then (bif Nat.ble y 2 then (bif Nat.ble y 1 then (bif Nat.ble y 0 then none else (some .int)) else none) else (bif Nat.ble y 3 then none else none)) else (bif Nat.ble y 6 then (bif Nat.ble y 5 then none else (some .boolean)) else (bif Nat.ble y 7 then (some .boolean) else (some .boolean)))) else (bif Nat.ble y 13 then (bif Nat.ble y 11 then (bif Nat.ble y 10 then (bif Nat.ble y 9 then (some .int) else (some .int)) else none) else (bif Nat.ble y 12 then (some .int) else (some .int))) else (bif Nat.ble y 15 then (bif Nat.ble y 14 then (some .int) else (some .boolean)) else (bif Nat.ble y 16 then (some .int) else (some .int))))) else (bif Nat.ble y 26 then (bif Nat.ble y 22 then (bif Nat.ble y 20 then (bif Nat.ble y 19 then (bif Nat.ble y 18 then (some .int) else (some .int)) else (some .boolean)) else (bif Nat.ble y 21 then (some .int) else none)) else (bif Nat.ble y 24 then (bif Nat.ble y 23 then none else (some .double)) else (bif Nat.ble y 25 then none else (some .int)))) else (bif Nat.ble y 31 then (bif Nat.ble y 29 then (bif Nat.ble y 28 then (bif Nat.ble y 27 then (some .int) else (some .int)) else (some .int)) else (bif Nat.ble y 30 then (some .int) else none)) else (bif Nat.ble y 33 then (bif Nat.ble y 32 then none else none) else (bif Nat.ble y 34 then none else (some .boolean)))))) else (bif Nat.ble y 53 then (bif Nat.ble y 44 then (bif Nat.ble y 40 then (bif Nat.ble y 38 then (bif Nat.ble y 37 then (bif Nat.ble y 36 then none else (some .double)) else (some .boolean)) else (bif Nat.ble y 39 then none else none)) else (bif Nat.ble y 42 then (bif Nat.ble y 41 then none else (some (.object "BumpsChart$Chart"))) else (bif Nat.ble y 43 then none else none))) else (bif Nat.ble y 49 then (bif Nat.ble y 47 then (bif Nat.ble y 46 then (bif Nat.ble y 45 then none else none) else (some .int)) else (bif Nat.ble y 48 then (some .int) else (some .int))) else (bif Nat.ble y 51 then (bif Nat.ble y 50 then (some .int) else none) else (bif Nat.ble y 52 then none else (some .boolean))))) else (bif Nat.ble y 62 then (bif Nat.ble y 58 then (bif Nat.ble y 56 then (bif Nat.ble y 55 then (bif Nat.ble y 54 then none else (some .boolean)) else none) else (bif Nat.ble y 57 then none else none)) else (bif Nat.ble y 60 then (bif Nat.ble y 59 then none else none) else (bif Nat.ble y 61 then (some .boolean) else (some .int)))) else (bif Nat.ble y 67 then (bif Nat.ble y 65 then (bif Nat.ble y 64 then (bif Nat.ble y 63 then (some .int) else (some .int)) else none) else (bif Nat.ble y 66 then (some .int) else (some .int))) else (bif Nat.ble y 69 then (bif Nat.ble y 68 then (some .int) else (some .int)) else (bif Nat.ble y 70 then (some .int) else (some .int))))))) else (bif Nat.ble y 107 then (bif Nat.ble y 89 then (bif Nat.ble y 80 then (bif Nat.ble y 76 then (bif Nat.ble y 74 then (bif Nat.ble y 73 then (bif Nat.ble y 72 then (some .int) else (some .int)) else (some .int)) else (bif Nat.ble y 75 then (some .int) else (some .int))) else (bif Nat.ble y 78 then (bif Nat.ble y 77 then (some .int) else (some .int)) else (bif Nat.ble y 79 then (some .int) else (some .int)))) else (bif Nat.ble y 85 then (bif Nat.ble y 83 then (bif Nat.ble y 82 then (bif Nat.ble y 81 then (some .int) else (some .int)) else (some .int)) else (bif Nat.ble y 84 then (some .int) else (some .int))) else (bif Nat.ble y 87 then (bif Nat.ble y 86 then (some .int) else (some .int)) else (bif Nat.ble y 88 then (some .int) else (some .int))))) else (bif Nat.ble y 98 then (bif Nat.ble y 94 then (bif Nat.ble y 92 then (bif Nat.ble y 91 then (bif Nat.ble y 90 then (some .int) else (some .int)) else none) else (bif Nat.ble y 93 then (some .boolean) else (some .boolean))) else (bif Nat.ble y 96 then (bif Nat.ble y 95 then (some .int) else none) else (bif Nat.ble y 97 then none else none))) else (bif Nat.ble y 103 then (bif Nat.ble y 101 then (bif Nat.ble y 100 then (bif Nat.ble y 99 then (some .int) else none) else (some .int)) else (bif Nat.ble y 102 then (some .boolean) else (some .int))) else (bif Nat.ble y 105 then (bif Nat.ble y 104 then (some .int) else (some .int)) else (bif Nat.ble y 106 then (some .int) else (some .int)))))) else (bif Nat.ble y 125 then (bif Nat.ble y 116 then (bif Nat.ble y 112 then (bif Nat.ble y 110 then (bif Nat.ble y 109 then (bif Nat.ble y 108 then (some .int) else (some .int)) else (some .int)) else (bif Nat.ble y 111 then (some .int) else (some .int))) else (bif Nat.ble y 114 then (bif Nat.ble y 113 then (some .int) else (some .int)) else (bif Nat.ble y 115 then (some .int) else (some .int)))) else (bif Nat.ble y 121 then (bif Nat.ble y 119 then (bif Nat.ble y 118 then (bif Nat.ble y 117 then (some .int) else (some .boolean)) else (some .int)) else (bif Nat.ble y 120 then (some .int) else (some .int))) else (bif Nat.ble y 123 then (bif Nat.ble y 122 then none else (some .int)) else (bif Nat.ble y 124 then (some .int) else (some .double))))) else (bif Nat.ble y 134 then (bif Nat.ble y 130 then (bif Nat.ble y 128 then (bif Nat.ble y 127 then (bif Nat.ble y 126 then (some .int) else (some .int)) else (some .boolean)) else (bif Nat.ble y 129 then (some .int) else (some .int))) else (bif Nat.ble y 132 then (bif Nat.ble y 131 then (some .int) else (some .int)) else (bif Nat.ble y 133 then (some .int) else (some .int)))) else (bif Nat.ble y 139 then (bif Nat.ble y 137 then (bif Nat.ble y 136 then (bif Nat.ble y 135 then none else (some .int)) else (some .int)) else (bif Nat.ble y 138 then (some .int) else (some .boolean))) else (bif Nat.ble y 141 then (bif Nat.ble y 140 then (some .int) else (some .int)) else (bif Nat.ble y 142 then (some .int) else (some .boolean))))))))
def zown (y : Nat) : Nat := (bif Nat.ble y 71 then (bif Nat.ble y 35 then (bif Nat.ble y 17 then (bif Nat.ble y 8 then (bif Nat.ble y 4 then (bif Nat.ble y 2 then (bif Nat.ble y 1 then (bif Nat.ble y 0 then 0 else 0) else 0) else (bif Nat.ble y 3 then 0 else 1)) else (bif Nat.ble y 6 then (bif Nat.ble y 5 then 1 else 1) else (bif Nat.ble y 7 then 1 else 1))) else (bif Nat.ble y 13 then (bif Nat.ble y 11 then (bif Nat.ble y 10 then (bif Nat.ble y 9 then 1 else 1) else 1) else (bif Nat.ble y 12 then 1 else 1)) else (bif Nat.ble y 15 then (bif Nat.ble y 14 then 1 else 1) else (bif Nat.ble y 16 then 1 else 1)))) else (bif Nat.ble y 26 then (bif Nat.ble y 22 then (bif Nat.ble y 20 then (bif Nat.ble y 19 then (bif Nat.ble y 18 then 1 else 1) else 1) else (bif Nat.ble y 21 then 1 else 1)) else (bif Nat.ble y 24 then (bif Nat.ble y 23 then 1 else 1) else (bif Nat.ble y 25 then 1 else 1))) else (bif Nat.ble y 31 then (bif Nat.ble y 29 then (bif Nat.ble y 28 then (bif Nat.ble y 27 then 1 else 1) else 1) else (bif Nat.ble y 30 then 1 else 1)) else (bif Nat.ble y 33 then (bif Nat.ble y 32 then 2 else 2) else (bif Nat.ble y 34 then 2 else 2))))) else (bif Nat.ble y 53 then (bif Nat.ble y 44 then (bif Nat.ble y 40 then (bif Nat.ble y 38 then (bif Nat.ble y 37 then (bif Nat.ble y 36 then 2 else 2) else 2) else (bif Nat.ble y 39 then 3 else 3)) else (bif Nat.ble y 42 then (bif Nat.ble y 41 then 3 else 3) else (bif Nat.ble y 43 then 3 else 4))) else (bif Nat.ble y 49 then (bif Nat.ble y 47 then (bif Nat.ble y 46 then (bif Nat.ble y 45 then 4 else 4) else 4) else (bif Nat.ble y 48 then 4 else 4)) else (bif Nat.ble y 51 then (bif Nat.ble y 50 then 4 else 4) else (bif Nat.ble y 52 then 5 else 5)))) else (bif Nat.ble y 62 then (bif Nat.ble y 58 then (bif Nat.ble y 56 then (bif Nat.ble y 55 then (bif Nat.ble y 54 then 5 else 5) else 5) else (bif Nat.ble y 57 then 5 else 6)) else (bif Nat.ble y 60 then (bif Nat.ble y 59 then 6 else 6) else (bif Nat.ble y 61 then 6 else 6))) else (bif Nat.ble y 67 then (bif Nat.ble y 65 then (bif Nat.ble y 64 then (bif Nat.ble y 63 then 6 else 6) else 7) else (bif Nat.ble y 66 then 7 else 7)) else (bif Nat.ble y 69 then (bif Nat.ble y 68 then 7 else 7) else (bif Nat.ble y 70 then 7 else 7)))))) else (bif Nat.ble y 107 then (bif Nat.ble y 89 then (bif Nat.ble y 80 then (bif Nat.ble y 76 then (bif Nat.ble y 74 then (bif Nat.ble y 73 then (bif Nat.ble y 72 then 7 else 7) else 7) else (bif Nat.ble y 75 then 7 else 7)) else (bif Nat.ble y 78 then (bif Nat.ble y 77 then 7 else 7) else (bif Nat.ble y 79 then 7 else 7))) else (bif Nat.ble y 85 then (bif Nat.ble y 83 then (bif Nat.ble y 82 then (bif Nat.ble y 81 then 7 else 7) else 7) else (bif Nat.ble y 84 then 7 else 7)) else (bif Nat.ble y 87 then (bif Nat.ble y 86 then 7 else 7) else (bif Nat.ble y 88 then 7 else 7)))) else (bif Nat.ble y 98 then (bif Nat.ble y 94 then (bif Nat.ble y 92 then (bif Nat.ble y 91 then (bif Nat.ble y 90 then 7 else 7) else 8) else (bif Nat.ble y 93 then 8 else 8)) else (bif Nat.ble y 96 then (bif Nat.ble y 95 then 8 else 8) else (bif Nat.ble y 97 then 8 else 8))) else (bif Nat.ble y 103 then (bif Nat.ble y 101 then (bif Nat.ble y 100 then (bif Nat.ble y 99 then 8 else 8) else 8) else (bif Nat.ble y 102 then 8 else 8)) else (bif Nat.ble y 105 then (bif Nat.ble y 104 then 8 else 8) else (bif Nat.ble y 106 then 8 else 8))))) else (bif Nat.ble y 125 then (bif Nat.ble y 116 then (bif Nat.ble y 112 then (bif Nat.ble y 110 then (bif Nat.ble y 109 then (bif Nat.ble y 108 then 8 else 8) else 8) else (bif Nat.ble y 111 then 8 else 8)) else (bif Nat.ble y 114 then (bif Nat.ble y 113 then 8 else 8) else (bif Nat.ble y 115 then 8 else 8))) else (bif Nat.ble y 121 then (bif Nat.ble y 119 then (bif Nat.ble y 118 then (bif Nat.ble y 117 then 8 else 8) else 8) else (bif Nat.ble y 120 then 8 else 8)) else (bif Nat.ble y 123 then (bif Nat.ble y 122 then 8 else 8) else (bif Nat.ble y 124 then 8 else 8)))) else (bif Nat.ble y 134 then (bif Nat.ble y 130 then (bif Nat.ble y 128 then (bif Nat.ble y 127 then (bif Nat.ble y 126 then 8 else 8) else 8) else (bif Nat.ble y 129 then 8 else 8)) else (bif Nat.ble y 132 then (bif Nat.ble y 131 then 8 else 8) else (bif Nat.ble y 133 then 8 else 8))) else (bif Nat.ble y 139 then (bif Nat.ble y 137 then (bif Nat.ble y 136 then (bif Nat.ble y 135 then 8 else 8) else 8) else (bif Nat.ble y 138 then 8 else 9)) else (bif Nat.ble y 141 then (bif Nat.ble y 140 then 9 else 10) else (bif Nat.ble y 142 then 11 else 13)))))))
def zini (y : Nat) : Bool := (bif Nat.ble y 71 then (bif Nat.ble y 35 then (bif Nat.ble y 17 then (bif Nat.ble y 8 then (bif Nat.ble y 4 then (bif Nat.ble y 2 then (bif Nat.ble y 1 then (bif Nat.ble y 0 then true else false) else false) else (bif Nat.ble y 3 then false else true)) else (bif Nat.ble y 6 then (bif Nat.ble y 5 then false else false) else (bif Nat.ble y 7 then false else false))) else (bif Nat.ble y 13 then (bif Nat.ble y 11 then (bif Nat.ble y 10 then (bif Nat.ble y 9 then false else false) else false) else (bif Nat.ble y 12 then false else false)) else (bif Nat.ble y 15 then (bif Nat.ble y 14 then false else false) else (bif Nat.ble y 16 then false else false)))) else (bif Nat.ble y 26 then (bif Nat.ble y 22 then (bif Nat.ble y 20 then (bif Nat.ble y 19 then (bif Nat.ble y 18 then false else false) else false) else (bif Nat.ble y 21 then false else false)) else (bif Nat.ble y 24 then (bif Nat.ble y 23 then false else false) else (bif Nat.ble y 25 then false else false))) else (bif Nat.ble y 31 then (bif Nat.ble y 29 then (bif Nat.ble y 28 then (bif Nat.ble y 27 then false else false) else false) else (bif Nat.ble y 30 then false else false)) else (bif Nat.ble y 33 then (bif Nat.ble y 32 then true else false) else (bif Nat.ble y 34 then false else false))))) else (bif Nat.ble y 53 then (bif Nat.ble y 44 then (bif Nat.ble y 40 then (bif Nat.ble y 38 then (bif Nat.ble y 37 then (bif Nat.ble y 36 then false else false) else false) else (bif Nat.ble y 39 then true else false)) else (bif Nat.ble y 42 then (bif Nat.ble y 41 then false else false) else (bif Nat.ble y 43 then false else true))) else (bif Nat.ble y 49 then (bif Nat.ble y 47 then (bif Nat.ble y 46 then (bif Nat.ble y 45 then false else false) else false) else (bif Nat.ble y 48 then false else false)) else (bif Nat.ble y 51 then (bif Nat.ble y 50 then false else false) else (bif Nat.ble y 52 then true else false)))) else (bif Nat.ble y 62 then (bif Nat.ble y 58 then (bif Nat.ble y 56 then (bif Nat.ble y 55 then (bif Nat.ble y 54 then false else false) else false) else (bif Nat.ble y 57 then false else true)) else (bif Nat.ble y 60 then (bif Nat.ble y 59 then false else false) else (bif Nat.ble y 61 then false else false))) else (bif Nat.ble y 67 then (bif Nat.ble y 65 then (bif Nat.ble y 64 then (bif Nat.ble y 63 then false else false) else true) else (bif Nat.ble y 66 then false else false)) else (bif Nat.ble y 69 then (bif Nat.ble y 68 then false else false) else (bif Nat.ble y 70 then false else false)))))) else (bif Nat.ble y 107 then (bif Nat.ble y 89 then (bif Nat.ble y 80 then (bif Nat.ble y 76 then (bif Nat.ble y 74 then (bif Nat.ble y 73 then (bif Nat.ble y 72 then false else false) else false) else (bif Nat.ble y 75 then false else false)) else (bif Nat.ble y 78 then (bif Nat.ble y 77 then false else false) else (bif Nat.ble y 79 then false else false))) else (bif Nat.ble y 85 then (bif Nat.ble y 83 then (bif Nat.ble y 82 then (bif Nat.ble y 81 then false else false) else false) else (bif Nat.ble y 84 then false else false)) else (bif Nat.ble y 87 then (bif Nat.ble y 86 then false else false) else (bif Nat.ble y 88 then false else false)))) else (bif Nat.ble y 98 then (bif Nat.ble y 94 then (bif Nat.ble y 92 then (bif Nat.ble y 91 then (bif Nat.ble y 90 then false else false) else true) else (bif Nat.ble y 93 then false else false)) else (bif Nat.ble y 96 then (bif Nat.ble y 95 then false else false) else (bif Nat.ble y 97 then false else false))) else (bif Nat.ble y 103 then (bif Nat.ble y 101 then (bif Nat.ble y 100 then (bif Nat.ble y 99 then false else false) else false) else (bif Nat.ble y 102 then false else false)) else (bif Nat.ble y 105 then (bif Nat.ble y 104 then false else false) else (bif Nat.ble y 106 then false else false))))) else (bif Nat.ble y 125 then (bif Nat.ble y 116 then (bif Nat.ble y 112 then (bif Nat.ble y 110 then (bif Nat.ble y 109 then (bif Nat.ble y 108 then false else false) else false) else (bif Nat.ble y 111 then false else false)) else (bif Nat.ble y 114 then (bif Nat.ble y 113 then false else false) else (bif Nat.ble y 115 then false else false))) else (bif Nat.ble y 121 then (bif Nat.ble y 119 then (bif Nat.ble y 118 then (bif Nat.ble y 117 then false else false) else false) else (bif Nat.ble y 120 then false else false)) else (bif Nat.ble y 123 then (bif Nat.ble y 122 then false else false) else (bif Nat.ble y 124 then false else false)))) else (bif Nat.ble y 134 then (bif Nat.ble y 130 then (bif Nat.ble y 128 then (bif Nat.ble y 127 then (bif Nat.ble y 126 then false else false) else false) else (bif Nat.ble y 129 then false else false)) else (bif Nat.ble y 132 then (bif Nat.ble y 131 then false else false) else (bif Nat.ble y 133 then false else false))) else (bif Nat.ble y 139 then (bif Nat.ble y 137 then (bif Nat.ble y 136 then (bif Nat.ble y 135 then false else false) else false) else (bif Nat.ble y 138 then false else false)) else (bif Nat.ble y 141 then (bif Nat.ble y 140 then false else false) else (bif Nat.ble y 142 then false else false)))))))
def zrank (y : Nat) : Nat := (bif Nat.ble y 71 then (bif Nat.ble y 35 then (bif Nat.ble y 17 then (bif Nat.ble y 8 then (bif Nat.ble y 4 then (bif Nat.ble y 2 then (bif Nat.ble y 1 then (bif Nat.ble y 0 then 1 else 0) else 0) else (bif Nat.ble y 3 then 1 else 3)) else (bif Nat.ble y 6 then (bif Nat.ble y 5 then 2 else 0) else (bif Nat.ble y 7 then 0 else 0))) else (bif Nat.ble y 13 then (bif Nat.ble y 11 then (bif Nat.ble y 10 then (bif Nat.ble y 9 then 0 else 1) else 1) else (bif Nat.ble y 12 then 1 else 1)) else (bif Nat.ble y 15 then (bif Nat.ble y 14 then 2 else 3) else (bif Nat.ble y 16 then 3 else 1)))) else (bif Nat.ble y 26 then (bif Nat.ble y 22 then (bif Nat.ble y 20 then (bif Nat.ble y 19 then (bif Nat.ble y 18 then 3 else 2) else 1) else (bif Nat.ble y 21 then 3 else 2)) else (bif Nat.ble y 24 then (bif Nat.ble y 23 then 2 else 2) else (bif Nat.ble y 25 then 1 else 1))) else (bif Nat.ble y 31 then (bif Nat.ble y 29 then (bif Nat.ble y 28 then (bif Nat.ble y 27 then 2 else 2) else 3) else (bif Nat.ble y 30 then 2 else 3)) else (bif Nat.ble y 33 then (bif Nat.ble y 32 then 2 else 4) else (bif Nat.ble y 34 then 3 else 2))))) else (bif Nat.ble y 53 then (bif Nat.ble y 44 then (bif Nat.ble y 40 then (bif Nat.ble y 38 then (bif Nat.ble y 37 then (bif Nat.ble y 36 then 1 else 0) else 1) else (bif Nat.ble y 39 then 4 else 4)) else (bif Nat.ble y 42 then (bif Nat.ble y 41 then 0 else 0) else (bif Nat.ble y 43 then 0 else 2))) else (bif Nat.ble y 49 then (bif Nat.ble y 47 then (bif Nat.ble y 46 then (bif Nat.ble y 45 then 0 else 1) else 2) else (bif Nat.ble y 48 then 2 else 1)) else (bif Nat.ble y 51 then (bif Nat.ble y 50 then 1 else 2) else (bif Nat.ble y 52 then 2 else 0)))) else (bif Nat.ble y 62 then (bif Nat.ble y 58 then (bif Nat.ble y 56 then (bif Nat.ble y 55 then (bif Nat.ble y 54 then 1 else 1) else 2) else (bif Nat.ble y 57 then 2 else 3)) else (bif Nat.ble y 60 then (bif Nat.ble y 59 then 1 else 4) else (bif Nat.ble y 61 then 3 else 2))) else (bif Nat.ble y 67 then (bif Nat.ble y 65 then (bif Nat.ble y 64 then (bif Nat.ble y 63 then 2 else 1) else 5) else (bif Nat.ble y 66 then 5 else 5)) else (bif Nat.ble y 69 then (bif Nat.ble y 68 then 5 else 2) else (bif Nat.ble y 70 then 4 else 2)))))) else (bif Nat.ble y 107 then (bif Nat.ble y 89 then (bif Nat.ble y 80 then (bif Nat.ble y 76 then (bif Nat.ble y 74 then (bif Nat.ble y 73 then (bif Nat.ble y 72 then 1 else 2) else 5) else (bif Nat.ble y 75 then 4 else 2)) else (bif Nat.ble y 78 then (bif Nat.ble y 77 then 5 else 5) else (bif Nat.ble y 79 then 4 else 5))) else (bif Nat.ble y 85 then (bif Nat.ble y 83 then (bif Nat.ble y 82 then (bif Nat.ble y 81 then 5 else 3) else 4) else (bif Nat.ble y 84 then 0 else 2)) else (bif Nat.ble y 87 then (bif Nat.ble y 86 then 2 else 3) else (bif Nat.ble y 88 then 2 else 0)))) else (bif Nat.ble y 98 then (bif Nat.ble y 94 then (bif Nat.ble y 92 then (bif Nat.ble y 91 then (bif Nat.ble y 90 then 5 else 5) else 2) else (bif Nat.ble y 93 then 0 else 1)) else (bif Nat.ble y 96 then (bif Nat.ble y 95 then 0 else 0) else (bif Nat.ble y 97 then 0 else 1))) else (bif Nat.ble y 103 then (bif Nat.ble y 101 then (bif Nat.ble y 100 then (bif Nat.ble y 99 then 0 else 1) else 0) else (bif Nat.ble y 102 then 0 else 1)) else (bif Nat.ble y 105 then (bif Nat.ble y 104 then 0 else 1) else (bif Nat.ble y 106 then 2 else 2))))) else (bif Nat.ble y 125 then (bif Nat.ble y 116 then (bif Nat.ble y 112 then (bif Nat.ble y 110 then (bif Nat.ble y 109 then (bif Nat.ble y 108 then 1 else 2) else 0) else (bif Nat.ble y 111 then 0 else 2)) else (bif Nat.ble y 114 then (bif Nat.ble y 113 then 1 else 2) else (bif Nat.ble y 115 then 2 else 2))) else (bif Nat.ble y 121 then (bif Nat.ble y 119 then (bif Nat.ble y 118 then (bif Nat.ble y 117 then 1 else 1) else 2) else (bif Nat.ble y 120 then 2 else 0)) else (bif Nat.ble y 123 then (bif Nat.ble y 122 then 2 else 3) else (bif Nat.ble y 124 then 3 else 0)))) else (bif Nat.ble y 134 then (bif Nat.ble y 130 then (bif Nat.ble y 128 then (bif Nat.ble y 127 then (bif Nat.ble y 126 then 2 else 3) else 1) else (bif Nat.ble y 129 then 2 else 2)) else (bif Nat.ble y 132 then (bif Nat.ble y 131 then 0 else 1) else (bif Nat.ble y 133 then 0 else 1))) else (bif Nat.ble y 139 then (bif Nat.ble y 137 then (bif Nat.ble y 136 then (bif Nat.ble y 135 then 2 else 3) else 4) else (bif Nat.ble y 138 then 4 else 0)) else (bif Nat.ble y 141 then (bif Nat.ble y 140 then 1 else 0) else (bif Nat.ble y 142 then 0 else 6)))))))
def zneed (y : Nat) : Nat := (bif Nat.ble y 71 then (bif Nat.ble y 35 then (bif Nat.ble y 17 then (bif Nat.ble y 8 then (bif Nat.ble y 4 then (bif Nat.ble y 2 then (bif Nat.ble y 1 then (bif Nat.ble y 0 then 20 else 0) else 0) else (bif Nat.ble y 3 then 48 else 61)) else (bif Nat.ble y 6 then (bif Nat.ble y 5 then 44 else 0) else (bif Nat.ble y 7 then 0 else 0))) else (bif Nat.ble y 13 then (bif Nat.ble y 11 then (bif Nat.ble y 10 then (bif Nat.ble y 9 then 0 else 21) else 22) else (bif Nat.ble y 12 then 21 else 21)) else (bif Nat.ble y 15 then (bif Nat.ble y 14 then 41 else 63) else (bif Nat.ble y 16 then 63 else 21)))) else (bif Nat.ble y 26 then (bif Nat.ble y 22 then (bif Nat.ble y 20 then (bif Nat.ble y 19 then (bif Nat.ble y 18 then 67 else 44) else 21) else (bif Nat.ble y 21 then 68 else 44)) else (bif Nat.ble y 24 then (bif Nat.ble y 23 then 43 else 42) else (bif Nat.ble y 25 then 22 else 21))) else (bif Nat.ble y 31 then (bif Nat.ble y 29 then (bif Nat.ble y 28 then (bif Nat.ble y 27 then 43 else 43) else 66) else (bif Nat.ble y 30 then 43 else 90)) else (bif Nat.ble y 33 then (bif Nat.ble y 32 then 41 else 103) else (bif Nat.ble y 34 then 78 else 46))))) else (bif Nat.ble y 53 then (bif Nat.ble y 44 then (bif Nat.ble y 40 then (bif Nat.ble y 38 then (bif Nat.ble y 37 then (bif Nat.ble y 36 then 22 else 0) else 21) else (bif Nat.ble y 39 then 81 else 111)) else (bif Nat.ble y 42 then (bif Nat.ble y 41 then 0 else 0) else (bif Nat.ble y 43 then 0 else 41))) else (bif Nat.ble y 49 then (bif Nat.ble y 47 then (bif Nat.ble y 46 then (bif Nat.ble y 45 then 0 else 22) else 45) else (bif Nat.ble y 48 then 45 else 21)) else (bif Nat.ble y 51 then (bif Nat.ble y 50 then 21 else 69) else (bif Nat.ble y 52 then 41 else 0)))) else (bif Nat.ble y 62 then (bif Nat.ble y 58 then (bif Nat.ble y 56 then (bif Nat.ble y 55 then (bif Nat.ble y 54 then 22 else 21) else 44) else (bif Nat.ble y 57 then 69 else 61)) else (bif Nat.ble y 60 then (bif Nat.ble y 59 then 22 else 90) else (bif Nat.ble y 61 then 66 else 42))) else (bif Nat.ble y 67 then (bif Nat.ble y 65 then (bif Nat.ble y 64 then (bif Nat.ble y 63 then 42 else 21) else 102) else (bif Nat.ble y 66 then 133 else 133)) else (bif Nat.ble y 69 then (bif Nat.ble y 68 then 133 else 41) else (bif Nat.ble y 70 then 87 else 43)))))) else (bif Nat.ble y 107 then (bif Nat.ble y 89 then (bif Nat.ble y 80 then (bif Nat.ble y 76 then (bif Nat.ble y 74 then (bif Nat.ble y 73 then (bif Nat.ble y 72 then 21 else 42) else 133) else (bif Nat.ble y 75 then 89 else 42)) else (bif Nat.ble y 78 then (bif Nat.ble y 77 then 133 else 133) else (bif Nat.ble y 79 then 111 else 124))) else (bif Nat.ble y 85 then (bif Nat.ble y 83 then (bif Nat.ble y 82 then (bif Nat.ble y 81 then 133 else 65) else 103) else (bif Nat.ble y 84 then 0 else 43)) else (bif Nat.ble y 87 then (bif Nat.ble y 86 then 45 else 68) else (bif Nat.ble y 88 then 43 else 0)))) else (bif Nat.ble y 98 then (bif Nat.ble y 94 then (bif Nat.ble y 92 then (bif Nat.ble y 91 then (bif Nat.ble y 90 then 113 else 133) else 45) else (bif Nat.ble y 93 then 0 else 22)) else (bif Nat.ble y 96 then (bif Nat.ble y 95 then 0 else 0) else (bif Nat.ble y 97 then 0 else 21))) else (bif Nat.ble y 103 then (bif Nat.ble y 101 then (bif Nat.ble y 100 then (bif Nat.ble y 99 then 0 else 22) else 0) else (bif Nat.ble y 102 then 0 else 24)) else (bif Nat.ble y 105 then (bif Nat.ble y 104 then 0 else 21) else (bif Nat.ble y 106 then 45 else 43))))) else (bif Nat.ble y 125 then (bif Nat.ble y 116 then (bif Nat.ble y 112 then (bif Nat.ble y 110 then (bif Nat.ble y 109 then (bif Nat.ble y 108 then 22 else 45) else 0) else (bif Nat.ble y 111 then 0 else 45)) else (bif Nat.ble y 114 then (bif Nat.ble y 113 then 22 else 45) else (bif Nat.ble y 115 then 48 else 48))) else (bif Nat.ble y 121 then (bif Nat.ble y 119 then (bif Nat.ble y 118 then (bif Nat.ble y 117 then 22 else 22) else 46) else (bif Nat.ble y 120 then 46 else 0)) else (bif Nat.ble y 123 then (bif Nat.ble y 122 then 45 else 75) else (bif Nat.ble y 124 then 75 else 0)))) else (bif Nat.ble y 134 then (bif Nat.ble y 130 then (bif Nat.ble y 128 then (bif Nat.ble y 127 then (bif Nat.ble y 126 then 45 else 75) else 22) else (bif Nat.ble y 129 then 43 else 43)) else (bif Nat.ble y 132 then (bif Nat.ble y 131 then 0 else 22) else (bif Nat.ble y 133 then 0 else 22))) else (bif Nat.ble y 139 then (bif Nat.ble y 137 then (bif Nat.ble y 136 then (bif Nat.ble y 135 then 48 else 68) else 89) else (bif Nat.ble y 138 then 89 else 0)) else (bif Nat.ble y 141 then (bif Nat.ble y 140 then 23 else 0) else (bif Nat.ble y 142 then 0 else 156)))))))
def zlaw : Nat := 143
def zN : Nat := 144
def zR (c : Nat) : String := (bif Nat.ble c 6 then (bif Nat.ble c 3 then (bif Nat.ble c 1 then (bif Nat.ble c 0 then RX0 else RX1) else (bif Nat.ble c 2 then RX2 else RX3)) else (bif Nat.ble c 5 then (bif Nat.ble c 4 then RX4 else RX5) else RX6)) else (bif Nat.ble c 10 then (bif Nat.ble c 8 then (bif Nat.ble c 7 then RX7 else RX8) else (bif Nat.ble c 9 then RJxf58ca else RJ6)) else (bif Nat.ble c 12 then (bif Nat.ble c 11 then RJ9 else RJ10) else RL)))
def zT (c : Nat) : u_T := (bif Nat.ble c 4 then (bif Nat.ble c 2 then (bif Nat.ble c 1 then (bif Nat.ble c 0 then TX0 else TX1) else TX2) else (bif Nat.ble c 3 then TX3 else TX4)) else (bif Nat.ble c 6 then (bif Nat.ble c 5 then TX5 else TX6) else (bif Nat.ble c 7 then TX7 else TX8)))
def zty (c : Nat) : Nat → FieldType := (bif Nat.ble c 4 then (bif Nat.ble c 2 then (bif Nat.ble c 1 then (bif Nat.ble c 0 then tyX0 else tyX1) else tyX2) else (bif Nat.ble c 3 then tyX3 else tyX4)) else (bif Nat.ble c 6 then (bif Nat.ble c 5 then tyX5 else tyX6) else (bif Nat.ble c 7 then tyX7 else tyX8)))
def znf (c : Nat) : Nat := (bif Nat.ble c 4 then (bif Nat.ble c 2 then (bif Nat.ble c 1 then (bif Nat.ble c 0 then 1 else 13) else 7) else (bif Nat.ble c 3 then 2 else 5)) else (bif Nat.ble c 6 then (bif Nat.ble c 5 then 3 else 9) else (bif Nat.ble c 7 then 4 else 17)))
def zfr (c k : Nat) : Bool := (bif Nat.ble c 4 then (bif Nat.ble c 2 then (bif Nat.ble c 1 then (bif Nat.ble c 0 then (List.getD [true] k false) else (List.getD [true, true, true, true, true, false, false, false, false, false, false, false, true] k false)) else (List.getD [true, true, false, true, true, true, false] k false)) else (bif Nat.ble c 3 then (List.getD [true, false] k false) else (List.getD [true, true, true, true, false] k false))) else (bif Nat.ble c 6 then (bif Nat.ble c 5 then (List.getD [true, true, false] k false) else (List.getD [false, false, false, false, true, true, false, false, false] k false)) else (bif Nat.ble c 7 then (List.getD [true, true, true, true] k false) else (List.getD [true, true, false, true, false, false, false, false, false, true, false, true, true, true, true, false, true] k false))))
end
section
/-- field links: class, pool index, the field's class, the field, place of the word -/
def zfl : List (Nat × Nat × Nat × Nat × Nat) := [(0, 7, 0, 0, 70), (1, 14, 1, 0, 123), (1, 20, 1, 1, 126), (1, 23, 1, 2, 128), (1, 29, 1, 3, 130), (1, 36, 1, 4, 133), (1, 40, 1, 9, 143), (1, 44, 1, 10, 145), (1, 47, 1, 11, 148), (1, 50, 1, 12, 151), (1, 53, 1, 5, 135), (1, 56, 1, 6, 137), (1, 59, 1, 7, 139), (1, 62, 1, 8, 141), (1, 75, 5, 2, 90), (1, 115, 5, 0, 85), (1, 118, 5, 1, 88), (2, 14, 2, 0, 204), (2, 20, 2, 1, 206), (2, 23, 2, 3, 210), (2, 27, 2, 4, 211), (2, 30, 2, 5, 212), (2, 43, 2, 6, 213), (2, 50, 1, 0, 125), (2, 58, 2, 2, 208), (2, 61, 1, 10, 146), (2, 64, 1, 11, 149), (3, 11, 3, 0, 188), (3, 18, 3, 1, 189), (4, 14, 4, 0, 107), (4, 20, 4, 1, 108), (4, 23, 4, 2, 109), (4, 26, 4, 3, 110), (4, 29, 4, 4, 111), (5, 14, 5, 0, 83), (5, 20, 5, 1, 86), (5, 23, 5, 2, 89), (6, 12, 6, 4, 248), (6, 23, 6, 5, 250), (6, 27, 6, 0, 240), (6, 35, 1, 3, 131), (6, 44, 6, 3, 246), (6, 47, 6, 1, 242), (6, 54, 6, 6, 251), (6, 57, 6, 7, 252), (6, 67, 6, 8, 253), (6, 70, 6, 2, 244), (7, 10, 7, 0, 301), (7, 19, 7, 1, 302), (7, 26, 7, 2, 303), (7, 33, 7, 3, 304), (7, 53, 1, 0, 124), (7, 67, 1, 10, 147), (7, 71, 1, 11, 150), (7, 74, 1, 5, 136), (7, 77, 1, 6, 138), (7, 80, 1, 7, 140), (7, 83, 1, 8, 142), (7, 90, 1, 9, 144), (7, 93, 1, 3, 132), (7, 97, 5, 2, 91), (7, 105, 3, 1, 190), (7, 108, 6, 0, 241), (7, 111, 1, 2, 129), (7, 114, 1, 1, 127), (7, 138, 1, 4, 134), (7, 166, 5, 0, 84), (7, 169, 5, 1, 87), (7, 203, 2, 2, 209), (7, 206, 2, 0, 205), (7, 207, 2, 1, 207), (7, 248, 6, 1, 243), (7, 251, 6, 2, 245), (7, 254, 6, 4, 249), (7, 260, 6, 3, 247), (8, 7, 8, 0, 687), (8, 13, 8, 1, 688), (8, 16, 8, 3, 690), (8, 20, 8, 9, 696), (8, 23, 8, 11, 698), (8, 27, 8, 12, 699), (8, 30, 8, 13, 700), (8, 33, 8, 14, 701), (8, 37, 8, 16, 703), (8, 48, 8, 2, 689), (8, 59, 8, 10, 697), (8, 83, 8, 4, 691), (8, 105, 8, 15, 702), (8, 124, 8, 5, 692), (8, 131, 8, 6, 693), (8, 134, 8, 7, 694), (8, 137, 8, 8, 695)]
/-- virtual calls: class, index, method, arguments, places of link, instanceMethod, selects, initialized -/
def zvl : List (Nat × Nat × Nat × Nat × Nat × Nat × Nat × Nat) := [(1, 65, 2, 2, 277, 278, 279, 39), (1, 69, 11, 2, 281, 283, 0, 38), (1, 72, 25, 0, 285, 287, 1, 38), (1, 78, 45, 0, 293, 294, 295, 41), (1, 81, 9, 0, 297, 298, 299, 38), (1, 85, 1, 1, 289, 290, 291, 39), (1, 89, 8, 0, 381, 374, 375, 38), (1, 99, 6, 1, 399, 360, 361, 38), (1, 103, 12, 0, 400, 378, 379, 38), (1, 106, 14, 1, 395, 396, 397, 38), (1, 109, 55, 1, 462, 407, 408, 40), (1, 112, 13, 1, 463, 451, 452, 38), (1, 121, 19, 1, 493, 495, 5, 38), (1, 124, 20, 2, 497, 499, 6, 38), (1, 128, 17, 1, 520, 482, 483, 38), (1, 131, 46, 4, 521, 522, 523, 41), (1, 135, 22, 2, 526, 528, 7, 38), (1, 138, 23, 0, 530, 532, 8, 38), (1, 141, 26, 2, 415, 416, 417, 38), (1, 144, 27, 1, 427, 412, 413, 38), (1, 147, 28, 1, 428, 420, 421, 38), (1, 150, 3, 1, 334, 335, 336, 39), (1, 154, 57, 1, 344, 345, 346, 40), (1, 157, 51, 1, 349, 350, 351, 41), (2, 33, 34, 3, 552, 553, 554, 43), (2, 37, 12, 0, 556, 378, 379, 38), (2, 46, 13, 1, 557, 451, 452, 38), (2, 51, 1, 1, 558, 290, 291, 39), (2, 54, 2, 2, 559, 278, 279, 39), (2, 67, 35, 2, 560, 562, 9, 43), (2, 71, 36, 3, 564, 566, 10, 43), (3, 22, 41, 0, 322, 324, 2, 42), (3, 25, 42, 0, 326, 327, 328, 42), (3, 29, 31, 1, 330, 331, 332, 38), (4, 33, 2, 2, 525, 278, 279, 39), (4, 37, 49, 2, 433, 435, 4, 41), (4, 41, 1, 1, 437, 290, 291, 39), (4, 45, 3, 1, 353, 335, 336, 39), (5, 27, 2, 2, 468, 278, 279, 39), (5, 31, 1, 1, 410, 290, 291, 39), (5, 35, 54, 2, 505, 465, 466, 40), (5, 38, 3, 1, 348, 335, 336, 39), (6, 31, 2, 2, 631, 278, 279, 39), (6, 40, 57, 1, 644, 345, 346, 40), (6, 50, 61, 1, 645, 647, 11, 44), (6, 60, 16, 3, 662, 459, 460, 38), (6, 64, 54, 2, 663, 465, 466, 40), (6, 73, 62, 1, 649, 651, 12, 44), (6, 77, 64, 1, 653, 655, 13, 44), (6, 80, 63, 2, 658, 660, 14, 44), (6, 84, 1, 1, 657, 290, 291, 39), (7, 37, 5, 3, 273, 274, 275, 38), (7, 41, 40, 1, 318, 319, 320, 42), (7, 45, 9, 0, 354, 298, 299, 38), (7, 49, 6, 1, 359, 360, 361, 38), (7, 57, 1, 1, 363, 290, 291, 39), (7, 63, 2, 2, 364, 278, 279, 39), (7, 86, 8, 0, 373, 374, 375, 38), (7, 102, 12, 0, 377, 378, 379, 38), (7, 117, 10, 1, 387, 388, 389, 38), (7, 120, 15, 1, 391, 392, 393, 38), (7, 123, 14, 1, 401, 396, 397, 38), (7, 126, 71, 1, 402, 404, 3, 37), (7, 129, 27, 1, 411, 412, 413, 38), (7, 132, 28, 1, 419, 420, 421, 38), (7, 135, 29, 1, 423, 424, 425, 38), (7, 142, 47, 1, 429, 430, 431, 41), (7, 147, 48, 1, 438, 439, 440, 41), (7, 150, 55, 1, 406, 407, 408, 40), (7, 153, 13, 1, 450, 451, 452, 38), (7, 156, 16, 3, 458, 459, 460, 38), (7, 160, 54, 2, 464, 465, 466, 40), (7, 163, 53, 1, 477, 478, 479, 40), (7, 172, 17, 1, 481, 482, 483, 38), (7, 175, 18, 1, 489, 490, 491, 38), (7, 178, 56, 1, 501, 502, 503, 40), (7, 187, 21, 0, 516, 517, 518, 38), (7, 190, 42, 0, 538, 327, 328, 42), (7, 194, 31, 1, 539, 331, 332, 38), (7, 197, 43, 0, 540, 541, 542, 42), (7, 200, 33, 1, 548, 549, 550, 43), (7, 208, 37, 1, 568, 569, 570, 43), (7, 216, 24, 2, 585, 586, 587, 38), (7, 220, 34, 3, 593, 553, 554, 43), (7, 224, 38, 1, 594, 595, 596, 43), (7, 229, 7, 1, 602, 603, 604, 38), (7, 232, 26, 2, 606, 416, 417, 38), (7, 236, 50, 2, 611, 612, 613, 41), (7, 239, 30, 0, 619, 620, 621, 38), (7, 242, 59, 1, 627, 628, 629, 44), (7, 245, 60, 1, 640, 641, 642, 44), (7, 257, 57, 1, 668, 345, 346, 40), (8, 40, 98, 3, 675, 677, 15, 45), (8, 52, 95, 0, 679, 681, 16, 45), (8, 56, 97, 0, 683, 685, 17, 45), (8, 62, 99, 1, 772, 774, 21, 45), (8, 66, 101, 1, 776, 778, 22, 45), (8, 69, 102, 2, 808, 810, 26, 45), (8, 73, 96, 0, 748, 750, 18, 45), (8, 76, 94, 1, 756, 758, 19, 45), (8, 80, 100, 0, 768, 770, 20, 45), (8, 86, 110, 2, 784, 786, 23, 45), (8, 90, 111, 2, 788, 790, 24, 45), (8, 93, 103, 2, 804, 806, 25, 45), (8, 96, 104, 2, 812, 814, 27, 45), (8, 99, 118, 2, 828, 830, 28, 45), (8, 102, 105, 0, 836, 838, 29, 45), (8, 108, 122, 0, 848, 850, 30, 45), (8, 117, 125, 2, 870, 872, 31, 45), (8, 121, 128, 1, 882, 884, 32, 45), (8, 127, 134, 1, 914, 916, 35, 45), (8, 140, 135, 0, 910, 912, 34, 45), (8, 143, 136, 0, 906, 908, 33, 45), (13, 13, 66, 3, 314, 315, 316, 37), (13, 17, 106, 3, 741, 742, 743, 45), (13, 18, 67, 2, 355, 356, 357, 37), (13, 22, 107, 2, 752, 753, 754, 45), (13, 23, 68, 2, 365, 366, 367, 37), (13, 26, 108, 2, 760, 761, 762, 45), (13, 27, 69, 1, 369, 370, 371, 37), (13, 31, 109, 1, 764, 765, 766, 45), (13, 32, 70, 2, 383, 384, 385, 37), (13, 35, 112, 2, 780, 781, 782, 45), (13, 36, 72, 1, 442, 443, 444, 37), (13, 39, 113, 1, 792, 793, 794, 45), (13, 40, 73, 1, 446, 447, 448, 37), (13, 43, 114, 1, 796, 797, 798, 45), (13, 44, 74, 2, 454, 455, 456, 37), (13, 47, 115, 2, 800, 801, 802, 45), (13, 48, 75, 2, 469, 470, 471, 37), (13, 51, 116, 2, 816, 817, 818, 45), (13, 52, 76, 2, 473, 474, 475, 37), (13, 55, 117, 2, 820, 821, 822, 45), (13, 56, 77, 1, 485, 486, 487, 37), (13, 59, 119, 1, 824, 825, 826, 45), (13, 60, 78, 0, 512, 513, 514, 37), (13, 64, 120, 0, 832, 833, 834, 45), (13, 65, 79, 0, 534, 535, 536, 37), (13, 68, 121, 0, 840, 841, 842, 45), (13, 69, 80, 2, 544, 545, 546, 37), (13, 72, 123, 2, 844, 845, 846, 45), (13, 73, 81, 0, 577, 578, 579, 37), (13, 76, 124, 0, 862, 863, 864, 45), (13, 77, 82, 2, 581, 582, 583, 37), (13, 80, 126, 2, 866, 867, 868, 45), (13, 81, 83, 1, 589, 590, 591, 37), (13, 84, 127, 1, 874, 875, 876, 45), (13, 85, 85, 2, 598, 599, 600, 37), (13, 88, 129, 2, 878, 879, 880, 45), (13, 89, 86, 2, 607, 608, 609, 37), (13, 92, 130, 2, 886, 887, 888, 45), (13, 93, 87, 0, 615, 616, 617, 37), (13, 96, 131, 0, 890, 891, 892, 45), (13, 97, 88, 1, 623, 624, 625, 37), (13, 100, 132, 1, 894, 895, 896, 45), (13, 101, 89, 0, 632, 633, 634, 37), (13, 104, 133, 0, 898, 899, 900, 45), (13, 105, 90, 1, 636, 637, 638, 37), (13, 108, 137, 1, 902, 903, 904, 45), (13, 109, 91, 0, 664, 665, 666, 37), (13, 112, 138, 0, 918, 919, 920, 45)]
def zsl : List (Nat × Nat × Nat × Nat × Nat × Nat × Nat) := [(0, 13, 142, 2, 338, 339, 46), (1, 93, 142, 2, 382, 339, 46), (7, 182, 141, 1, 506, 507, 48), (7, 212, 84, 1, 572, 573, 37), (8, 44, 93, 3, 745, 746, 45), (8, 111, 140, 1, 852, 853, 49), (9, 59, 139, 1, 855, 856, 49)]
/-- constructors: the same class's or package's; and nest mates' private ones -/
def zil : List (Nat × Nat × Nat × Nat × Nat × Nat × Nat) := [(1, 11, 0, 1, 66, 67, 39), (2, 11, 0, 1, 203, 67, 39), (4, 11, 0, 1, 106, 67, 39), (5, 11, 0, 1, 82, 67, 39), (6, 20, 0, 1, 239, 67, 39), (7, 18, 39, 0, 181, 182, 42), (13, 9, 65, 0, 52, 53, 37), (13, 12, 92, 0, 671, 672, 45)]
def znl : List (Nat × Nat × Nat × Nat × Nat × Nat × Nat) := [(1, 28, 52, 0, 77, 78, 40), (1, 35, 44, 0, 101, 102, 41), (3, 17, 4, 0, 187, 61, 38), (6, 11, 52, 0, 237, 78, 40), (7, 9, 4, 0, 60, 61, 38), (7, 25, 32, 0, 198, 199, 43), (7, 32, 58, 0, 232, 233, 44)]
def zol : List (Nat × Nat × Nat) := [(0, 1, 69), (1, 3, 63), (2, 3, 201), (3, 3, 184), (4, 3, 104), (5, 3, 80), (6, 3, 235), (7, 1, 55), (8, 1, 674)]
def zal : List (Nat × Nat × Nat) := [(0, 19, 341)]
def zwl : List (Nat × Nat × Nat) := [(9, 74, 858)]
/-- class links: class, index, the class, places of link, instantiable, initialized -/
def zkl : List (Nat × Nat × Nat × Nat × Nat × Nat) := [(1, 9, 0, 64, 65, 39), (1, 26, 5, 75, 76, 40), (1, 33, 4, 99, 100, 41), (2, 9, 0, 202, 65, 39), (3, 9, 1, 185, 59, 38), (4, 9, 0, 105, 65, 39), (5, 9, 0, 81, 65, 39), (6, 9, 5, 236, 76, 40), (6, 18, 0, 238, 65, 39), (7, 7, 1, 58, 59, 38), (7, 16, 3, 179, 180, 42), (7, 23, 2, 196, 197, 43), (7, 30, 6, 230, 231, 44), (13, 7, 7, 50, 51, 37), (13, 10, 8, 669, 670, 45)]
def zkl_int : List (Nat × Nat × Int × Nat) := [(7, 228, (-2147483648), 576), (9, 77, (2143289344), 861), (10, 265, (1431655765), 509), (10, 266, (858993459), 510), (10, 267, (252645135), 511)]
def zkl_flt : List (Nat × Nat × UInt32 × Nat) := [(7, 227, 1258291200, 575)]
theorem zlay0 : u_ws RX0 TX0 1 = [71].filterMap (fun i => lw_tbl[i]?) := by decide +kernel
theorem zlay1 : u_ws RX1 TX1 13 = [152, 154, 156, 158, 160, 162, 164, 166, 168, 170, 172, 174, 176].filterMap (fun i => lw_tbl[i]?) := by decide +kernel
theorem zlay2 : u_ws RX2 TX2 7 = [214, 216, 218, 220, 222, 224, 226].filterMap (fun i => lw_tbl[i]?) := by decide +kernel
theorem zlay3 : u_ws RX3 TX3 2 = [191, 193].filterMap (fun i => lw_tbl[i]?) := by decide +kernel
theorem zlay4 : u_ws RX4 TX4 5 = [112, 114, 116, 118, 120].filterMap (fun i => lw_tbl[i]?) := by decide +kernel
theorem zlay5 : u_ws RX5 TX5 3 = [92, 94, 96].filterMap (fun i => lw_tbl[i]?) := by decide +kernel
theorem zlay6 : u_ws RX6 TX6 9 = [254, 256, 258, 260, 262, 264, 266, 268, 270].filterMap (fun i => lw_tbl[i]?) := by decide +kernel
theorem zlay7 : u_ws RX7 TX7 4 = [305, 307, 309, 311].filterMap (fun i => lw_tbl[i]?) := by decide +kernel
theorem zlay8 : u_ws RX8 TX8 17 = [704, 706, 708, 710, 712, 714, 716, 718, 720, 722, 724, 726, 728, 730, 732, 734, 736].filterMap (fun i => lw_tbl[i]?) := by decide +kernel
def zcp : List Nat := [68, 292, 280, 337, 62, 276, 362, 605, 376, 300, 390, 284, 380, 453, 398, 394, 461, 484, 492, 496, 500, 519, 529, 533, 588, 288, 418, 414, 422, 426, 622, 333, 200, 551, 555, 563, 567, 571, 597, 183, 321, 325, 329, 543, 103, 296, 524, 432, 441, 436, 614, 352, 79, 480, 467, 409, 504, 347, 234, 630, 643, 648, 652, 661, 656, 54, 317, 358, 368, 372, 386, 405, 445, 449, 457, 472, 476, 488, 515, 537, 547, 580, 584, 592, 574, 601, 610, 618, 626, 635, 639, 667, 673, 747, 759, 682, 751, 686, 678, 775, 771, 779, 811, 807, 815, 839, 744, 755, 763, 767, 787, 791, 783, 795, 799, 803, 819, 823, 831, 827, 835, 843, 851, 847, 865, 873, 869, 877, 885, 881, 889, 893, 897, 901, 917, 913, 909, 905, 921, 857, 854, 508, 340]
theorem zvl_ok : zvl.all (fun q => decide (lw_tbl[q.2.2.2.2.1]? = some (.methodLink (zR q.1) q.2.1 (zname q.2.2.1))) && decide (lw_tbl[q.2.2.2.2.2.1]? = some (.instanceMethod (zname q.2.2.1))) && decide (lw_tbl[q.2.2.2.2.2.2.1]? = some (.selects (zname q.2.2.1).cls (zname q.2.2.1) (zname q.2.2.1))) && decide (lw_tbl[q.2.2.2.2.2.2.2]? = some (.initialized (zname q.2.2.1).cls)) && decide ((zname q.2.2.1).cls ≠ "java/lang/invoke/MethodHandle" ∧ (zname q.2.2.1).cls ≠ "java/lang/invoke/VarHandle" ∧ (parseMethodDescriptor (zname q.2.2.1).desc).map (fun d => d.parameters.length) = some q.2.2.2.1)) = true := by decide +kernel
theorem zsl_ok : zsl.all (fun q => decide (lw_tbl[q.2.2.2.2.1]? = some (.methodLink (zR q.1) q.2.1 (zname q.2.2.1))) && decide (lw_tbl[q.2.2.2.2.2.1]? = some (.static (zname q.2.2.1))) && decide (lw_tbl[q.2.2.2.2.2.2]? = some (.initialized (zname q.2.2.1).cls)) && decide ((zname q.2.2.1).cls ≠ "java/lang/invoke/MethodHandle" ∧ (zname q.2.2.1).cls ≠ "java/lang/invoke/VarHandle" ∧ (parseMethodDescriptor (zname q.2.2.1).desc).map (fun d => d.parameters.length) = some q.2.2.2.1)) = true := by decide +kernel
theorem zil_ok : zil.all (fun q => decide (lw_tbl[q.2.2.2.2.1]? = some (.methodLink (zR q.1) q.2.1 (zname q.2.2.1))) && decide (lw_tbl[q.2.2.2.2.2.1]? = some (.instanceMethod (zname q.2.2.1))) && decide (lw_tbl[q.2.2.2.2.2.2]? = some (.initialized (zname q.2.2.1).cls)) && decide ((zname q.2.2.1).name = "<init>") && decide (zrt q.2.2.1 = none) && decide ((zname q.2.2.1).cls ≠ "java/lang/invoke/MethodHandle" ∧ (zname q.2.2.1).cls ≠ "java/lang/invoke/VarHandle" ∧ (parseMethodDescriptor (zname q.2.2.1).desc).map (fun d => d.parameters.length) = some q.2.2.2.1)) = true := by decide +kernel
theorem znl_ok : znl.all (fun q => decide (lw_tbl[q.2.2.2.2.1]? = some (.methodLinkNest (zR q.1) q.2.1 (zname q.2.2.1) "BumpsChart")) && decide (lw_tbl[q.2.2.2.2.2.1]? = some (.instanceMethod (zname q.2.2.1))) && decide (lw_tbl[q.2.2.2.2.2.2]? = some (.initialized (zname q.2.2.1).cls)) && decide ((zname q.2.2.1).name = "<init>") && decide (zrt q.2.2.1 = none) && decide ((zname q.2.2.1).cls ≠ "java/lang/invoke/MethodHandle" ∧ (zname q.2.2.1).cls ≠ "java/lang/invoke/VarHandle" ∧ (parseMethodDescriptor (zname q.2.2.1).desc).map (fun d => d.parameters.length) = some q.2.2.2.1)) = true := by decide +kernel
theorem zfl_ok : zfl.all (fun q => decide (lw_tbl[q.2.2.2.2]? = some (.fieldLink (zR q.1) q.2.1 (zT q.2.2.1 q.2.2.2.1).1 (zT q.2.2.1 q.2.2.2.1).2.1 (zT q.2.2.1 q.2.2.2.1).2.2.1)) && decide (q.2.2.1 < 9) && decide (q.2.2.2.1 < znf q.2.2.1)) = true := by decide +kernel
theorem zkl_ok : zkl.all (fun q => decide (lw_tbl[q.2.2.2.1]? = some (.classLink (zR q.1) q.2.1 (zR q.2.2.1))) && decide (lw_tbl[q.2.2.2.2.1]? = some (.instantiable (zR q.2.2.1) (znf q.2.2.1))) && decide (lw_tbl[q.2.2.2.2.2]? = some (.initialized (zR q.2.2.1))) && decide (q.2.2.1 < 9)) = true := by decide +kernel
theorem zki_ok : zkl_int.all (fun q => decide (lw_tbl[q.2.2.2]? = some (.constant (zR q.1) q.2.1 (Int32.ofInt q.2.2.1))) && decide (-2147483648 ≤ q.2.2.1 ∧ q.2.2.1 ≤ 2147483647)) = true := by decide +kernel
theorem zkf_ok : zkl_flt.all (fun q => decide (lw_tbl[q.2.2.2]? = some (.constantFloat (zR q.1) q.2.1 q.2.2.1))) = true := by decide +kernel
theorem zol_ok : zol.all (fun q => decide (lw_tbl[q.2.2]? = some (.methodLink (zR q.1) q.2.1 objectInit))) = true := by decide +kernel
theorem zal_ok : zal.all (fun q => decide (lw_tbl[q.2.2]? = some (.methodLink (zR q.1) q.2.1 arraycopyName))) = true := by decide +kernel
theorem zwl_ok : zwl.all (fun q => decide (lw_tbl[q.2.2]? = some (.methodLink (zR q.1) q.2.1 ⟨"java/lang/Float", "floatToRawIntBits", "(F)I"⟩))) = true := by decide +kernel
theorem zs_oi : lw_tbl[56]? = some (.instanceMethod objectInit) := by decide +kernel
set_option maxRecDepth 20000 in
theorem zs_oc : Cond.code objectInit ⟨#[0xb1]⟩ 1 none ∈ lw_tbl := List.mem_of_getElem? (i := 57) rfl
theorem zs_arrInt : lw_tbl[74]? = some (.arrayClass .int) := by decide +kernel
theorem zs_arrChar : lw_tbl[739]? = some (.arrayClass .char) := by decide +kernel
theorem zs_arrBool : lw_tbl[740]? = some (.arrayClass .boolean) := by decide +kernel
theorem zs_arrDouble : lw_tbl[229]? = some (.arrayClass .double) := by decide +kernel
theorem zs_over : lw_tbl[186]? = some (.arrayOver (.object "BumpsChart$Chart")) := by decide +kernel
theorem zs_cs : lw_tbl[342]? = some (.static arraycopyName) := by decide +kernel
theorem zs_cn : lw_tbl[343]? = some (.native arraycopyName) := by decide +kernel
theorem zs_si : lw_tbl[47]? = some (.initialized "java/lang/System") := by decide +kernel
theorem zs_rs : lw_tbl[859]? = some (.static ⟨"java/lang/Float", "floatToRawIntBits", "(F)I"⟩) := by decide +kernel
theorem zs_rn : lw_tbl[860]? = some (.native ⟨"java/lang/Float", "floatToRawIntBits", "(F)I"⟩) := by decide +kernel
theorem zs_fi : lw_tbl[49]? = some (.initialized "java/lang/Float") := by decide +kernel
set_option maxRecDepth 20000 in
theorem zcw0 : Cond.code yX0_init cX0_init 2 none ∈ lw_tbl := List.mem_of_getElem? (i := 68) rfl
set_option maxRecDepth 20000 in
theorem zcw1 : Cond.code yX0_get cX0_get 2 (some .int) ∈ lw_tbl := List.mem_of_getElem? (i := 292) rfl
set_option maxRecDepth 20000 in
theorem zcw2 : Cond.code yX0_put cX0_put 3 none ∈ lw_tbl := List.mem_of_getElem? (i := 280) rfl
set_option maxRecDepth 20000 in
theorem zcw3 : Cond.code yX0_copyFrom cX0_copyFrom 2 none ∈ lw_tbl := List.mem_of_getElem? (i := 337) rfl
set_option maxRecDepth 20000 in
theorem zcw4 : Cond.code yX1_init cX1_init 1 none ∈ lw_tbl := List.mem_of_getElem? (i := 62) rfl
set_option maxRecDepth 20000 in
theorem zcw5 : Cond.code yX1_startAnew cX1_startAnew 5 none ∈ lw_tbl := List.mem_of_getElem? (i := 276) rfl
set_option maxRecDepth 20000 in
theorem zcw6 : Cond.code yX1_hasCrew cX1_hasCrew 2 (some .boolean) ∈ lw_tbl := List.mem_of_getElem? (i := 362) rfl
set_option maxRecDepth 20000 in
theorem zcw7 : Cond.code yX1_hasDay cX1_hasDay 2 (some .boolean) ∈ lw_tbl := List.mem_of_getElem? (i := 605) rfl
set_option maxRecDepth 20000 in
theorem zcw8 : Cond.code yX1_hasRace cX1_hasRace 1 (some .boolean) ∈ lw_tbl := List.mem_of_getElem? (i := 376) rfl
set_option maxRecDepth 20000 in
theorem zcw9 : Cond.code yX1_divisions cX1_divisions 1 (some .int) ∈ lw_tbl := List.mem_of_getElem? (i := 300) rfl
set_option maxRecDepth 20000 in
theorem zcw10 : Cond.code yX1_divisionOf cX1_divisionOf 2 (some .int) ∈ lw_tbl := List.mem_of_getElem? (i := 390) rfl
set_option maxRecDepth 20000 in
theorem zcw11 : Cond.code yX1_putAt cX1_putAt 3 none ∈ lw_tbl := List.mem_of_getElem? (i := 284) rfl
set_option maxRecDepth 20000 in
theorem zcw12 : Cond.code yX1_starters cX1_starters 1 (some .int) ∈ lw_tbl := List.mem_of_getElem? (i := 380) rfl
set_option maxRecDepth 20000 in
theorem zcw13 : Cond.code yX1_starterAt cX1_starterAt 2 (some .int) ∈ lw_tbl := List.mem_of_getElem? (i := 453) rfl
set_option maxRecDepth 20000 in
theorem zcw14 : Cond.code yX1_startNumber cX1_startNumber 3 (some .int) ∈ lw_tbl := List.mem_of_getElem? (i := 398) rfl
set_option maxRecDepth 20000 in
theorem zcw15 : Cond.code yX1_isStarter cX1_isStarter 2 (some .boolean) ∈ lw_tbl := List.mem_of_getElem? (i := 394) rfl
set_option maxRecDepth 20000 in
theorem zcw16 : Cond.code yX1_reasonAgainst cX1_reasonAgainst 7 (some .int) ∈ lw_tbl := List.mem_of_getElem? (i := 461) rfl
set_option maxRecDepth 20000 in
theorem zcw17 : Cond.code yX1_span cX1_span 2 (some .int) ∈ lw_tbl := List.mem_of_getElem? (i := 484) rfl
set_option maxRecDepth 20000 in
theorem zcw18 : Cond.code yX1_withThoseThatNeed cX1_withThoseThatNeed 4 (some .int) ∈ lw_tbl := List.mem_of_getElem? (i := 492) rfl
set_option maxRecDepth 20000 in
theorem zcw19 : Cond.code yX1_neededBy cX1_neededBy 4 (some .int) ∈ lw_tbl := List.mem_of_getElem? (i := 496) rfl
set_option maxRecDepth 20000 in
theorem zcw20 : Cond.code yX1_liesWithin cX1_liesWithin 4 (some .boolean) ∈ lw_tbl := List.mem_of_getElem? (i := 500) rfl
set_option maxRecDepth 20000 in
theorem zcw21 : Cond.code yX1_endRace cX1_endRace 5 (some .int) ∈ lw_tbl := List.mem_of_getElem? (i := 519) rfl
set_option maxRecDepth 20000 in
theorem zcw22 : Cond.code yX1_exchange cX1_exchange 5 none ∈ lw_tbl := List.mem_of_getElem? (i := 529) rfl
set_option maxRecDepth 20000 in
theorem zcw23 : Cond.code yX1_endDay cX1_endDay 1 none ∈ lw_tbl := List.mem_of_getElem? (i := 533) rfl
set_option maxRecDepth 20000 in
theorem zcw24 : Cond.code yX1_position cX1_position 4 (some .double) ∈ lw_tbl := List.mem_of_getElem? (i := 588) rfl
set_option maxRecDepth 20000 in
theorem zcw25 : Cond.code yX1_notePlaces cX1_notePlaces 2 none ∈ lw_tbl := List.mem_of_getElem? (i := 288) rfl
set_option maxRecDepth 20000 in
theorem zcw26 : Cond.code yX1_placeAfter cX1_placeAfter 3 (some .int) ∈ lw_tbl := List.mem_of_getElem? (i := 418) rfl
set_option maxRecDepth 20000 in
theorem zcw27 : Cond.code yX1_daysRisen cX1_daysRisen 4 (some .int) ∈ lw_tbl := List.mem_of_getElem? (i := 414) rfl
set_option maxRecDepth 20000 in
theorem zcw28 : Cond.code yX1_daysFallen cX1_daysFallen 4 (some .int) ∈ lw_tbl := List.mem_of_getElem? (i := 422) rfl
set_option maxRecDepth 20000 in
theorem zcw29 : Cond.code yX1_award cX1_award 2 (some .int) ∈ lw_tbl := List.mem_of_getElem? (i := 426) rfl
set_option maxRecDepth 20000 in
theorem zcw30 : Cond.code yX1_bestRiser cX1_bestRiser 6 (some .int) ∈ lw_tbl := List.mem_of_getElem? (i := 622) rfl
set_option maxRecDepth 20000 in
theorem zcw31 : Cond.code yX1_copyFrom cX1_copyFrom 2 none ∈ lw_tbl := List.mem_of_getElem? (i := 333) rfl
set_option maxRecDepth 20000 in
theorem zcw32 : Cond.code yX2_init cX2_init 1 none ∈ lw_tbl := List.mem_of_getElem? (i := 200) rfl
set_option maxRecDepth 20000 in
theorem zcw33 : Cond.code yX2_foretell cX2_foretell 2 none ∈ lw_tbl := List.mem_of_getElem? (i := 551) rfl
set_option maxRecDepth 20000 in
theorem zcw34 : Cond.code yX2_foretellWith cX2_foretellWith 6 none ∈ lw_tbl := List.mem_of_getElem? (i := 555) rfl
set_option maxRecDepth 20000 in
theorem zcw35 : Cond.code yX2_findNext cX2_findNext 13 (some .boolean) ∈ lw_tbl := List.mem_of_getElem? (i := 563) rfl
set_option maxRecDepth 20000 in
theorem zcw36 : Cond.code yX2_add cX2_add 5 none ∈ lw_tbl := List.mem_of_getElem? (i := 567) rfl
set_option maxRecDepth 20000 in
theorem zcw37 : Cond.code yX2_timeOf cX2_timeOf 2 (some .double) ∈ lw_tbl := List.mem_of_getElem? (i := 571) rfl
set_option maxRecDepth 20000 in
theorem zcw38 : Cond.code yX2_hasUp cX2_hasUp 3 (some .boolean) ∈ lw_tbl := List.mem_of_getElem? (i := 597) rfl
set_option maxRecDepth 20000 in
theorem zcw39 : Cond.code yX3_init cX3_init 2 none ∈ lw_tbl := List.mem_of_getElem? (i := 183) rfl
set_option maxRecDepth 20000 in
theorem zcw40 : Cond.code yX3_keep cX3_keep 3 none ∈ lw_tbl := List.mem_of_getElem? (i := 321) rfl
set_option maxRecDepth 20000 in
theorem zcw41 : Cond.code yX3_moveOldestToEnd cX3_moveOldestToEnd 3 none ∈ lw_tbl := List.mem_of_getElem? (i := 325) rfl
set_option maxRecDepth 20000 in
theorem zcw42 : Cond.code yX3_latest cX3_latest 1 (some (.object "BumpsChart$Chart")) ∈ lw_tbl := List.mem_of_getElem? (i := 329) rfl
set_option maxRecDepth 20000 in
theorem zcw43 : Cond.code yX3_dropLatest cX3_dropLatest 1 none ∈ lw_tbl := List.mem_of_getElem? (i := 543) rfl
set_option maxRecDepth 20000 in
theorem zcw44 : Cond.code yX4_init cX4_init 1 none ∈ lw_tbl := List.mem_of_getElem? (i := 103) rfl
set_option maxRecDepth 20000 in
theorem zcw45 : Cond.code yX4_empty cX4_empty 1 none ∈ lw_tbl := List.mem_of_getElem? (i := 296) rfl
set_option maxRecDepth 20000 in
theorem zcw46 : Cond.code yX4_add cX4_add 5 none ∈ lw_tbl := List.mem_of_getElem? (i := 524) rfl
set_option maxRecDepth 20000 in
theorem zcw47 : Cond.code yX4_madeBy cX4_madeBy 2 (some .int) ∈ lw_tbl := List.mem_of_getElem? (i := 432) rfl
set_option maxRecDepth 20000 in
theorem zcw48 : Cond.code yX4_madeOn cX4_madeOn 2 (some .int) ∈ lw_tbl := List.mem_of_getElem? (i := 441) rfl
set_option maxRecDepth 20000 in
theorem zcw49 : Cond.code yX4_countOf cX4_countOf 5 (some .int) ∈ lw_tbl := List.mem_of_getElem? (i := 436) rfl
set_option maxRecDepth 20000 in
theorem zcw50 : Cond.code yX4_follow cX4_follow 5 (some .int) ∈ lw_tbl := List.mem_of_getElem? (i := 614) rfl
set_option maxRecDepth 20000 in
theorem zcw51 : Cond.code yX4_copyFrom cX4_copyFrom 2 none ∈ lw_tbl := List.mem_of_getElem? (i := 352) rfl
set_option maxRecDepth 20000 in
theorem zcw52 : Cond.code yX5_init cX5_init 1 none ∈ lw_tbl := List.mem_of_getElem? (i := 79) rfl
set_option maxRecDepth 20000 in
theorem zcw53 : Cond.code yX5_has cX5_has 2 (some .boolean) ∈ lw_tbl := List.mem_of_getElem? (i := 480) rfl
set_option maxRecDepth 20000 in
theorem zcw54 : Cond.code yX5_add cX5_add 3 none ∈ lw_tbl := List.mem_of_getElem? (i := 467) rfl
set_option maxRecDepth 20000 in
theorem zcw55 : Cond.code yX5_isOut cX5_isOut 3 (some .boolean) ∈ lw_tbl := List.mem_of_getElem? (i := 409) rfl
set_option maxRecDepth 20000 in
theorem zcw56 : Cond.code yX5_takeBack cX5_takeBack 4 none ∈ lw_tbl := List.mem_of_getElem? (i := 504) rfl
set_option maxRecDepth 20000 in
theorem zcw57 : Cond.code yX5_copyFrom cX5_copyFrom 2 none ∈ lw_tbl := List.mem_of_getElem? (i := 347) rfl
set_option maxRecDepth 20000 in
theorem zcw58 : Cond.code yX6_init cX6_init 1 none ∈ lw_tbl := List.mem_of_getElem? (i := 234) rfl
set_option maxRecDepth 20000 in
theorem zcw59 : Cond.code yX6_append cX6_append 2 none ∈ lw_tbl := List.mem_of_getElem? (i := 630) rfl
set_option maxRecDepth 20000 in
theorem zcw60 : Cond.code yX6_check cX6_check 4 none ∈ lw_tbl := List.mem_of_getElem? (i := 643) rfl
set_option maxRecDepth 20000 in
theorem zcw61 : Cond.code yX6_readBump cX6_readBump 4 (some .boolean) ∈ lw_tbl := List.mem_of_getElem? (i := 648) rfl
set_option maxRecDepth 20000 in
theorem zcw62 : Cond.code yX6_digitsAt cX6_digitsAt 3 (some .int) ∈ lw_tbl := List.mem_of_getElem? (i := 652) rfl
set_option maxRecDepth 20000 in
theorem zcw63 : Cond.code yX6_numberAt cX6_numberAt 5 (some .int) ∈ lw_tbl := List.mem_of_getElem? (i := 661) rfl
set_option maxRecDepth 20000 in
theorem zcw64 : Cond.code yX6_signAt cX6_signAt 2 (some .int) ∈ lw_tbl := List.mem_of_getElem? (i := 656) rfl
set_option maxRecDepth 20000 in
theorem zcw65 : Cond.code yX7_init cX7_init 1 none ∈ lw_tbl := List.mem_of_getElem? (i := 54) rfl
set_option maxRecDepth 20000 in
theorem zcw66 : Cond.code yX7_begin cX7_begin 4 (some .int) ∈ lw_tbl := List.mem_of_getElem? (i := 317) rfl
set_option maxRecDepth 20000 in
theorem zcw67 : Cond.code yX7_setSpeed cX7_setSpeed 4 (some .int) ∈ lw_tbl := List.mem_of_getElem? (i := 358) rfl
set_option maxRecDepth 20000 in
theorem zcw68 : Cond.code yX7_set cX7_set 4 (some .int) ∈ lw_tbl := List.mem_of_getElem? (i := 368) rfl
set_option maxRecDepth 20000 in
theorem zcw69 : Cond.code yX7_count cX7_count 2 (some .int) ∈ lw_tbl := List.mem_of_getElem? (i := 372) rfl
set_option maxRecDepth 20000 in
theorem zcw70 : Cond.code yX7_crew cX7_crew 3 (some .int) ∈ lw_tbl := List.mem_of_getElem? (i := 386) rfl
set_option maxRecDepth 20000 in
theorem zcw71 : Cond.code yX7_outFlag cX7_outFlag 2 (some .int) ∈ lw_tbl := List.mem_of_getElem? (i := 405) rfl
set_option maxRecDepth 20000 in
theorem zcw72 : Cond.code yX7_at cX7_at 2 (some .int) ∈ lw_tbl := List.mem_of_getElem? (i := 445) rfl
set_option maxRecDepth 20000 in
theorem zcw73 : Cond.code yX7_starter cX7_starter 2 (some .int) ∈ lw_tbl := List.mem_of_getElem? (i := 449) rfl
set_option maxRecDepth 20000 in
theorem zcw74 : Cond.code yX7_bump cX7_bump 3 (some .int) ∈ lw_tbl := List.mem_of_getElem? (i := 457) rfl
set_option maxRecDepth 20000 in
theorem zcw75 : Cond.code yX7_why cX7_why 3 (some .int) ∈ lw_tbl := List.mem_of_getElem? (i := 472) rfl
set_option maxRecDepth 20000 in
theorem zcw76 : Cond.code yX7_bumped cX7_bumped 3 (some .int) ∈ lw_tbl := List.mem_of_getElem? (i := 476) rfl
set_option maxRecDepth 20000 in
theorem zcw77 : Cond.code yX7_rerow cX7_rerow 3 (some .int) ∈ lw_tbl := List.mem_of_getElem? (i := 488) rfl
set_option maxRecDepth 20000 in
theorem zcw78 : Cond.code yX7_finish cX7_finish 1 (some .int) ∈ lw_tbl := List.mem_of_getElem? (i := 515) rfl
set_option maxRecDepth 20000 in
theorem zcw79 : Cond.code yX7_undo cX7_undo 2 (some .int) ∈ lw_tbl := List.mem_of_getElem? (i := 537) rfl
set_option maxRecDepth 20000 in
theorem zcw80 : Cond.code yX7_foretold cX7_foretold 3 (some .int) ∈ lw_tbl := List.mem_of_getElem? (i := 547) rfl
set_option maxRecDepth 20000 in
theorem zcw81 : Cond.code yX7_row cX7_row 2 (some .int) ∈ lw_tbl := List.mem_of_getElem? (i := 580) rfl
set_option maxRecDepth 20000 in
theorem zcw82 : Cond.code yX7_distanceBits cX7_distanceBits 3 (some .int) ∈ lw_tbl := List.mem_of_getElem? (i := 584) rfl
set_option maxRecDepth 20000 in
theorem zcw83 : Cond.code yX7_speedFor cX7_speedFor 4 (some .int) ∈ lw_tbl := List.mem_of_getElem? (i := 592) rfl
set_option maxRecDepth 20000 in
theorem zcw84 : Cond.code yX7_floatBits cX7_floatBits 5 (some .int) ∈ lw_tbl := List.mem_of_getElem? (i := 574) rfl
set_option maxRecDepth 20000 in
theorem zcw85 : Cond.code yX7_place cX7_place 3 (some .int) ∈ lw_tbl := List.mem_of_getElem? (i := 601) rfl
set_option maxRecDepth 20000 in
theorem zcw86 : Cond.code yX7_again cX7_again 3 (some .int) ∈ lw_tbl := List.mem_of_getElem? (i := 610) rfl
set_option maxRecDepth 20000 in
theorem zcw87 : Cond.code yX7_bestRise cX7_bestRise 1 (some .int) ∈ lw_tbl := List.mem_of_getElem? (i := 618) rfl
set_option maxRecDepth 20000 in
theorem zcw88 : Cond.code yX7_type cX7_type 2 (some .int) ∈ lw_tbl := List.mem_of_getElem? (i := 626) rfl
set_option maxRecDepth 20000 in
theorem zcw89 : Cond.code yX7_clearText cX7_clearText 2 (some .int) ∈ lw_tbl := List.mem_of_getElem? (i := 635) rfl
set_option maxRecDepth 20000 in
theorem zcw90 : Cond.code yX7_fault cX7_fault 2 (some .int) ∈ lw_tbl := List.mem_of_getElem? (i := 639) rfl
set_option maxRecDepth 20000 in
theorem zcw91 : Cond.code yX7_enter cX7_enter 1 (some .int) ∈ lw_tbl := List.mem_of_getElem? (i := 667) rfl
set_option maxRecDepth 20000 in
theorem zcw92 : Cond.code yX8_init cX8_init 1 none ∈ lw_tbl := List.mem_of_getElem? (i := 673) rfl
set_option maxRecDepth 20000 in
theorem zcw93 : Cond.code yX8_in cX8_in 3 (some .boolean) ∈ lw_tbl := List.mem_of_getElem? (i := 747) rfl
set_option maxRecDepth 20000 in
theorem zcw94 : Cond.code yX8_isCrew cX8_isCrew 2 (some .boolean) ∈ lw_tbl := List.mem_of_getElem? (i := 759) rfl
set_option maxRecDepth 20000 in
theorem zcw95 : Cond.code yX8_divisions cX8_divisions 1 (some .int) ∈ lw_tbl := List.mem_of_getElem? (i := 682) rfl
set_option maxRecDepth 20000 in
theorem zcw96 : Cond.code yX8_records cX8_records 2 none ∈ lw_tbl := List.mem_of_getElem? (i := 751) rfl
set_option maxRecDepth 20000 in
theorem zcw97 : Cond.code yX8_charts cX8_charts 2 none ∈ lw_tbl := List.mem_of_getElem? (i := 686) rfl
set_option maxRecDepth 20000 in
theorem zcw98 : Cond.code yX8_begins cX8_begins 5 none ∈ lw_tbl := List.mem_of_getElem? (i := 678) rfl
set_option maxRecDepth 20000 in
theorem zcw99 : Cond.code yX8_crewAt cX8_crewAt 3 (some .int) ∈ lw_tbl := List.mem_of_getElem? (i := 775) rfl
set_option maxRecDepth 20000 in
theorem zcw100 : Cond.code yX8_lines cX8_lines 4 none ∈ lw_tbl := List.mem_of_getElem? (i := 771) rfl
set_option maxRecDepth 20000 in
theorem zcw101 : Cond.code yX8_numberOf cX8_numberOf 3 (some .int) ∈ lw_tbl := List.mem_of_getElem? (i := 779) rfl
set_option maxRecDepth 20000 in
theorem zcw102 : Cond.code yX8_isClear cX8_isClear 5 (some .boolean) ∈ lw_tbl := List.mem_of_getElem? (i := 811) rfl
set_option maxRecDepth 20000 in
theorem zcw103 : Cond.code yX8_refusal cX8_refusal 5 (some .int) ∈ lw_tbl := List.mem_of_getElem? (i := 807) rfl
set_option maxRecDepth 20000 in
theorem zcw104 : Cond.code yX8_puts cX8_puts 3 (some .int) ∈ lw_tbl := List.mem_of_getElem? (i := 815) rfl
set_option maxRecDepth 20000 in
theorem zcw105 : Cond.code yX8_finishes cX8_finishes 6 (some .int) ∈ lw_tbl := List.mem_of_getElem? (i := 839) rfl
set_option maxRecDepth 20000 in
theorem zcw106 : Cond.code yX8_begin cX8_begin 4 (some .int) ∈ lw_tbl := List.mem_of_getElem? (i := 744) rfl
set_option maxRecDepth 20000 in
theorem zcw107 : Cond.code yX8_setSpeed cX8_setSpeed 4 (some .int) ∈ lw_tbl := List.mem_of_getElem? (i := 755) rfl
set_option maxRecDepth 20000 in
theorem zcw108 : Cond.code yX8_set cX8_set 4 (some .int) ∈ lw_tbl := List.mem_of_getElem? (i := 763) rfl
set_option maxRecDepth 20000 in
theorem zcw109 : Cond.code yX8_count cX8_count 3 (some .int) ∈ lw_tbl := List.mem_of_getElem? (i := 767) rfl
set_option maxRecDepth 20000 in
theorem zcw110 : Cond.code yX8_days cX8_days 6 (some .int) ∈ lw_tbl := List.mem_of_getElem? (i := 787) rfl
set_option maxRecDepth 20000 in
theorem zcw111 : Cond.code yX8_bumpsOf cX8_bumpsOf 5 (some .int) ∈ lw_tbl := List.mem_of_getElem? (i := 791) rfl
set_option maxRecDepth 20000 in
theorem zcw112 : Cond.code yX8_crew cX8_crew 4 (some .int) ∈ lw_tbl := List.mem_of_getElem? (i := 783) rfl
set_option maxRecDepth 20000 in
theorem zcw113 : Cond.code yX8_at cX8_at 2 (some .int) ∈ lw_tbl := List.mem_of_getElem? (i := 795) rfl
set_option maxRecDepth 20000 in
theorem zcw114 : Cond.code yX8_starter cX8_starter 2 (some .int) ∈ lw_tbl := List.mem_of_getElem? (i := 799) rfl
set_option maxRecDepth 20000 in
theorem zcw115 : Cond.code yX8_bump cX8_bump 3 (some .int) ∈ lw_tbl := List.mem_of_getElem? (i := 803) rfl
set_option maxRecDepth 20000 in
theorem zcw116 : Cond.code yX8_why cX8_why 3 (some .int) ∈ lw_tbl := List.mem_of_getElem? (i := 819) rfl
set_option maxRecDepth 20000 in
theorem zcw117 : Cond.code yX8_bumped cX8_bumped 5 (some .int) ∈ lw_tbl := List.mem_of_getElem? (i := 823) rfl
set_option maxRecDepth 20000 in
theorem zcw118 : Cond.code yX8_needs cX8_needs 5 (some .boolean) ∈ lw_tbl := List.mem_of_getElem? (i := 831) rfl
set_option maxRecDepth 20000 in
theorem zcw119 : Cond.code yX8_rerow cX8_rerow 6 (some .int) ∈ lw_tbl := List.mem_of_getElem? (i := 827) rfl
set_option maxRecDepth 20000 in
theorem zcw120 : Cond.code yX8_finish cX8_finish 1 (some .int) ∈ lw_tbl := List.mem_of_getElem? (i := 835) rfl
set_option maxRecDepth 20000 in
theorem zcw121 : Cond.code yX8_undo cX8_undo 2 (some .int) ∈ lw_tbl := List.mem_of_getElem? (i := 843) rfl
set_option maxRecDepth 20000 in
theorem zcw122 : Cond.code yX8_foretells cX8_foretells 11 none ∈ lw_tbl := List.mem_of_getElem? (i := 851) rfl
set_option maxRecDepth 20000 in
theorem zcw123 : Cond.code yX8_foretold cX8_foretold 3 (some .int) ∈ lw_tbl := List.mem_of_getElem? (i := 847) rfl
set_option maxRecDepth 20000 in
theorem zcw124 : Cond.code yX8_row cX8_row 2 (some .int) ∈ lw_tbl := List.mem_of_getElem? (i := 865) rfl
set_option maxRecDepth 20000 in
theorem zcw125 : Cond.code yX8_whereIs cX8_whereIs 3 (some .double) ∈ lw_tbl := List.mem_of_getElem? (i := 873) rfl
set_option maxRecDepth 20000 in
theorem zcw126 : Cond.code yX8_distanceBits cX8_distanceBits 3 (some .int) ∈ lw_tbl := List.mem_of_getElem? (i := 869) rfl
set_option maxRecDepth 20000 in
theorem zcw127 : Cond.code yX8_speedFor cX8_speedFor 7 (some .int) ∈ lw_tbl := List.mem_of_getElem? (i := 877) rfl
set_option maxRecDepth 20000 in
theorem zcw128 : Cond.code yX8_isDay cX8_isDay 2 (some .boolean) ∈ lw_tbl := List.mem_of_getElem? (i := 885) rfl
set_option maxRecDepth 20000 in
theorem zcw129 : Cond.code yX8_place cX8_place 3 (some .int) ∈ lw_tbl := List.mem_of_getElem? (i := 881) rfl
set_option maxRecDepth 20000 in
theorem zcw130 : Cond.code yX8_again cX8_again 5 (some .int) ∈ lw_tbl := List.mem_of_getElem? (i := 889) rfl
set_option maxRecDepth 20000 in
theorem zcw131 : Cond.code yX8_bestRise cX8_bestRise 5 (some .int) ∈ lw_tbl := List.mem_of_getElem? (i := 893) rfl
set_option maxRecDepth 20000 in
theorem zcw132 : Cond.code yX8_type cX8_type 2 (some .int) ∈ lw_tbl := List.mem_of_getElem? (i := 897) rfl
set_option maxRecDepth 20000 in
theorem zcw133 : Cond.code yX8_clearText cX8_clearText 2 (some .int) ∈ lw_tbl := List.mem_of_getElem? (i := 901) rfl
set_option maxRecDepth 20000 in
theorem zcw134 : Cond.code yX8_number cX8_number 5 (some .int) ∈ lw_tbl := List.mem_of_getElem? (i := 917) rfl
set_option maxRecDepth 20000 in
theorem zcw135 : Cond.code yX8_readsBump cX8_readsBump 1 none ∈ lw_tbl := List.mem_of_getElem? (i := 913) rfl
set_option maxRecDepth 20000 in
theorem zcw136 : Cond.code yX8_faulty cX8_faulty 2 (some .int) ∈ lw_tbl := List.mem_of_getElem? (i := 909) rfl
set_option maxRecDepth 20000 in
theorem zcw137 : Cond.code yX8_fault cX8_fault 3 (some .int) ∈ lw_tbl := List.mem_of_getElem? (i := 905) rfl
set_option maxRecDepth 20000 in
theorem zcw138 : Cond.code yX8_enter cX8_enter 2 (some .int) ∈ lw_tbl := List.mem_of_getElem? (i := 921) rfl
set_option maxRecDepth 20000 in
theorem zcw139 : Cond.code yJxf58ca_isNaN_12338 cJxf58ca_isNaN_12338 1 (some .boolean) ∈ lw_tbl := List.mem_of_getElem? (i := 857) rfl
set_option maxRecDepth 20000 in
theorem zcw140 : Cond.code yJxf58ca_floatToIntBits_5c35a cJxf58ca_floatToIntBits_5c35a 1 (some .int) ∈ lw_tbl := List.mem_of_getElem? (i := 854) rfl
set_option maxRecDepth 20000 in
theorem zcw141 : Cond.code yJ6_bitCount_0f7a4 cJ6_bitCount_0f7a4 1 (some .int) ∈ lw_tbl := List.mem_of_getElem? (i := 508) rfl
set_option maxRecDepth 20000 in
theorem zcw142 : Cond.code yJ9_min_7cf53 cJ9_min_7cf53 2 (some .int) ∈ lw_tbl := List.mem_of_getElem? (i := 340) rfl
end
section
def zfind (pc : Nat) : List (Nat × Instr × Nat × Nat × Nat) → Option (Instr × Nat × Nat × Nat)
  | [] => none
  | e :: t => bif Nat.beq e.1 pc then some e.2 else zfind pc t
def zi (y pc : Nat) : Option (Instr × Nat × Nat × Nat) := zfind pc (zcode y)
def zrm (y a : Nat) : Bool := decide (zrank a + 1 ≤ zrank y) && decide (8 + (zml a + 11) + zneed a ≤ zneed y) && decide (a < zlaw) && plainFor (zname a)
/-- what a row of the code table says beyond the instruction itself -/
def zaux (y pc : Nat) (i : Instr) (len a b : Nat) : Bool := match i with
  | .aload_n _ => Nat.beq len 1 | .iload_n _ => Nat.beq len 1 | .fload_n _ => Nat.beq len 1 | .dload_n _ => Nat.beq len 1
  | .iload _ => Nat.beq len 2 | .dload _ => Nat.beq len 2
  | .istore_n k => Nat.beq len 1 && decide ((k : Nat) < zml y) | .astore_n k => Nat.beq len 1 && decide ((k : Nat) < zml y) | .fstore_n k => Nat.beq len 1 && decide ((k : Nat) < zml y)
  | .istore k => Nat.beq len 2 && decide (k < zml y) | .dstore k => Nat.beq len 2 && decide (k + 1 < zml y)
  | .iinc k _ => Nat.beq len 3 && decide (k < zml y)
  | .iconst n => Nat.beq len 1 && decide (-2147483648 ≤ n ∧ n ≤ 2147483647)
  | .bipush n => Nat.beq len 2 && decide ((Int8.ofInt n).toInt32 = Int32.ofInt n) && decide (-2147483648 ≤ n ∧ n ≤ 2147483647)
  | .sipush n => Nat.beq len 3 && decide ((Int16.ofInt n).toInt32 = Int32.ofInt n) && decide (-2147483648 ≤ n ∧ n ≤ 2147483647)
  | .getfield idx => Nat.beq len 3 && zfl.any (fun q => decide (q.1 = zown y ∧ q.2.1 = idx ∧ q.2.2.1 = a ∧ q.2.2.2.1 = b))
  | .putfield idx => Nat.beq len 3 && zfl.any (fun q => decide (q.1 = zown y ∧ q.2.1 = idx ∧ q.2.2.1 = a ∧ q.2.2.2.1 = b))
  | .goto off => Nat.beq len 3 && decide ((pc : Int) + off = (a : Int))
  | .ifnull off => Nat.beq len 3 && decide ((pc : Int) + off = (a : Int))
  | .ifnonnull off => Nat.beq len 3 && decide ((pc : Int) + off = (a : Int))
  | .ifCond _ off => Nat.beq len 3 && decide ((pc : Int) + off = (a : Int))
  | .if_icmp _ off => Nat.beq len 3 && decide ((pc : Int) + off = (a : Int))
  | .tableswitch d lo hi offs => decide (0 ≤ d) && offs.toList.all (fun o => decide (0 ≤ o)) && decide ((offs.toList.length : Int) = hi - lo + 1)
  | .lookupswitch d ps => decide (0 ≤ d) && ps.toList.all (fun o => decide (0 ≤ o.2)) && (ps.toList.zip (ps.toList.drop 1)).all (fun (a, next) => a.1 < next.1)
  | .newarray _ => Nat.beq len 2
  | .anewarray idx => Nat.beq len 3 && Nat.beq a 1 && zkl.any (fun q => decide (q.1 = zown y ∧ q.2.1 = idx ∧ q.2.2.1 = a))
  | .new idx => Nat.beq len 3 && zkl.any (fun q => decide (q.1 = zown y ∧ q.2.1 = idx ∧ q.2.2.1 = a))
  | .ldc idx => Nat.beq len 2 && (zkl_int.any (fun q => decide (q.1 = zown y ∧ q.2.1 = idx)) || zkl_flt.any (fun q => decide (q.1 = zown y ∧ q.2.1 = idx)))
  | .ldc_w idx => Nat.beq len 3 && zkl_int.any (fun q => decide (q.1 = zown y ∧ q.2.1 = idx))
  | .invokevirtual idx => Nat.beq len 3 && decide (zown a < 9) && zrm y a && zvl.any (fun q => decide (q.1 = zown y ∧ q.2.1 = idx ∧ q.2.2.1 = a ∧ q.2.2.2.1 = b))
  | .invokestatic idx => Nat.beq len 3 && (bif Nat.beq a 1000 then zal.any (fun q => decide (q.1 = zown y ∧ q.2.1 = idx)) && decide (1 ≤ zrank y) && decide (8 + 40 ≤ zneed y) else bif Nat.beq a 1001 then zwl.any (fun q => decide (q.1 = zown y ∧ q.2.1 = idx)) && decide (1 ≤ zrank y) && decide (8 + 15 ≤ zneed y) else zrm y a && zsl.any (fun q => decide (q.1 = zown y ∧ q.2.1 = idx ∧ q.2.2.1 = a ∧ q.2.2.2.1 = b)))
  | .invokespecial idx => Nat.beq len 3 && (bif Nat.beq a 1002 then zol.any (fun q => decide (q.1 = zown y ∧ q.2.1 = idx)) && decide (1 ≤ zrank y) && decide (8 + 12 ≤ zneed y) else decide (zown a < 9) && zrm y a && (zil.any (fun q => decide (q.1 = zown y ∧ q.2.1 = idx ∧ q.2.2.1 = a ∧ q.2.2.2.1 = b)) || znl.any (fun q => decide (q.1 = zown y ∧ q.2.1 = idx ∧ q.2.2.1 = a ∧ q.2.2.2.1 = b))))
  | _ => Nat.beq len 1
def zchk (y : Nat) : Bool := (zcode y).all (fun e => decide (decode (zb y) e.1 = .ok (e.2.1, e.2.2.1)) && zaux y e.1 e.2.1 e.2.2.1 e.2.2.2.1 e.2.2.2.2)
theorem zfind_mem {pc : Nat} {v : Instr × Nat × Nat × Nat} : ∀ {l : List (Nat × Instr × Nat × Nat × Nat)}, zfind pc l = some v → (pc, v) ∈ l
  | [], h => by simp [zfind] at h
  | e :: t, h => by
    unfold zfind at h
    by_cases hq : e.1 = pc
    · subst hq
      simp at h
      subst h
      exact List.mem_cons_self
    · have : Nat.beq e.1 pc = false := by
        cases hb : Nat.beq e.1 pc with
        | false => rfl
        | true => exact absurd (Nat.eq_of_beq_eq_true hb) hq
      rw [this] at h
      exact List.mem_cons_of_mem _ (zfind_mem h)
theorem zchk_spec {y pc : Nat} {i : Instr} {len a b : Nat} (hc : zchk y = true) (h : zi y pc = some (i, len, a, b)) : decode (zb y) pc = .ok (i, len) ∧ zaux y pc i len a b = true := by
  have h1 := List.all_eq_true.mp hc _ (zfind_mem h)
  simp only [Bool.and_eq_true, decide_eq_true_eq] at h1
  exact h1
theorem zck0 : zchk 0 = true := by decide +kernel
theorem zck1 : zchk 1 = true := by decide +kernel
theorem zck2 : zchk 2 = true := by decide +kernel
theorem zck3 : zchk 3 = true := by decide +kernel
theorem zck4 : zchk 4 = true := by decide +kernel
theorem zck5 : zchk 5 = true := by decide +kernel
theorem zck6 : zchk 6 = true := by decide +kernel
theorem zck7 : zchk 7 = true := by decide +kernel
theorem zck8 : zchk 8 = true := by decide +kernel
theorem zck9 : zchk 9 = true := by decide +kernel
theorem zck10 : zchk 10 = true := by decide +kernel
theorem zck11 : zchk 11 = true := by decide +kernel
theorem zck12 : zchk 12 = true := by decide +kernel
theorem zck13 : zchk 13 = true := by decide +kernel
theorem zck14 : zchk 14 = true := by decide +kernel
theorem zck15 : zchk 15 = true := by decide +kernel
theorem zck16 : zchk 16 = true := by decide +kernel
theorem zck17 : zchk 17 = true := by decide +kernel
theorem zck18 : zchk 18 = true := by decide +kernel
theorem zck19 : zchk 19 = true := by decide +kernel
theorem zck20 : zchk 20 = true := by decide +kernel
theorem zck21 : zchk 21 = true := by decide +kernel
theorem zck22 : zchk 22 = true := by decide +kernel
theorem zck23 : zchk 23 = true := by decide +kernel
theorem zck24 : zchk 24 = true := by decide +kernel
theorem zck25 : zchk 25 = true := by decide +kernel
theorem zck26 : zchk 26 = true := by decide +kernel
theorem zck27 : zchk 27 = true := by decide +kernel
theorem zck28 : zchk 28 = true := by decide +kernel
theorem zck29 : zchk 29 = true := by decide +kernel
theorem zck30 : zchk 30 = true := by decide +kernel
theorem zck31 : zchk 31 = true := by decide +kernel
theorem zck32 : zchk 32 = true := by decide +kernel
theorem zck33 : zchk 33 = true := by decide +kernel
theorem zck34 : zchk 34 = true := by decide +kernel
theorem zck35 : zchk 35 = true := by decide +kernel
theorem zck36 : zchk 36 = true := by decide +kernel
theorem zck37 : zchk 37 = true := by decide +kernel
theorem zck38 : zchk 38 = true := by decide +kernel
theorem zck39 : zchk 39 = true := by decide +kernel
theorem zck40 : zchk 40 = true := by decide +kernel
theorem zck41 : zchk 41 = true := by decide +kernel
theorem zck42 : zchk 42 = true := by decide +kernel
theorem zck43 : zchk 43 = true := by decide +kernel
theorem zck44 : zchk 44 = true := by decide +kernel
theorem zck45 : zchk 45 = true := by decide +kernel
theorem zck46 : zchk 46 = true := by decide +kernel
theorem zck47 : zchk 47 = true := by decide +kernel
theorem zck48 : zchk 48 = true := by decide +kernel
theorem zck49 : zchk 49 = true := by decide +kernel
theorem zck50 : zchk 50 = true := by decide +kernel
theorem zck51 : zchk 51 = true := by decide +kernel
theorem zck52 : zchk 52 = true := by decide +kernel
theorem zck53 : zchk 53 = true := by decide +kernel
theorem zck54 : zchk 54 = true := by decide +kernel
theorem zck55 : zchk 55 = true := by decide +kernel
theorem zck56 : zchk 56 = true := by decide +kernel
theorem zck57 : zchk 57 = true := by decide +kernel
theorem zck58 : zchk 58 = true := by decide +kernel
theorem zck59 : zchk 59 = true := by decide +kernel
theorem zck60 : zchk 60 = true := by decide +kernel
theorem zck61 : zchk 61 = true := by decide +kernel
theorem zck62 : zchk 62 = true := by decide +kernel
theorem zck63 : zchk 63 = true := by decide +kernel
theorem zck64 : zchk 64 = true := by decide +kernel
theorem zck65 : zchk 65 = true := by decide +kernel
theorem zck66 : zchk 66 = true := by decide +kernel
theorem zck67 : zchk 67 = true := by decide +kernel
theorem zck68 : zchk 68 = true := by decide +kernel
theorem zck69 : zchk 69 = true := by decide +kernel
theorem zck70 : zchk 70 = true := by decide +kernel
theorem zck71 : zchk 71 = true := by decide +kernel
theorem zck72 : zchk 72 = true := by decide +kernel
theorem zck73 : zchk 73 = true := by decide +kernel
theorem zck74 : zchk 74 = true := by decide +kernel
theorem zck75 : zchk 75 = true := by decide +kernel
theorem zck76 : zchk 76 = true := by decide +kernel
theorem zck77 : zchk 77 = true := by decide +kernel
theorem zck78 : zchk 78 = true := by decide +kernel
theorem zck79 : zchk 79 = true := by decide +kernel
theorem zck80 : zchk 80 = true := by decide +kernel
theorem zck81 : zchk 81 = true := by decide +kernel
theorem zck82 : zchk 82 = true := by decide +kernel
theorem zck83 : zchk 83 = true := by decide +kernel
theorem zck84 : zchk 84 = true := by decide +kernel
theorem zck85 : zchk 85 = true := by decide +kernel
theorem zck86 : zchk 86 = true := by decide +kernel
theorem zck87 : zchk 87 = true := by decide +kernel
theorem zck88 : zchk 88 = true := by decide +kernel
theorem zck89 : zchk 89 = true := by decide +kernel
theorem zck90 : zchk 90 = true := by decide +kernel
theorem zck91 : zchk 91 = true := by decide +kernel
theorem zck92 : zchk 92 = true := by decide +kernel
theorem zck93 : zchk 93 = true := by decide +kernel
theorem zck94 : zchk 94 = true := by decide +kernel
theorem zck95 : zchk 95 = true := by decide +kernel
theorem zck96 : zchk 96 = true := by decide +kernel
theorem zck97 : zchk 97 = true := by decide +kernel
theorem zck98 : zchk 98 = true := by decide +kernel
theorem zck99 : zchk 99 = true := by decide +kernel
theorem zck100 : zchk 100 = true := by decide +kernel
theorem zck101 : zchk 101 = true := by decide +kernel
theorem zck102 : zchk 102 = true := by decide +kernel
theorem zck103 : zchk 103 = true := by decide +kernel
theorem zck104 : zchk 104 = true := by decide +kernel
theorem zck105 : zchk 105 = true := by decide +kernel
theorem zck106 : zchk 106 = true := by decide +kernel
theorem zck107 : zchk 107 = true := by decide +kernel
theorem zck108 : zchk 108 = true := by decide +kernel
theorem zck109 : zchk 109 = true := by decide +kernel
theorem zck110 : zchk 110 = true := by decide +kernel
theorem zck111 : zchk 111 = true := by decide +kernel
theorem zck112 : zchk 112 = true := by decide +kernel
theorem zck113 : zchk 113 = true := by decide +kernel
theorem zck114 : zchk 114 = true := by decide +kernel
theorem zck115 : zchk 115 = true := by decide +kernel
theorem zck116 : zchk 116 = true := by decide +kernel
theorem zck117 : zchk 117 = true := by decide +kernel
theorem zck118 : zchk 118 = true := by decide +kernel
theorem zck119 : zchk 119 = true := by decide +kernel
theorem zck120 : zchk 120 = true := by decide +kernel
theorem zck121 : zchk 121 = true := by decide +kernel
theorem zck122 : zchk 122 = true := by decide +kernel
theorem zck123 : zchk 123 = true := by decide +kernel
theorem zck124 : zchk 124 = true := by decide +kernel
theorem zck125 : zchk 125 = true := by decide +kernel
theorem zck126 : zchk 126 = true := by decide +kernel
theorem zck127 : zchk 127 = true := by decide +kernel
theorem zck128 : zchk 128 = true := by decide +kernel
theorem zck129 : zchk 129 = true := by decide +kernel
theorem zck130 : zchk 130 = true := by decide +kernel
theorem zck131 : zchk 131 = true := by decide +kernel
theorem zck132 : zchk 132 = true := by decide +kernel
theorem zck133 : zchk 133 = true := by decide +kernel
theorem zck134 : zchk 134 = true := by decide +kernel
theorem zck135 : zchk 135 = true := by decide +kernel
theorem zck136 : zchk 136 = true := by decide +kernel
theorem zck137 : zchk 137 = true := by decide +kernel
theorem zck138 : zchk 138 = true := by decide +kernel
theorem zck139 : zchk 139 = true := by decide +kernel
theorem zck140 : zchk 140 = true := by decide +kernel
theorem zck141 : zchk 141 = true := by decide +kernel
theorem zck142 : zchk 142 = true := by decide +kernel
theorem zck143 : zchk 143 = true := by decide +kernel
theorem zck : ∀ y, y < 144 → zchk y = true := lt_s (lt_s (lt_s (lt_s (lt_s (lt_s (lt_s (lt_s (lt_s (lt_s (lt_s (lt_s (lt_s (lt_s (lt_s (lt_s (lt_s (lt_s (lt_s (lt_s (lt_s (lt_s (lt_s (lt_s (lt_s (lt_s (lt_s (lt_s (lt_s (lt_s (lt_s (lt_s (lt_s (lt_s (lt_s (lt_s (lt_s (lt_s (lt_s (lt_s (lt_s (lt_s (lt_s (lt_s (lt_s (lt_s (lt_s (lt_s (lt_s (lt_s (lt_s (lt_s (lt_s (lt_s (lt_s (lt_s (lt_s (lt_s (lt_s (lt_s (lt_s (lt_s (lt_s (lt_s (lt_s (lt_s (lt_s (lt_s (lt_s (lt_s (lt_s (lt_s (lt_s (lt_s (lt_s (lt_s (lt_s (lt_s (lt_s (lt_s (lt_s (lt_s (lt_s (lt_s (lt_s (lt_s (lt_s (lt_s (lt_s (lt_s (lt_s (lt_s (lt_s (lt_s (lt_s (lt_s (lt_s (lt_s (lt_s (lt_s (lt_s (lt_s (lt_s (lt_s (lt_s (lt_s (lt_s (lt_s (lt_s (lt_s (lt_s (lt_s (lt_s (lt_s (lt_s (lt_s (lt_s (lt_s (lt_s (lt_s (lt_s (lt_s (lt_s (lt_s (lt_s (lt_s (lt_s (lt_s (lt_s (lt_s (lt_s (lt_s (lt_s (lt_s (lt_s (lt_s (lt_s (lt_s (lt_s (lt_s (lt_s (lt_s (lt_s (lt_s (lt_0) zck0) zck1) zck2) zck3) zck4) zck5) zck6) zck7) zck8) zck9) zck10) zck11) zck12) zck13) zck14) zck15) zck16) zck17) zck18) zck19) zck20) zck21) zck22) zck23) zck24) zck25) zck26) zck27) zck28) zck29) zck30) zck31) zck32) zck33) zck34) zck35) zck36) zck37) zck38) zck39) zck40) zck41) zck42) zck43) zck44) zck45) zck46) zck47) zck48) zck49) zck50) zck51) zck52) zck53) zck54) zck55) zck56) zck57) zck58) zck59) zck60) zck61) zck62) zck63) zck64) zck65) zck66) zck67) zck68) zck69) zck70) zck71) zck72) zck73) zck74) zck75) zck76) zck77) zck78) zck79) zck80) zck81) zck82) zck83) zck84) zck85) zck86) zck87) zck88) zck89) zck90) zck91) zck92) zck93) zck94) zck95) zck96) zck97) zck98) zck99) zck100) zck101) zck102) zck103) zck104) zck105) zck106) zck107) zck108) zck109) zck110) zck111) zck112) zck113) zck114) zck115) zck116) zck117) zck118) zck119) zck120) zck121) zck122) zck123) zck124) zck125) zck126) zck127) zck128) zck129) zck130) zck131) zck132) zck133) zck134) zck135) zck136) zck137) zck138) zck139) zck140) zck141) zck142) zck143
end
section
/-! ===== the pure machine: values, states, steps ===== -/
abbrev zV : Type := Int ⊕ (Nat ⊕ (UInt32 ⊕ UInt64))
abbrev vi (x : Int) : zV := .inl x
abbrev vr (r : Nat) : zV := .inr (.inl r)
abbrev vf (x : UInt32) : zV := .inr (.inr (.inl x))
abbrev vd (x : UInt64) : zV := .inr (.inr (.inr x))
abbrev zL : Type := List (Nat × zV)
abbrev zI : Type := Nat → Int → Int
abbrev zP : Type := Nat → Int → Nat
abbrev zD : Type := Nat → Int → UInt64
abbrev zS : Type := zI × (zP × (zD × Nat))
abbrev zr (x : Int) : Prop := -2147483648 ≤ x ∧ x ≤ 2147483647
def zup (I : zI) (r : Nat) (k v : Int) : zI := fun r' k' => if r' = r ∧ k' = k then v else I r' k'
def zupP (I : zP) (r : Nat) (k : Int) (v : Nat) : zP := fun r' k' => if r' = r ∧ k' = k then v else I r' k'
def zupD (I : zD) (r : Nat) (k : Int) (v : UInt64) : zD := fun r' k' => if r' = r ∧ k' = k then v else I r' k'
/-- what each object is: the number of its class, or 10 (ints), 11 (chars), 12 (booleans), 13 (doubles), 14 (charts); how many places -/
def zshp : List (Nat × Nat) := [(99, 0), (7, 4), (1, 13), (0, 1), (10, 24), (0, 1), (10, 24), (0, 1), (10, 24), (5, 3), (0, 1), (10, 4), (0, 1), (10, 4), (4, 5), (0, 1), (10, 96), (0, 1), (10, 96), (0, 1), (10, 96), (0, 1), (10, 96), (0, 1), (10, 168), (3, 2), (14, 4), (1, 13), (0, 1), (10, 24), (0, 1), (10, 24), (0, 1), (10, 24), (5, 3), (0, 1), (10, 4), (0, 1), (10, 4), (4, 5), (0, 1), (10, 96), (0, 1), (10, 96), (0, 1), (10, 96), (0, 1), (10, 96), (0, 1), (10, 168), (1, 13), (0, 1), (10, 24), (0, 1), (10, 24), (0, 1), (10, 24), (5, 3), (0, 1), (10, 4), (0, 1), (10, 4), (4, 5), (0, 1), (10, 96), (0, 1), (10, 96), (0, 1), (10, 96), (0, 1), (10, 96), (0, 1), (10, 168), (1, 13), (0, 1), (10, 24), (0, 1), (10, 24), (0, 1), (10, 24), (5, 3), (0, 1), (10, 4), (0, 1), (10, 4), (4, 5), (0, 1), (10, 96), (0, 1), (10, 96), (0, 1), (10, 96), (0, 1), (10, 96), (0, 1), (10, 168), (1, 13), (0, 1), (10, 24), (0, 1), (10, 24), (0, 1), (10, 24), (5, 3), (0, 1), (10, 4), (0, 1), (10, 4), (4, 5), (0, 1), (10, 96), (0, 1), (10, 96), (0, 1), (10, 96), (0, 1), (10, 96), (0, 1), (10, 168), (2, 7), (0, 1), (10, 4), (0, 1), (10, 4), (13, 4), (0, 1), (10, 9), (0, 1), (10, 9), (6, 9), (5, 3), (0, 1), (10, 4), (0, 1), (10, 4), (0, 1), (10, 80), (8, 17), (10, 585), (10, 2340), (11, 80), (10, 9), (12, 9), (10, 4), (10, 4), (13, 4), (10, 24)]
def zsh (r : Nat) : Nat × Nat := zshp.getD r (99, 0)
def zob (r k c : Nat) : Bool := Nat.beq (zsh r).1 k && Nat.blt r c
def zcat : zV → Nat
  | .inr (.inr (.inr _)) => 2
  | _ => 1
def zlk (k : Nat) : zL → Option zV
  | [] => none
  | q :: t => bif Nat.beq q.1 k then some q.2 else zlk k t
def zset1 (k : Nat) (v : zV) (L : zL) : zL := (k, v) :: L.filter (fun q => !(q.1 == k) && !(q.1 + 1 == k && zcat q.2 == 2))
def zset2 (k : Nat) (v : zV) (L : zL) : zL := (k, v) :: L.filter (fun q => !(q.1 == k) && (!(q.1 == k + 1) && !(q.1 + 1 == k && zcat q.2 == 2)))
def zargs : Nat → List zV → zL
  | _, [] => []
  | i, v :: vs => (i, v) :: zargs (if zcat v = 2 then i + 2 else i + 1) vs
def zcats (st : List zV) : Nat := (st.map zcat).sum
abbrev zfresh (σ : zS) : Prop := ∀ j, σ.1 σ.2.2.2 j = 0 ∧ σ.2.1 σ.2.2.2 j = 0 ∧ σ.2.2.1 σ.2.2.2 j = 0
def zkind : ArrayType → Nat
  | .int => 10 | .char => 11 | .boolean => 12 | .double => 13 | _ => 99
abbrev zNx : Type := Option (Option Prop × (Nat × (zL × (List zV × zS))))
def zldc (own idx : Nat) : Option zV := match zkl_int.find? (fun q => Nat.beq q.1 own && Nat.beq q.2.1 idx) with
  | some q => some (vi q.2.2.1)
  | none => match zkl_flt.find? (fun q => Nat.beq q.1 own && Nat.beq q.2.1 idx) with
    | some q => some (vf q.2.2.1)
    | none => none
/-- one step of an instruction that is no branch on values, call or return: what must hold (if anything), and the next frame and state -/
def zx (y : Nat) (i : Instr) (len a b pc : Nat) (L : zL) (st : List zV) (σ : zS) : zNx := match i with
  | .aload_n k => match zlk k.val L with
    | some (.inr (.inl r)) => some (none, pc + 1, L, vr r :: st, σ)
    | _ => none
  | .iload_n k => match zlk k.val L with
    | some (.inl x) => some (none, pc + 1, L, vi x :: st, σ)
    | _ => none
  | .iload k => match zlk k L with
    | some (.inl x) => some (none, pc + 2, L, vi x :: st, σ)
    | _ => none
  | .fload_n k => match zlk k.val L with
    | some (.inr (.inr (.inl x))) => some (none, pc + 1, L, vf x :: st, σ)
    | _ => none
  | .dload_n k => match zlk k.val L with
    | some (.inr (.inr (.inr x))) => some (none, pc + 1, L, vd x :: st, σ)
    | _ => none
  | .dload k => match zlk k L with
    | some (.inr (.inr (.inr x))) => some (none, pc + 2, L, vd x :: st, σ)
    | _ => none
  | .istore_n k => match st with
    | .inl x :: r => some (none, pc + 1, zset1 k.val (vi x) L, r, σ)
    | _ => none
  | .istore k => match st with
    | .inl x :: r => some (none, pc + 2, zset1 k (vi x) L, r, σ)
    | _ => none
  | .astore_n k => match st with
    | .inr (.inl x) :: r => some (none, pc + 1, zset1 k.val (vr x) L, r, σ)
    | _ => none
  | .fstore_n k => match st with
    | .inr (.inr (.inl x)) :: r => some (none, pc + 1, zset1 k.val (vf x) L, r, σ)
    | _ => none
  | .dstore k => match st with
    | .inr (.inr (.inr x)) :: r => some (none, pc + 2, zset2 k (vd x) L, r, σ)
    | _ => none
  | .iinc k n => match zlk k L with
    | some (.inl x) => some (some (zr (x + n)), pc + 3, zset1 k (vi (x + n)) L, st, σ)
    | _ => none
  | .iconst n => some (none, pc + 1, L, vi n :: st, σ)
  | .bipush n => some (none, pc + 2, L, vi n :: st, σ)
  | .sipush n => some (none, pc + 3, L, vi n :: st, σ)
  | .fconst k => match k with
    | 0 => some (none, pc + 1, L, vf FP.fconst0 :: st, σ)
    | 1 => some (none, pc + 1, L, vf FP.fconst1 :: st, σ)
    | 2 => some (none, pc + 1, L, vf FP.fconst2 :: st, σ)
  | .dconst k => match k with
    | 0 => some (none, pc + 1, L, vd FP.dconst0 :: st, σ)
    | 1 => none
  | .ldc idx => match zldc (zown y) idx with
    | some v => some (none, pc + 2, L, v :: st, σ)
    | none => none
  | .ldc_w idx => match zldc (zown y) idx with
    | some (.inl x) => some (none, pc + 3, L, vi x :: st, σ)
    | _ => none
  | .iadd => match st with
    | .inl q :: .inl p :: r => some (some (zr (p + q)), pc + 1, L, vi (p + q) :: r, σ)
    | _ => none
  | .isub => match st with
    | .inl q :: .inl p :: r => some (some (zr (p - q)), pc + 1, L, vi (p - q) :: r, σ)
    | _ => none
  | .imul => match st with
    | .inl q :: .inl p :: r => some (some (zr (p * q)), pc + 1, L, vi (p * q) :: r, σ)
    | _ => none
  | .idiv => match st with
    | .inl q :: .inl p :: r => some (some (0 ≤ p ∧ 0 < q), pc + 1, L, vi (p / q) :: r, σ)
    | _ => none
  | .ishl => match st with
    | .inl q :: .inl p :: r => some (none, pc + 1, L, vi (Int32.ofInt p <<< (Int32.ofInt q &&& 31)).toInt :: r, σ)
    | _ => none
  | .ishr => match st with
    | .inl q :: .inl p :: r => some (none, pc + 1, L, vi (Int32.ofInt p >>> (Int32.ofInt q &&& 31)).toInt :: r, σ)
    | _ => none
  | .iushr => match st with
    | .inl q :: .inl p :: r => some (none, pc + 1, L, vi ((Int32.ofInt p).toUInt32 >>> ((Int32.ofInt q).toUInt32 &&& Int32.toUInt32 31)).toInt32.toInt :: r, σ)
    | _ => none
  | .ior => match st with
    | .inl q :: .inl p :: r => some (none, pc + 1, L, vi (Int32.ofInt p ||| Int32.ofInt q).toInt :: r, σ)
    | _ => none
  | .iand => match st with
    | .inl q :: .inl p :: r => some (none, pc + 1, L, vi (Int32.ofInt p &&& Int32.ofInt q).toInt :: r, σ)
    | _ => none
  | .i2c => match st with
    | .inl p :: r => some (some (0 ≤ p ∧ p ≤ 65535), pc + 1, L, vi p :: r, σ)
    | _ => none
  | .i2d => match st with
    | .inl p :: r => some (none, pc + 1, L, vd (FP.i2d (Int32.ofInt p)) :: r, σ)
    | _ => none
  | .d2f => match st with
    | .inr (.inr (.inr p)) :: r => some (some (vf_n32 (FP.d2f p)), pc + 1, L, vf (FP.d2f p) :: r, σ)
    | _ => none
  | .ddiv => match st with
    | .inr (.inr (.inr q)) :: .inr (.inr (.inr p)) :: r => some (some (vf_n64 (FP.ddiv p q)), pc + 1, L, vd (FP.ddiv p q) :: r, σ)
    | _ => none
  | .dmul => match st with
    | .inr (.inr (.inr q)) :: .inr (.inr (.inr p)) :: r => some (some (vf_n64 (FP.dmul p q)), pc + 1, L, vd (FP.dmul p q) :: r, σ)
    | _ => none
  | .dsub => match st with
    | .inr (.inr (.inr q)) :: .inr (.inr (.inr p)) :: r => some (some (vf_n64 (FP.dsub p q)), pc + 1, L, vd (FP.dsub p q) :: r, σ)
    | _ => none
  | .fdiv => match st with
    | .inr (.inr (.inl q)) :: .inr (.inr (.inl p)) :: r => some (some (vf_n32 (FP.fdiv p q)), pc + 1, L, vf (FP.fdiv p q) :: r, σ)
    | _ => none
  | .fmul => match st with
    | .inr (.inr (.inl q)) :: .inr (.inr (.inl p)) :: r => some (some (vf_n32 (FP.fmul p q)), pc + 1, L, vf (FP.fmul p q) :: r, σ)
    | _ => none
  | .fsub => match st with
    | .inr (.inr (.inl q)) :: .inr (.inr (.inl p)) :: r => some (some (vf_n32 (FP.fsub p q)), pc + 1, L, vf (FP.fsub p q) :: r, σ)
    | _ => none
  | .fneg => match st with
    | .inr (.inr (.inl p)) :: r => some (none, pc + 1, L, vf (FP.fneg p) :: r, σ)
    | _ => none
  | .f2i => match st with
    | .inr (.inr (.inl p)) :: r => some (none, pc + 1, L, vi (FP.f2i p).toInt :: r, σ)
    | _ => none
  | .fcmp op => match st with
    | .inr (.inr (.inl q)) :: .inr (.inr (.inl p)) :: r => some (none, pc + 1, L, vi (Op.cmpValue (FP.fcmp p q) op).toInt :: r, σ)
    | _ => none
  | .dcmp op => match st with
    | .inr (.inr (.inr q)) :: .inr (.inr (.inr p)) :: r => some (none, pc + 1, L, vi (Op.cmpValue (FP.dcmp p q) op).toInt :: r, σ)
    | _ => none
  | .dup => match st with
    | v :: r => bif Nat.beq (zcat v) 1 then some (none, pc + 1, L, v :: v :: r, σ) else none
    | _ => none
  | .dup2 => match st with
    | v :: w :: r => bif Nat.beq (zcat v) 1 && Nat.beq (zcat w) 1 then some (none, pc + 1, L, v :: w :: v :: w :: r, σ) else none
    | _ => none
  | .pop => match st with
    | v :: r => bif Nat.beq (zcat v) 1 then some (none, pc + 1, L, r, σ) else none
    | _ => none
  | .goto _ => some (none, a, L, st, σ)
  | .ifnull _ => match st with
    | .inr (.inl q) :: r => match q with
      | 0 => some (none, a, L, r, σ)
      | _ + 1 => some (none, pc + 3, L, r, σ)
    | _ => none
  | .ifnonnull _ => match st with
    | .inr (.inl q) :: r => match q with
      | 0 => some (none, pc + 3, L, r, σ)
      | _ + 1 => some (none, a, L, r, σ)
    | _ => none
  | .aconst_null => some (none, pc + 1, L, vr 0 :: st, σ)
  | .getfield _ => match st with
    | .inr (.inl q) :: r => bif zob q a σ.2.2.2 then some (none, pc + 3, L, (bif zfr a b then vr (σ.2.1 q b) else vi (σ.1 q b)) :: r, σ) else none
    | _ => none
  | .putfield _ => match st with
    | .inl x :: .inr (.inl q) :: r => bif zob q a σ.2.2.2 && !zfr a b && !(zT a b).2.2.2 then some (none, pc + 3, L, r, (zup σ.1 q b x, σ.2)) else none
    | .inr (.inl x) :: .inr (.inl q) :: r => bif zob q a σ.2.2.2 && zfr a b && (zT a b).2.2.2 && zini y && Nat.beq (zown y) a then some (none, pc + 3, L, r, (σ.1, zupP σ.2.1 q b x, σ.2.2)) else none
    | _ => none
  | .arraylength => match st with
    | .inr (.inl q) :: r => bif Nat.beq q 1000 && Nat.beq y zlaw then some (none, pc + 1, L, vi (σ.1 1000 (-1)) :: r, σ) else bif Nat.ble 10 (zsh q).1 && Nat.ble (zsh q).1 14 && Nat.blt q σ.2.2.2 then some (none, pc + 1, L, vi ((zsh q).2 : Nat) :: r, σ) else none
    | _ => none
  | .iaload => match st with
    | .inl j :: .inr (.inl q) :: r => bif Nat.beq q 1000 && Nat.beq y zlaw then some (some (0 ≤ j ∧ j < σ.1 1000 (-1)), pc + 1, L, vi (σ.1 1000 j) :: r, σ) else bif zob q 10 σ.2.2.2 then some (some (0 ≤ j ∧ j < ((zsh q).2 : Nat)), pc + 1, L, vi (σ.1 q j) :: r, σ) else none
    | _ => none
  | .baload => match st with
    | .inl j :: .inr (.inl q) :: r => bif zob q 12 σ.2.2.2 then some (some (0 ≤ j ∧ j < ((zsh q).2 : Nat)), pc + 1, L, vi (σ.1 q j) :: r, σ) else none
    | _ => none
  | .caload => match st with
    | .inl j :: .inr (.inl q) :: r => bif zob q 11 σ.2.2.2 then some (some (0 ≤ j ∧ j < ((zsh q).2 : Nat)), pc + 1, L, vi (σ.1 q j) :: r, σ) else none
    | _ => none
  | .daload => match st with
    | .inl j :: .inr (.inl q) :: r => bif zob q 13 σ.2.2.2 then some (some (0 ≤ j ∧ j < ((zsh q).2 : Nat)), pc + 1, L, vd (σ.2.2.1 q j) :: r, σ) else none
    | _ => none
  | .aaload => match st with
    | .inl j :: .inr (.inl q) :: r => bif zob q 14 σ.2.2.2 then some (some (0 ≤ j ∧ j < ((zsh q).2 : Nat)), pc + 1, L, vr (σ.2.1 q j) :: r, σ) else none
    | _ => none
  | .iastore => match st with
    | .inl x :: .inl j :: .inr (.inl q) :: r => bif zob q 10 σ.2.2.2 then some (some (0 ≤ j ∧ j < ((zsh q).2 : Nat)), pc + 1, L, r, (zup σ.1 q j x, σ.2)) else none
    | _ => none
  | .bastore => match st with
    | .inl x :: .inl j :: .inr (.inl q) :: r => bif zob q 12 σ.2.2.2 then some (some ((0 ≤ j ∧ j < ((zsh q).2 : Nat)) ∧ (x = 0 ∨ x = 1)), pc + 1, L, r, (zup σ.1 q j x, σ.2)) else none
    | _ => none
  | .castore => match st with
    | .inl x :: .inl j :: .inr (.inl q) :: r => bif zob q 11 σ.2.2.2 then some (some ((0 ≤ j ∧ j < ((zsh q).2 : Nat)) ∧ (0 ≤ x ∧ x ≤ 65535)), pc + 1, L, r, (zup σ.1 q j x, σ.2)) else none
    | _ => none
  | .dastore => match st with
    | .inr (.inr (.inr x)) :: .inl j :: .inr (.inl q) :: r => bif zob q 13 σ.2.2.2 then some (some (0 ≤ j ∧ j < ((zsh q).2 : Nat)), pc + 1, L, r, (σ.1, σ.2.1, zupD σ.2.2.1 q j x, σ.2.2.2)) else none
    | _ => none
  | .aastore => match st with
    | .inr (.inl x) :: .inl j :: .inr (.inl q) :: r => bif zob q 14 σ.2.2.2 then some (some ((0 ≤ j ∧ j < ((zsh q).2 : Nat)) ∧ zob x 1 σ.2.2.2 = true), pc + 1, L, r, (σ.1, zupP σ.2.1 q j x, σ.2.2)) else none
    | _ => none
  | .newarray t => match st with
    | .inl n :: r => bif Nat.beq (zsh σ.2.2.2).1 (zkind t) && Nat.ble (zkind t) 13 then some (some (n = ((zsh σ.2.2.2).2 : Nat) ∧ zfresh σ), pc + 2, L, vr σ.2.2.2 :: r, (σ.1, σ.2.1, σ.2.2.1, σ.2.2.2 + 1)) else none
    | _ => none
  | .anewarray _ => match st with
    | .inl n :: r => bif Nat.beq (zsh σ.2.2.2).1 14 then some (some (n = ((zsh σ.2.2.2).2 : Nat) ∧ zfresh σ), pc + 3, L, vr σ.2.2.2 :: r, (σ.1, σ.2.1, σ.2.2.1, σ.2.2.2 + 1)) else none
    | _ => none
  | .new _ => bif Nat.beq (zsh σ.2.2.2).1 a && Nat.beq (zsh σ.2.2.2).2 (znf a) then some (some (zfresh σ), pc + 3, L, vr σ.2.2.2 :: st, (σ.1, σ.2.1, σ.2.2.1, σ.2.2.2 + 1)) else none
  | .invokespecial _ => match st with
    | .inr (.inl q) :: r => bif Nat.beq a 1002 && Nat.blt 0 q && Nat.ble (zcats r) 8 then some (none, pc + 3, L, r, σ) else none
    | _ => none
  | .invokestatic _ => bif Nat.beq a 1000 then (match st with
      | .inl n :: .inl dp :: .inr (.inl q1) :: .inl sp :: .inr (.inl q0) :: r => bif zob q0 10 σ.2.2.2 && zob q1 10 σ.2.2.2 && Nat.ble (zcats r) 8 then some (some (0 ≤ sp ∧ 0 ≤ dp ∧ 0 ≤ n ∧ sp + n ≤ ((zsh q0).2 : Nat) ∧ dp + n ≤ ((zsh q1).2 : Nat)), pc + 3, L, r, (fun r' k => if r' = q1 ∧ dp ≤ k ∧ k < dp + n then σ.1 q0 (sp + (k - dp)) else σ.1 r' k, σ.2)) else none
      | _ => none) else bif Nat.beq a 1001 then (match st with
      | .inr (.inr (.inl x)) :: r => bif Nat.ble (zcats r) 8 then some (none, pc + 3, L, vi x.toInt32.toInt :: r, σ) else none
      | _ => none) else none
  | .tableswitch d lo hi offs => match st with
    | .inl x :: r => some (none, (if x < lo ∨ hi < x then pc + d.toNat else pc + (offs.toList.getD (x - lo).toNat d).toNat), L, r, σ)
    | _ => none
  | .lookupswitch d ps => match st with
    | .inl x :: r => some (none, pc + (Op.lookupswitch.offset ps.toList d x).toNat, L, r, σ)
    | _ => none
  | _ => none
def zst (y pc : Nat) (L : zL) (st : List zV) (σ : zS) : zNx := match zi y pc with
  | some (i, len, a, b) => zx y i len a b pc L st σ
  | none => none
/-- a branch on values: the condition, where to, where else, the stack behind it -/
def zcd (c : Jvm.ClassFile.Cond) (p q : Int) : Prop := match c with
  | .eq => p = q | .ne => ¬ p = q | .lt => p < q | .ge => q ≤ p | .gt => q < p | .le => p ≤ q
def zbr (y pc : Nat) (st : List zV) : Option (Prop × (Nat × (Nat × List zV))) := match zi y pc with
  | some (.ifCond c _, _, a, _) => match st with
    | .inl p :: r => some (zcd c p 0, a, pc + 3, r)
    | _ => none
  | some (.if_icmp c _, _, a, _) => match st with
    | .inl q :: .inl p :: r => some (zcd c p q, a, pc + 3, r)
    | _ => none
  | _ => none
/-- a call: the method, its arguments, the rest of the stack, what must hold of the receiver -/
def zcl (y pc : Nat) (st : List zV) (σ : zS) : Option (Nat × (List zV × List zV)) := match zi y pc with
  | some (.invokevirtual _, _, a, b) => match st.drop b with
    | .inr (.inl q) :: r => bif zob q (zown a) σ.2.2.2 && Nat.ble (zcats r) 8 && Nat.beq (st.take b).length b && Nat.ble (1 + zcats (st.take b)) (zml a) then some (a, vr q :: (st.take b).reverse, r) else none
    | _ => none
  | some (.invokestatic _, _, a, b) => bif Nat.blt a 1000 && Nat.ble (zcats (st.drop b)) 8 && Nat.beq (st.take b).length b && Nat.ble (zcats (st.take b)) (zml a) then some (a, (st.take b).reverse, st.drop b) else none
  | some (.invokespecial _, _, a, b) => match st.drop b with
    | .inr (.inl q) :: r => bif Nat.blt a 1000 && zob q (zown a) σ.2.2.2 && Nat.ble (zcats r) 8 && Nat.beq (st.take b).length b && Nat.ble (1 + zcats (st.take b)) (zml a) then some (a, vr q :: (st.take b).reverse, r) else none
    | _ => none
  | _ => none
/-- a return -/
def zre (y pc : Nat) (st : List zV) : Option (Option zV) := match zi y pc with
  | some (.ireturn, _) => match st with
    | [.inl x] => match zrt y with
      | some .int => some (some (vi x))
      | some .boolean => bif decide (x = 0) || decide (x = 1) then some (some (vi x)) else none
      | _ => none
    | _ => none
  | some (.dreturn, _) => match st with
    | [.inr (.inr (.inr x))] => match zrt y with
      | some .double => some (some (vd x))
      | _ => none
    | _ => none
  | some (.areturn, _) => match st with
    | [.inr (.inl x)] => match zrt y with
      | some (.object _) => some (some (vr x))
      | _ => none
    | _ => none
  | some (.return_, _) => match st with
    | [] => match zrt y with
      | none => some none
      | _ => none
    | _ => none
  | _ => none
/-- states that differ in nothing that is there -/
def zeq (σ τ : zS) : Prop := σ.2.2.2 = τ.2.2.2 ∧ (∀ j, τ.1 1000 j = σ.1 1000 j) ∧ ∀ r, r < σ.2.2.2 → ∀ j : Nat, j < (zsh r).2 → τ.1 r j = σ.1 r j ∧ τ.2.1 r j = σ.2.1 r j ∧ τ.2.2.1 r j = σ.2.2.1 r j
abbrev zRel : Type := Nat → Nat → zL → List zV → zS → Option zV → zS → Prop
def zCl (X : zRel) : Prop :=
  (∀ y pc L st σ g pc1 L1 st1 σ1 r τ, zst y pc L st σ = some (g, pc1, L1, st1, σ1) → (∀ P, g = some P → P) → X y pc1 L1 st1 σ1 r τ → X y pc L st σ r τ) ∧
  (∀ y pc L st σ c t f st1 r τ, zbr y pc st = some (c, t, f, st1) → (c → X y t L st1 σ r τ) → (¬ c → X y f L st1 σ r τ) → X y pc L st σ r τ) ∧
  (∀ y pc L st σ a As rest v σ1 r τ, zcl y pc st σ = some (a, As, rest) → X a 0 (zargs 0 As) [] σ v σ1 → X y (pc + 3) L (v.toList ++ rest) σ1 r τ → X y pc L st σ r τ) ∧
  (∀ y pc L st σ r, zre y pc st = some r → X y pc L st σ r σ) ∧
  (∀ y pc L L1 st σ r τ, (∀ q ∈ L1, q ∈ L) → X y pc L1 st σ r τ → X y pc L st σ r τ) ∧
  (∀ y pc L st σ σ1 r τ, zeq σ σ1 → X y pc L st σ1 r τ → X y pc L st σ r τ)
/-- from this frame and state the method comes to its end with this answer and state -/
def zRuns (y pc : Nat) (L : zL) (st : List zV) (σ : zS) (r : Option zV) (τ : zS) : Prop := ∀ X : zRel, zCl X → X y pc L st σ r τ
/-- a method at its start -/
abbrev zMet (y : Nat) (As : List zV) (σ : zS) (r : Option zV) (τ : zS) : Prop := zRuns y 0 (zargs 0 As) [] σ r τ
end
section
/-! ===== the pure machine against the machine ===== -/
def zvr : zV → Prop
  | .inl x => zr x
  | _ => True
def zad (base b r : Nat) : Nat := if r = 1000 then b else base + (r - 1)
def zrf (base b r : Nat) : Option Nat := if r = 0 then none else some (zad base b r)
def zcv (base b : Nat) : zV → Value
  | .inl x => .int (Int32.ofInt x)
  | .inr (.inl r) => va_rf (zrf base b r)
  | .inr (.inr (.inl f)) => .float f
  | .inr (.inr (.inr d)) => .double d
abbrev zcq (base b : Nat) (q : Nat × zV) : Nat × Value := (q.1, zcv base b q.2)
def zfv (base b : Nat) (σ : zS) (r ci k : Nat) : Value := bif zfr ci k then va_rf (zrf base b (σ.2.1 r k)) else .int (Int32.ofInt (σ.1 r k))
def zE (cA : Nat → ClassId) (base b : Nat) (σ : zS) (r : Nat) : va_E :=
  if (zsh r).1 < 9 then .inr ((zsh r).1, (List.range (zsh r).2).map (zfv base b σ r (zsh r).1))
  else if (zsh r).1 = 13 then .inl (cA 13, ((zsh r).2, .inr (.inr (.inr (.inl (fun j => σ.2.2.1 r j))))))
  else if (zsh r).1 = 14 then .inl (cA 14, ((zsh r).2, .inr (.inr (.inr (.inr (fun j => zrf base b (σ.2.1 r j)))))))
  else .inl (cA (zsh r).1, ((zsh r).2, .inl (fun j => Int32.ofInt (σ.1 r j))))
def zws (cA : Nat → ClassId) (base b : Nat) (σ : zS) : va_W := (List.range (σ.2.2.2 - 1)).map (fun k => (base + k, zE cA base b σ (k + 1)))
def ztys (cA : Nat → ClassId) : List (ClassId × FieldType) := [(cA 10, .int), (cA 11, .char), (cA 12, .boolean), (cA 13, .double), (cA 14, .object RX1)]
def zsz (c : Nat) : Nat := ((List.range c).map (fun r => (zsh r).2)).sum
def lw_good : List Cond := lw_tbl.filter goodWord
/-- the words that a caller hands on itself -/
def zisn : Cond → Bool
  | .methodLinkNest _ _ _ _ => true
  | .arrayOver _ => true
  | _ => false
/-- the numbers that are there are ints -/
def zRg (σ : zS) : Prop := ∀ r, r < σ.2.2.2 → ∀ j : Nat, j < (zsh r).2 → zr (σ.1 r j)
def zH (cA : Nat → ClassId) (D : va_G) (base b Lx : Nat) (xs : Nat → Int32) (s : State) (σ : zS) (H : Heap) (locs : List Loc) (cells : Nat) : Prop :=
  1 ≤ σ.2.2.2 ∧ H.size = base + (σ.2.2.2 - 1) ∧ va_P D vwCl (zws cA base b σ) H ∧ zRg σ ∧ (σ.1 1000 (-1) = Lx ∧ ∀ j : Nat, j < Lx → σ.1 1000 j = (xs j).toInt) ∧ va_S (fun q => base ≤ q) s.heap H locs ∧ s.heap.size + cells = base + (σ.2.2.2 - 1)
/-- what stays the same through a method's body -/
def zCx (p : Program) (R : Room) (s : State) (m : MethodId) (args : Array Value) (meth : Method) (c : Code) (cA : Nat → ClassId) (D : va_G) (base b Lx : Nat) (xs : Nat → Int32) (y : Nat) : Prop :=
  p.tables.exec = Jvm.exec ∧ c.code = zb y ∧ c.maxLocals = zml y ∧ s.vm.findClass (zR (zown y)) = some m.cls ∧ (∀ w ∈ lw_good, w.before args s = true) ∧ (zini y = true → meth.name = "<init>") ∧ va_K D vwCl (ztys cA) s ∧ zrank y ≤ R.frames ∧ zneed y ≤ R.locals ∧ (∀ w ∈ lw_tbl, zisn w = true → va_Nw w s) ∧ y < zN ∧ Lx ≤ 2048 ∧ (y = zlaw → b < base ∧ va_X b Lx xs s s.heap) ∧ base ≤ s.heap.size
theorem zcat_cv {base b : Nat} (v : zV) : (zcv base b v).category = zcat v := by
  rcases v with x | r | f | d
  · rfl
  · show (va_rf (zrf base b r)).category = 1
    cases zrf base b r <;> rfl
  · rfl
  · rfl
theorem zcv_0 {base b : Nat} : zcv base b (vr 0) = .null := rfl
theorem zcv_r {base b r : Nat} (h : r ≠ 0) : zcv base b (vr r) = .ref (zad base b r) := by
  show va_rf (zrf base b r) = _
  rw [zrf, if_neg h]; rfl
theorem zset1_map {base b k : Nat} {v : zV} {L : zL} : (k, zcv base b v) :: (L.map (zcq base b)).filter (fun q => !(q.1 == k) && !(q.1 + 1 == k && q.2.category == 2)) = (zset1 k v L).map (zcq base b) := by
  simp [zset1, List.filter_map, Function.comp_def, zcat_cv]
theorem zset2_map {base b k : Nat} {v : zV} {L : zL} : (k, zcv base b v) :: (L.map (zcq base b)).filter (fun q => !(q.1 == k) && (!(q.1 == k + 1) && !(q.1 + 1 == k && q.2.category == 2))) = (zset2 k v L).map (zcq base b) := by
  simp [zset2, List.filter_map, Function.comp_def, zcat_cv]
theorem zset1_r {k : Nat} {v : zV} {L : zL} (h : ∀ q ∈ L, zvr q.2) (hv : zvr v) : ∀ q ∈ zset1 k v L, zvr q.2 := by
  intro q hq
  rcases List.mem_cons.mp hq with rfl | hq
  · exact hv
  · exact h q ((List.mem_filter.mp hq).1)
theorem zset2_r {k : Nat} {v : zV} {L : zL} (h : ∀ q ∈ L, zvr q.2) (hv : zvr v) : ∀ q ∈ zset2 k v L, zvr q.2 := by
  intro q hq
  rcases List.mem_cons.mp hq with rfl | hq
  · exact hv
  · exact h q ((List.mem_filter.mp hq).1)
theorem zlk_mem {k : Nat} {v : zV} : ∀ {L : zL}, zlk k L = some v → (k, v) ∈ L
  | [], h => by simp [zlk] at h
  | q :: t, h => by
    unfold zlk at h
    by_cases hq : q.1 = k
    · subst hq
      simp at h
      subst h
      exact List.mem_cons_self
    · have : Nat.beq q.1 k = false := by
        cases hb : Nat.beq q.1 k with
        | false => rfl
        | true => exact absurd (Nat.eq_of_beq_eq_true hb) hq
      rw [this] at h
      exact List.mem_cons_of_mem _ (zlk_mem h)
theorem zlk_lv {ls : Array Slot} {n base b k : Nat} {v : zV} {L : zL} (hl : lv_has ls n (L.map (zcq base b))) (h : zlk k L = some v) : ls[k]? = some (.val (zcv base b v)) := hl.2.2 (k, zcv base b v) (List.mem_map.mpr ⟨(k, v), zlk_mem h, rfl⟩)
theorem zws_get {cA : Nat → ClassId} {base b r : Nat} {σ : zS} (h1 : 1 ≤ r) (h2 : r < σ.2.2.2) : (zws cA base b σ)[r - 1]? = some (base + (r - 1), zE cA base b σ r) := by
  rw [zws, List.getElem?_map, List.getElem?_range (by omega)]
  simp only [Option.map_some]
  rw [show r - 1 + 1 = r by omega]
theorem zws_at {cA : Nat → ClassId} {base b k : Nat} {σ : zS} {q : Nat × va_E} (h : (zws cA base b σ)[k]? = some q) : k < σ.2.2.2 - 1 ∧ q = (base + k, zE cA base b σ (k + 1)) := by
  have hl := (List.getElem?_eq_some_iff.mp h).1
  have hk : k < σ.2.2.2 - 1 := by simpa [zws] using hl
  rw [zws, List.getElem?_map, List.getElem?_range hk] at h
  exact ⟨hk, (Option.some.inj h).symm⟩
theorem zws_len {cA : Nat → ClassId} {base b : Nat} {σ : zS} : (zws cA base b σ).length = σ.2.2.2 - 1 := by simp [zws]
theorem zws_D {cA : Nat → ClassId} {base b : Nat} {σ : zS} : va_D (fun q => base ≤ q) (zws cA base b σ) := by
  refine ⟨fun i j p q hi hj he => ?_, fun k q h => ?_⟩
  · obtain ⟨-, rfl⟩ := zws_at hi
    obtain ⟨-, rfl⟩ := zws_at hj
    have : base + i = base + j := he
    omega
  · obtain ⟨-, rfl⟩ := zws_at h
    exact Nat.le_add_right _ _
theorem zE_congr {cA : Nat → ClassId} {base b r : Nat} {σ τ : zS} (h1 : σ.1 r = τ.1 r) (h2 : σ.2.1 r = τ.2.1 r) (h3 : σ.2.2.1 r = τ.2.2.1 r) : zE cA base b σ r = zE cA base b τ r := by
  unfold zE zfv
  rw [h1, h2, h3]
theorem zws_set {cA : Nat → ClassId} {base b r : Nat} {σ τ : zS} {E : va_E} (h1 : 1 ≤ r) (h2 : r < σ.2.2.2) (hc : τ.2.2.2 = σ.2.2.2) (hE : zE cA base b τ r = E) (ho : ∀ q, q ≠ r → zE cA base b τ q = zE cA base b σ q) : (zws cA base b σ).set (r - 1) (base + (r - 1), E) = zws cA base b τ := by
  apply List.ext_getElem?
  intro k
  by_cases hk : k = r - 1
  · subst hk
    rw [List.getElem?_set_self (by rw [zws_len]; omega), zws_get h1 (by rw [hc]; exact h2), hE]
  · rw [List.getElem?_set_ne (Ne.symm hk)]
    by_cases hl : k < σ.2.2.2 - 1
    · rw [zws, List.getElem?_map, List.getElem?_range hl, zws, List.getElem?_map, List.getElem?_range (by rw [hc]; exact hl)]
      simp only [Option.map_some]
      rw [ho (k + 1) (by omega)]
    · rw [List.getElem?_eq_none (by rw [zws_len]; omega), List.getElem?_eq_none (by rw [zws_len, hc]; omega)]
theorem zws_push {cA : Nat → ClassId} {base b : Nat} {σ τ : zS} {E : va_E} (h1 : 1 ≤ σ.2.2.2) (hc : τ.2.2.2 = σ.2.2.2 + 1) (hE : zE cA base b τ σ.2.2.2 = E) (ho : ∀ q, q ≠ σ.2.2.2 → zE cA base b τ q = zE cA base b σ q) : zws cA base b σ ++ [(base + (σ.2.2.2 - 1), E)] = zws cA base b τ := by
  have e : τ.2.2.2 - 1 = (σ.2.2.2 - 1) + 1 := by omega
  rw [zws, zws, e, List.range_succ, List.map_append]
  congr 1
  · apply List.map_congr_left
    intro k hk
    rw [List.mem_range] at hk
    rw [ho (k + 1) (by omega)]
  · simp only [List.map_cons, List.map_nil]
    rw [show σ.2.2.2 - 1 + 1 = σ.2.2.2 by omega, hE]
theorem zob_spec {r k c : Nat} (h : zob r k c = true) (hk : k ≠ 99) : (zsh r).1 = k ∧ r < c ∧ 1 ≤ r ∧ r ≠ 1000 := by
  unfold zob at h
  simp only [Bool.and_eq_true] at h
  have h1 := Nat.eq_of_beq_eq_true h.1
  have h2 : r < c := by simpa using h.2
  refine ⟨h1, h2, ?_, ?_⟩
  · rcases Nat.eq_zero_or_pos r with rfl | h
    · exact absurd h1.symm (by simpa [zsh, zshp] using hk)
    · exact h
  · rintro rfl
    exact hk h1.symm
theorem zad_of {base b r : Nat} (h : r ≠ 1000) : zad base b r = base + (r - 1) := by rw [zad, if_neg h]
theorem zcv_o {base b r : Nat} (h : 1 ≤ r) (h2 : r ≠ 1000) : zcv base b (vr r) = .ref (base + (r - 1)) := by rw [zcv_r (by omega), zad_of h2]
theorem zr_of (x : Int32) : zr x.toInt := by
  have h1 := x.toInt_lt
  have h2 := x.le_toInt
  exact ⟨by omega, by omega⟩
theorem zti {x : Int} (h : zr x) : (Int32.ofInt x).toInt = x := Int32.toInt_ofInt_of_le (by have := h.1; omega) (by have := h.2; omega)
theorem zit (x : Int32) : Int32.ofInt x.toInt = x := Int32.ofInt_toInt x
theorem z_lt {x y : Int} (hx : zr x) (hy : zr y) : Int32.ofInt x < Int32.ofInt y ↔ x < y := by rw [Int32.lt_iff_toInt_lt, zti hx, zti hy]
theorem z_le {x y : Int} (hx : zr x) (hy : zr y) : Int32.ofInt x ≤ Int32.ofInt y ↔ x ≤ y := by rw [Int32.le_iff_toInt_le, zti hx, zti hy]
theorem z_eq {x y : Int} (hx : zr x) (hy : zr y) : Int32.ofInt x = Int32.ofInt y ↔ x = y := ⟨fun h => by rw [← zti hx, ← zti hy, h], fun h => by rw [h]⟩
theorem z_in {j : Int} {n : Nat} (h0 : 0 ≤ j) (h1 : j < n) (hn : n < 2147483648) : vp_in (Int32.ofInt j) n ∧ (Int32.ofInt j).toNatClampNeg = j.toNat := by
  obtain ⟨k, rfl⟩ : ∃ k : Nat, j = k := ⟨j.toNat, by omega⟩
  have hk : k < n := by omega
  have e : Int32.ofInt (k : Int) = nI k := rfl
  rw [e]
  exact ⟨vp_in_nI hk (by omega), by rw [nI_clamp (by omega)]; rfl⟩
theorem zsh_le : ∀ r, (zsh r).2 ≤ 2340 := by
  intro r
  rw [zsh, List.getD_eq_getElem?_getD]
  cases h : zshp[r]? with
  | none => simp
  | some q =>
    have : ∀ q ∈ zshp, q.2 ≤ 2340 := by decide +kernel
    simpa using this q (List.mem_of_getElem? h)
theorem zrg_at {σ : zS} {q : Nat} {j : Int} (h : zRg σ) (hq : q < σ.2.2.2) (h0 : 0 ≤ j) (h1 : j < ((zsh q).2 : Nat)) : zr (σ.1 q j) := by
  obtain ⟨k, rfl⟩ : ∃ k : Nat, j = k := ⟨j.toNat, by omega⟩
  exact h q hq k (by omega)
theorem zgood {w : Cond} (h : w ∈ lw_tbl) (hg : goodWord w = true) : w ∈ lw_good := List.mem_filter.mpr ⟨h, hg⟩
theorem zgi {w : Cond} {i : Nat} (h : lw_tbl[i]? = some w) (hg : goodWord w = true) : w ∈ lw_good := zgood (List.mem_of_getElem? h) hg
theorem zsz_s (c : Nat) : zsz (c + 1) = zsz c + (zsh c).2 := by
  simp [zsz, List.range_succ]
theorem zsz_mono {c d : Nat} (h : c ≤ d) : zsz c ≤ zsz d := by
  induction d with
  | zero => rw [Nat.le_zero.mp h]; exact Nat.le_refl _
  | succ d ih =>
    rcases Nat.lt_or_eq_of_le h with h1 | h1
    · rw [zsz_s]
      exact Nat.le_trans (ih (by omega)) (Nat.le_add_right _ _)
    · rw [h1]; exact Nat.le_refl _
theorem zlay : ∀ c, c < 9 → ∀ w ∈ u_ws (zR c) (zT c) (znf c), w ∈ lw_tbl
  | 0, _ => fun w hw => by
    have hw : w ∈ u_ws RX0 TX0 1 := hw
    rw [zlay0] at hw
    obtain ⟨i, -, hi⟩ := List.mem_filterMap.mp hw
    exact List.mem_of_getElem? hi
  | 1, _ => fun w hw => by
    have hw : w ∈ u_ws RX1 TX1 13 := hw
    rw [zlay1] at hw
    obtain ⟨i, -, hi⟩ := List.mem_filterMap.mp hw
    exact List.mem_of_getElem? hi
  | 2, _ => fun w hw => by
    have hw : w ∈ u_ws RX2 TX2 7 := hw
    rw [zlay2] at hw
    obtain ⟨i, -, hi⟩ := List.mem_filterMap.mp hw
    exact List.mem_of_getElem? hi
  | 3, _ => fun w hw => by
    have hw : w ∈ u_ws RX3 TX3 2 := hw
    rw [zlay3] at hw
    obtain ⟨i, -, hi⟩ := List.mem_filterMap.mp hw
    exact List.mem_of_getElem? hi
  | 4, _ => fun w hw => by
    have hw : w ∈ u_ws RX4 TX4 5 := hw
    rw [zlay4] at hw
    obtain ⟨i, -, hi⟩ := List.mem_filterMap.mp hw
    exact List.mem_of_getElem? hi
  | 5, _ => fun w hw => by
    have hw : w ∈ u_ws RX5 TX5 3 := hw
    rw [zlay5] at hw
    obtain ⟨i, -, hi⟩ := List.mem_filterMap.mp hw
    exact List.mem_of_getElem? hi
  | 6, _ => fun w hw => by
    have hw : w ∈ u_ws RX6 TX6 9 := hw
    rw [zlay6] at hw
    obtain ⟨i, -, hi⟩ := List.mem_filterMap.mp hw
    exact List.mem_of_getElem? hi
  | 7, _ => fun w hw => by
    have hw : w ∈ u_ws RX7 TX7 4 := hw
    rw [zlay7] at hw
    obtain ⟨i, -, hi⟩ := List.mem_filterMap.mp hw
    exact List.mem_of_getElem? hi
  | 8, _ => fun w hw => by
    have hw : w ∈ u_ws RX8 TX8 17 := hw
    rw [zlay8] at hw
    obtain ⟨i, -, hi⟩ := List.mem_filterMap.mp hw
    exact List.mem_of_getElem? hi
  | n + 9, h => absurd h (by omega)
theorem zuw : ∀ c, c < 9 → ∀ w ∈ u_ws (zR c) (zT c) (znf c), w ∈ lw_good := fun c hc w hw => zgood (zlay c hc w hw) (by
  obtain ⟨k, -, rfl⟩ := List.mem_map.mp hw
  unfold u_lay
  split <;> rfl)
theorem zvw : ∀ c, c < 9 → vwCl[c]? = some (zR c, zT c, znf c)
  | 0, _ => rfl
  | 1, _ => rfl
  | 2, _ => rfl
  | 3, _ => rfl
  | 4, _ => rfl
  | 5, _ => rfl
  | 6, _ => rfl
  | 7, _ => rfl
  | 8, _ => rfl
  | n + 9, h => absurd h (by omega)
theorem zty_ok : ∀ c, c < 9 → ∀ k, k < znf c → parseFieldDescriptor (zT c k).2.2.1 = some (zty c k)
  | 0, _ => tyX0_ok
  | 1, _ => tyX1_ok
  | 2, _ => tyX2_ok
  | 3, _ => tyX3_ok
  | 4, _ => tyX4_ok
  | 5, _ => tyX5_ok
  | 6, _ => tyX6_ok
  | 7, _ => tyX7_ok
  | 8, _ => tyX8_ok
  | n + 9, h => absurd h (by omega)
theorem znm : ∀ c, c < 9 → ∀ a, a < znf c → ∀ b, b < znf c → a ≠ b → (zT c a).2.1 ≠ (zT c b).2.1
  | 0, _ => nmX0
  | 1, _ => nmX1
  | 2, _ => nmX2
  | 3, _ => nmX3
  | 4, _ => nmX4
  | 5, _ => nmX5
  | 6, _ => nmX6
  | 7, _ => nmX7
  | 8, _ => nmX8
  | n + 9, h => absurd h (by omega)
theorem ztf : ∀ c, c < 9 → ∀ k, k < znf c → (zfr c k = false → zty c k = .int) ∧ (zfr c k = true → (∃ C, zty c k = .object C) ∨ ∃ t, zty c k = .array t) := by
  intro c hc k hk
  have h : (List.range 9).all (fun c => (List.range (znf c)).all (fun k => match zfr c k, zty c k with | false, .int => true | true, .object _ => true | true, .array _ => true | _, _ => false)) = true := by decide +kernel
  have h1 := List.all_eq_true.mp h c (List.mem_range.mpr hc)
  have h2 := List.all_eq_true.mp h1 k (List.mem_range.mpr hk)
  revert h2
  cases zfr c k <;> cases zty c k <;> simp
theorem zshn : ∀ r, (zsh r).1 < 9 → (zsh r).2 = znf (zsh r).1 := by
  intro r hr
  by_cases h : r < 147
  · have h0 : (List.range 147).all (fun r => decide ((zsh r).1 < 9 → (zsh r).2 = znf (zsh r).1)) = true := by decide +kernel
    have h1 := List.all_eq_true.mp h0 r (List.mem_range.mpr h)
    exact (decide_eq_true_eq.mp h1) hr
  · have : zsh r = (99, 0) := by
      rw [zsh, List.getD_eq_getElem?_getD, List.getElem?_eq_none (by show 147 ≤ r; omega)]; rfl
    rw [this] at hr
    exact absurd hr (by decide)
end
section
abbrev zW (p : Program) (l : Launch) (e : Env) (R : Room) (s : State) (m : MethodId) (args : Array Value) (below : List Frame) (meth : Method) (c : Code) (base b : Nat) (H : Heap) (locs : List Loc) (cells slots : Nat) (Q : State → Prop) (pc : Nat) (ls : Array Slot) (st : List zV) : Prop :=
  W p l e R s m args below meth c H locs cells slots Q (F0 m pc ls (st.map (zcv base b)))
/-- what comes behind a step -/
abbrev zK (p : Program) (l : Launch) (e : Env) (R : Room) (s : State) (m : MethodId) (args : Array Value) (below : List Frame) (meth : Method) (c : Code) (cA : Nat → ClassId) (D : va_G) (base b Lx : Nat) (xs : Nat → Int32) (y : Nat) (cells slots : Nat) (Q : State → Prop) (σ : zS) (pc1 : Nat) (L1 : zL) (st1 : List zV) (σ1 : zS) : Prop :=
  ∀ (ls1 : Array Slot) (H1 : Heap) (locs1 : List Loc), zH cA D base b Lx xs s σ1 H1 locs1 (cells + (σ1.2.2.2 - σ.2.2.2)) → (∀ q ∈ L1, zvr q.2) → (∀ v ∈ st1, zvr v) → lv_has ls1 (zml y) (L1.map (zcq base b)) → zW p l e R s m args below meth c base b H1 locs1 (cells + (σ1.2.2.2 - σ.2.2.2)) (slots + (zsz σ1.2.2.2 - zsz σ.2.2.2)) Q pc1 ls1 st1
theorem zk0 {p : Program} {l : Launch} {e : Env} {R : Room} {s : State} {m : MethodId} {args : Array Value} {below : List Frame} {meth : Method} {c : Code} {cA : Nat → ClassId} {D : va_G} {base b Lx : Nat} {xs : Nat → Int32} {y : Nat} {H : Heap} {locs : List Loc} {cells slots : Nat} {Q : State → Prop} {ls : Array Slot} {σ : zS} {pc1 : Nat} {L1 : zL} {st1 : List zV} (kk : zK p l e R s m args below meth c cA D base b Lx xs y cells slots Q σ pc1 L1 st1 σ) (hH : zH cA D base b Lx xs s σ H locs cells) (hL : ∀ q ∈ L1, zvr q.2) (hS : ∀ v ∈ st1, zvr v) (hl : lv_has ls (zml y) (L1.map (zcq base b))) : zW p l e R s m args below meth c base b H locs cells slots Q pc1 ls st1 := by
  have h := kk ls H locs (by simpa only [Nat.sub_self, Nat.add_zero] using hH) hL hS hl
  simpa only [Nat.sub_self, Nat.add_zero] using h
theorem zkc {p : Program} {l : Launch} {e : Env} {R : Room} {s : State} {m : MethodId} {args : Array Value} {below : List Frame} {meth : Method} {c : Code} {cA : Nat → ClassId} {D : va_G} {base b Lx : Nat} {xs : Nat → Int32} {y : Nat} {H : Heap} {locs : List Loc} {cells slots : Nat} {Q : State → Prop} {ls : Array Slot} {σ σ1 : zS} {pc1 : Nat} {L1 : zL} {st1 : List zV} (kk : zK p l e R s m args below meth c cA D base b Lx xs y cells slots Q σ pc1 L1 st1 σ1) (hc : σ1.2.2.2 = σ.2.2.2) (hH : zH cA D base b Lx xs s σ1 H locs cells) (hL : ∀ q ∈ L1, zvr q.2) (hS : ∀ v ∈ st1, zvr v) (hl : lv_has ls (zml y) (L1.map (zcq base b))) : zW p l e R s m args below meth c base b H locs cells slots Q pc1 ls st1 := by
  have h := kk ls H locs (by rw [hc]; simpa only [Nat.sub_self, Nat.add_zero] using hH) hL hS hl
  rw [hc] at h
  simpa only [Nat.sub_self, Nat.add_zero] using h
theorem zcons {P : zV → Prop} {v : zV} {r : List zV} (hv : P v) (hr : ∀ w ∈ r, P w) : ∀ w ∈ v :: r, P w := fun w h => (List.mem_cons.mp h).elim (fun e => e ▸ hv) (hr w)
theorem zct {P : zV → Prop} {v : zV} {r : List zV} (h : ∀ w ∈ v :: r, P w) : ∀ w ∈ r, P w := fun w hw => h w (List.mem_cons_of_mem _ hw)
theorem zch {P : zV → Prop} {v : zV} {r : List zV} (h : ∀ w ∈ v :: r, P w) : P v := h v List.mem_cons_self
theorem zlen {pc n len : Nat} {bs : ByteArray} {i : Instr} (hd : decode bs pc = .ok (i, len)) (h : Nat.beq len n = true) : decode bs pc = .ok (i, n) := by
  rw [← Nat.eq_of_beq_eq_true h]; exact hd
set_option maxHeartbeats 1000000 in
theorem zs_iload_n {p : Program} {l : Launch} {e : Env} {R : Room} {s : State} {m : MethodId} {args : Array Value} {below : List Frame} {meth : Method} {c : Code} {cA : Nat → ClassId} {D : va_G} {base b Lx : Nat} {xs : Nat → Int32} {y : Nat} {H : Heap} {locs : List Loc} {cells slots : Nat} {Q : State → Prop} {ls : Array Slot} {pc len ia ib pc1 : Nat} {L L1 : zL} {st st1 : List zV} {σ σ1 : zS} {g : Option Prop} {k : Fin 4} (C : zCx p R s m args meth c cA D base b Lx xs y) (hH : zH cA D base b Lx xs s σ H locs cells) (hL : ∀ q ∈ L, zvr q.2) (hS : ∀ v ∈ st, zvr v) (hl : lv_has ls (zml y) (L.map (zcq base b))) (hd : decode (zb y) pc = .ok (.iload_n k, len)) (ha : zaux y pc (.iload_n k) len ia ib = true) (h : zx y (.iload_n k) len ia ib pc L st σ = some (g, pc1, L1, st1, σ1)) (hg : ∀ P, g = some P → P) (hrc : cells + (σ1.2.2.2 - σ.2.2.2) ≤ R.cells) (hrs : slots + (zsz σ1.2.2.2 - zsz σ.2.2.2) ≤ R.slots)
    (kk : zK p l e R s m args below meth c cA D base b Lx xs y cells slots Q σ pc1 L1 st1 σ1) : zW p l e R s m args below meth c base b H locs cells slots Q pc ls st := by
  simp only [zx] at h
  split at h
  · next v hv =>
    simp only [Option.some.injEq, Prod.mk.injEq] at h
    obtain ⟨rfl, rfl, rfl, rfl, rfl⟩ := h
    have hq := zlk_lv hl hv
    refine lv_iload_n C.1 C.2.1 (zlen hd ha) rfl hq ?_
    exact zk0 kk hH hL (zcons (hL _ (zlk_mem hv)) hS) hl
  · cases h
set_option maxHeartbeats 1000000 in
theorem zs_iload {p : Program} {l : Launch} {e : Env} {R : Room} {s : State} {m : MethodId} {args : Array Value} {below : List Frame} {meth : Method} {c : Code} {cA : Nat → ClassId} {D : va_G} {base b Lx : Nat} {xs : Nat → Int32} {y : Nat} {H : Heap} {locs : List Loc} {cells slots : Nat} {Q : State → Prop} {ls : Array Slot} {pc len ia ib pc1 : Nat} {L L1 : zL} {st st1 : List zV} {σ σ1 : zS} {g : Option Prop} {k : Nat} (C : zCx p R s m args meth c cA D base b Lx xs y) (hH : zH cA D base b Lx xs s σ H locs cells) (hL : ∀ q ∈ L, zvr q.2) (hS : ∀ v ∈ st, zvr v) (hl : lv_has ls (zml y) (L.map (zcq base b))) (hd : decode (zb y) pc = .ok (.iload k, len)) (ha : zaux y pc (.iload k) len ia ib = true) (h : zx y (.iload k) len ia ib pc L st σ = some (g, pc1, L1, st1, σ1)) (hg : ∀ P, g = some P → P) (hrc : cells + (σ1.2.2.2 - σ.2.2.2) ≤ R.cells) (hrs : slots + (zsz σ1.2.2.2 - zsz σ.2.2.2) ≤ R.slots)
    (kk : zK p l e R s m args below meth c cA D base b Lx xs y cells slots Q σ pc1 L1 st1 σ1) : zW p l e R s m args below meth c base b H locs cells slots Q pc ls st := by
  simp only [zx] at h
  split at h
  · next v hv =>
    simp only [Option.some.injEq, Prod.mk.injEq] at h
    obtain ⟨rfl, rfl, rfl, rfl, rfl⟩ := h
    have hq := zlk_lv hl hv
    refine lv_iload C.1 C.2.1 (zlen hd ha)  hq ?_
    exact zk0 kk hH hL (zcons (hL _ (zlk_mem hv)) hS) hl
  · cases h
set_option maxHeartbeats 1000000 in
theorem zs_fload_n {p : Program} {l : Launch} {e : Env} {R : Room} {s : State} {m : MethodId} {args : Array Value} {below : List Frame} {meth : Method} {c : Code} {cA : Nat → ClassId} {D : va_G} {base b Lx : Nat} {xs : Nat → Int32} {y : Nat} {H : Heap} {locs : List Loc} {cells slots : Nat} {Q : State → Prop} {ls : Array Slot} {pc len ia ib pc1 : Nat} {L L1 : zL} {st st1 : List zV} {σ σ1 : zS} {g : Option Prop} {k : Fin 4} (C : zCx p R s m args meth c cA D base b Lx xs y) (hH : zH cA D base b Lx xs s σ H locs cells) (hL : ∀ q ∈ L, zvr q.2) (hS : ∀ v ∈ st, zvr v) (hl : lv_has ls (zml y) (L.map (zcq base b))) (hd : decode (zb y) pc = .ok (.fload_n k, len)) (ha : zaux y pc (.fload_n k) len ia ib = true) (h : zx y (.fload_n k) len ia ib pc L st σ = some (g, pc1, L1, st1, σ1)) (hg : ∀ P, g = some P → P) (hrc : cells + (σ1.2.2.2 - σ.2.2.2) ≤ R.cells) (hrs : slots + (zsz σ1.2.2.2 - zsz σ.2.2.2) ≤ R.slots)
    (kk : zK p l e R s m args below meth c cA D base b Lx xs y cells slots Q σ pc1 L1 st1 σ1) : zW p l e R s m args below meth c base b H locs cells slots Q pc ls st := by
  simp only [zx] at h
  split at h
  · next v hv =>
    simp only [Option.some.injEq, Prod.mk.injEq] at h
    obtain ⟨rfl, rfl, rfl, rfl, rfl⟩ := h
    have hq := zlk_lv hl hv
    refine lv_fload_n C.1 C.2.1 (zlen hd ha) rfl hq ?_
    exact zk0 kk hH hL (zcons (hL _ (zlk_mem hv)) hS) hl
  · cases h
set_option maxHeartbeats 1000000 in
theorem zs_dload_n {p : Program} {l : Launch} {e : Env} {R : Room} {s : State} {m : MethodId} {args : Array Value} {below : List Frame} {meth : Method} {c : Code} {cA : Nat → ClassId} {D : va_G} {base b Lx : Nat} {xs : Nat → Int32} {y : Nat} {H : Heap} {locs : List Loc} {cells slots : Nat} {Q : State → Prop} {ls : Array Slot} {pc len ia ib pc1 : Nat} {L L1 : zL} {st st1 : List zV} {σ σ1 : zS} {g : Option Prop} {k : Fin 4} (C : zCx p R s m args meth c cA D base b Lx xs y) (hH : zH cA D base b Lx xs s σ H locs cells) (hL : ∀ q ∈ L, zvr q.2) (hS : ∀ v ∈ st, zvr v) (hl : lv_has ls (zml y) (L.map (zcq base b))) (hd : decode (zb y) pc = .ok (.dload_n k, len)) (ha : zaux y pc (.dload_n k) len ia ib = true) (h : zx y (.dload_n k) len ia ib pc L st σ = some (g, pc1, L1, st1, σ1)) (hg : ∀ P, g = some P → P) (hrc : cells + (σ1.2.2.2 - σ.2.2.2) ≤ R.cells) (hrs : slots + (zsz σ1.2.2.2 - zsz σ.2.2.2) ≤ R.slots)
    (kk : zK p l e R s m args below meth c cA D base b Lx xs y cells slots Q σ pc1 L1 st1 σ1) : zW p l e R s m args below meth c base b H locs cells slots Q pc ls st := by
  simp only [zx] at h
  split at h
  · next v hv =>
    simp only [Option.some.injEq, Prod.mk.injEq] at h
    obtain ⟨rfl, rfl, rfl, rfl, rfl⟩ := h
    have hq := zlk_lv hl hv
    refine lv_dload_n C.1 C.2.1 (zlen hd ha) rfl hq ?_
    exact zk0 kk hH hL (zcons (hL _ (zlk_mem hv)) hS) hl
  · cases h
set_option maxHeartbeats 1000000 in
theorem zs_dload {p : Program} {l : Launch} {e : Env} {R : Room} {s : State} {m : MethodId} {args : Array Value} {below : List Frame} {meth : Method} {c : Code} {cA : Nat → ClassId} {D : va_G} {base b Lx : Nat} {xs : Nat → Int32} {y : Nat} {H : Heap} {locs : List Loc} {cells slots : Nat} {Q : State → Prop} {ls : Array Slot} {pc len ia ib pc1 : Nat} {L L1 : zL} {st st1 : List zV} {σ σ1 : zS} {g : Option Prop} {k : Nat} (C : zCx p R s m args meth c cA D base b Lx xs y) (hH : zH cA D base b Lx xs s σ H locs cells) (hL : ∀ q ∈ L, zvr q.2) (hS : ∀ v ∈ st, zvr v) (hl : lv_has ls (zml y) (L.map (zcq base b))) (hd : decode (zb y) pc = .ok (.dload k, len)) (ha : zaux y pc (.dload k) len ia ib = true) (h : zx y (.dload k) len ia ib pc L st σ = some (g, pc1, L1, st1, σ1)) (hg : ∀ P, g = some P → P) (hrc : cells + (σ1.2.2.2 - σ.2.2.2) ≤ R.cells) (hrs : slots + (zsz σ1.2.2.2 - zsz σ.2.2.2) ≤ R.slots)
    (kk : zK p l e R s m args below meth c cA D base b Lx xs y cells slots Q σ pc1 L1 st1 σ1) : zW p l e R s m args below meth c base b H locs cells slots Q pc ls st := by
  simp only [zx] at h
  split at h
  · next v hv =>
    simp only [Option.some.injEq, Prod.mk.injEq] at h
    obtain ⟨rfl, rfl, rfl, rfl, rfl⟩ := h
    have hq := zlk_lv hl hv
    refine lv_dload C.1 C.2.1 (zlen hd ha)  hq ?_
    exact zk0 kk hH hL (zcons (hL _ (zlk_mem hv)) hS) hl
  · cases h
set_option maxHeartbeats 1000000 in
theorem zs_aload_n {p : Program} {l : Launch} {e : Env} {R : Room} {s : State} {m : MethodId} {args : Array Value} {below : List Frame} {meth : Method} {c : Code} {cA : Nat → ClassId} {D : va_G} {base b Lx : Nat} {xs : Nat → Int32} {y : Nat} {H : Heap} {locs : List Loc} {cells slots : Nat} {Q : State → Prop} {ls : Array Slot} {pc len ia ib pc1 : Nat} {L L1 : zL} {st st1 : List zV} {σ σ1 : zS} {g : Option Prop} {k : Fin 4} (C : zCx p R s m args meth c cA D base b Lx xs y) (hH : zH cA D base b Lx xs s σ H locs cells) (hL : ∀ q ∈ L, zvr q.2) (hS : ∀ v ∈ st, zvr v) (hl : lv_has ls (zml y) (L.map (zcq base b))) (hd : decode (zb y) pc = .ok (.aload_n k, len)) (ha : zaux y pc (.aload_n k) len ia ib = true) (h : zx y (.aload_n k) len ia ib pc L st σ = some (g, pc1, L1, st1, σ1)) (hg : ∀ P, g = some P → P) (hrc : cells + (σ1.2.2.2 - σ.2.2.2) ≤ R.cells) (hrs : slots + (zsz σ1.2.2.2 - zsz σ.2.2.2) ≤ R.slots)
    (kk : zK p l e R s m args below meth c cA D base b Lx xs y cells slots Q σ pc1 L1 st1 σ1) : zW p l e R s m args below meth c base b H locs cells slots Q pc ls st := by
  simp only [zx] at h
  split at h
  · next v hv =>
    simp only [Option.some.injEq, Prod.mk.injEq] at h
    obtain ⟨rfl, rfl, rfl, rfl, rfl⟩ := h
    have hq := zlk_lv hl hv
    have kk2 := zk0 kk hH hL (zcons (hL _ (zlk_mem hv)) hS) hl
    by_cases h0 : v = 0
    · subst h0
      exact lv_aload_nN C.1 C.2.1 (zlen hd ha) rfl hq kk2
    · rw [zcv_r h0] at hq
      simp only [zW, List.map_cons, zcv_r h0] at kk2
      exact lv_aload_n C.1 C.2.1 (zlen hd ha) rfl hq kk2
  · cases h
set_option maxHeartbeats 1000000 in
theorem zs_istore_n {p : Program} {l : Launch} {e : Env} {R : Room} {s : State} {m : MethodId} {args : Array Value} {below : List Frame} {meth : Method} {c : Code} {cA : Nat → ClassId} {D : va_G} {base b Lx : Nat} {xs : Nat → Int32} {y : Nat} {H : Heap} {locs : List Loc} {cells slots : Nat} {Q : State → Prop} {ls : Array Slot} {pc len ia ib pc1 : Nat} {L L1 : zL} {st st1 : List zV} {σ σ1 : zS} {g : Option Prop} {k : Fin 4} (C : zCx p R s m args meth c cA D base b Lx xs y) (hH : zH cA D base b Lx xs s σ H locs cells) (hL : ∀ q ∈ L, zvr q.2) (hS : ∀ v ∈ st, zvr v) (hl : lv_has ls (zml y) (L.map (zcq base b))) (hd : decode (zb y) pc = .ok (.istore_n k, len)) (ha : zaux y pc (.istore_n k) len ia ib = true) (h : zx y (.istore_n k) len ia ib pc L st σ = some (g, pc1, L1, st1, σ1)) (hg : ∀ P, g = some P → P) (hrc : cells + (σ1.2.2.2 - σ.2.2.2) ≤ R.cells) (hrs : slots + (zsz σ1.2.2.2 - zsz σ.2.2.2) ≤ R.slots)
    (kk : zK p l e R s m args below meth c cA D base b Lx xs y cells slots Q σ pc1 L1 st1 σ1) : zW p l e R s m args below meth c base b H locs cells slots Q pc ls st := by
  simp only [zx] at h
  split at h
  · next x r =>
    simp only [Option.some.injEq, Prod.mk.injEq] at h
    obtain ⟨rfl, rfl, rfl, rfl, rfl⟩ := h
    simp only [zaux, Bool.and_eq_true, decide_eq_true_eq] at ha
    refine lv_istore_n C.1 C.2.1 (zlen hd ha.1) rfl hl ha.2 (zset1_map (base := base) (b := b) (v := vi x)) (fun ls1 hl1 => ?_)
    exact zk0 kk hH (zset1_r hL (zch hS)) (zct hS) hl1
  · cases h
set_option maxHeartbeats 1000000 in
theorem zs_istore {p : Program} {l : Launch} {e : Env} {R : Room} {s : State} {m : MethodId} {args : Array Value} {below : List Frame} {meth : Method} {c : Code} {cA : Nat → ClassId} {D : va_G} {base b Lx : Nat} {xs : Nat → Int32} {y : Nat} {H : Heap} {locs : List Loc} {cells slots : Nat} {Q : State → Prop} {ls : Array Slot} {pc len ia ib pc1 : Nat} {L L1 : zL} {st st1 : List zV} {σ σ1 : zS} {g : Option Prop} {k : Nat} (C : zCx p R s m args meth c cA D base b Lx xs y) (hH : zH cA D base b Lx xs s σ H locs cells) (hL : ∀ q ∈ L, zvr q.2) (hS : ∀ v ∈ st, zvr v) (hl : lv_has ls (zml y) (L.map (zcq base b))) (hd : decode (zb y) pc = .ok (.istore k, len)) (ha : zaux y pc (.istore k) len ia ib = true) (h : zx y (.istore k) len ia ib pc L st σ = some (g, pc1, L1, st1, σ1)) (hg : ∀ P, g = some P → P) (hrc : cells + (σ1.2.2.2 - σ.2.2.2) ≤ R.cells) (hrs : slots + (zsz σ1.2.2.2 - zsz σ.2.2.2) ≤ R.slots)
    (kk : zK p l e R s m args below meth c cA D base b Lx xs y cells slots Q σ pc1 L1 st1 σ1) : zW p l e R s m args below meth c base b H locs cells slots Q pc ls st := by
  simp only [zx] at h
  split at h
  · next x r =>
    simp only [Option.some.injEq, Prod.mk.injEq] at h
    obtain ⟨rfl, rfl, rfl, rfl, rfl⟩ := h
    simp only [zaux, Bool.and_eq_true, decide_eq_true_eq] at ha
    refine lv_istore C.1 C.2.1 (zlen hd ha.1)  hl ha.2 (zset1_map (base := base) (b := b) (v := vi x)) (fun ls1 hl1 => ?_)
    exact zk0 kk hH (zset1_r hL (zch hS)) (zct hS) hl1
  · cases h
set_option maxHeartbeats 1000000 in
theorem zs_fstore_n {p : Program} {l : Launch} {e : Env} {R : Room} {s : State} {m : MethodId} {args : Array Value} {below : List Frame} {meth : Method} {c : Code} {cA : Nat → ClassId} {D : va_G} {base b Lx : Nat} {xs : Nat → Int32} {y : Nat} {H : Heap} {locs : List Loc} {cells slots : Nat} {Q : State → Prop} {ls : Array Slot} {pc len ia ib pc1 : Nat} {L L1 : zL} {st st1 : List zV} {σ σ1 : zS} {g : Option Prop} {k : Fin 4} (C : zCx p R s m args meth c cA D base b Lx xs y) (hH : zH cA D base b Lx xs s σ H locs cells) (hL : ∀ q ∈ L, zvr q.2) (hS : ∀ v ∈ st, zvr v) (hl : lv_has ls (zml y) (L.map (zcq base b))) (hd : decode (zb y) pc = .ok (.fstore_n k, len)) (ha : zaux y pc (.fstore_n k) len ia ib = true) (h : zx y (.fstore_n k) len ia ib pc L st σ = some (g, pc1, L1, st1, σ1)) (hg : ∀ P, g = some P → P) (hrc : cells + (σ1.2.2.2 - σ.2.2.2) ≤ R.cells) (hrs : slots + (zsz σ1.2.2.2 - zsz σ.2.2.2) ≤ R.slots)
    (kk : zK p l e R s m args below meth c cA D base b Lx xs y cells slots Q σ pc1 L1 st1 σ1) : zW p l e R s m args below meth c base b H locs cells slots Q pc ls st := by
  simp only [zx] at h
  split at h
  · next x r =>
    simp only [Option.some.injEq, Prod.mk.injEq] at h
    obtain ⟨rfl, rfl, rfl, rfl, rfl⟩ := h
    simp only [zaux, Bool.and_eq_true, decide_eq_true_eq] at ha
    refine lv_fstore_n C.1 C.2.1 (zlen hd ha.1) rfl hl ha.2 (zset1_map (base := base) (b := b) (v := vf x)) (fun ls1 hl1 => ?_)
    exact zk0 kk hH (zset1_r hL (zch hS)) (zct hS) hl1
  · cases h
set_option maxHeartbeats 1000000 in
theorem zs_dstore {p : Program} {l : Launch} {e : Env} {R : Room} {s : State} {m : MethodId} {args : Array Value} {below : List Frame} {meth : Method} {c : Code} {cA : Nat → ClassId} {D : va_G} {base b Lx : Nat} {xs : Nat → Int32} {y : Nat} {H : Heap} {locs : List Loc} {cells slots : Nat} {Q : State → Prop} {ls : Array Slot} {pc len ia ib pc1 : Nat} {L L1 : zL} {st st1 : List zV} {σ σ1 : zS} {g : Option Prop} {k : Nat} (C : zCx p R s m args meth c cA D base b Lx xs y) (hH : zH cA D base b Lx xs s σ H locs cells) (hL : ∀ q ∈ L, zvr q.2) (hS : ∀ v ∈ st, zvr v) (hl : lv_has ls (zml y) (L.map (zcq base b))) (hd : decode (zb y) pc = .ok (.dstore k, len)) (ha : zaux y pc (.dstore k) len ia ib = true) (h : zx y (.dstore k) len ia ib pc L st σ = some (g, pc1, L1, st1, σ1)) (hg : ∀ P, g = some P → P) (hrc : cells + (σ1.2.2.2 - σ.2.2.2) ≤ R.cells) (hrs : slots + (zsz σ1.2.2.2 - zsz σ.2.2.2) ≤ R.slots)
    (kk : zK p l e R s m args below meth c cA D base b Lx xs y cells slots Q σ pc1 L1 st1 σ1) : zW p l e R s m args below meth c base b H locs cells slots Q pc ls st := by
  simp only [zx] at h
  split at h
  · next x r =>
    simp only [Option.some.injEq, Prod.mk.injEq] at h
    obtain ⟨rfl, rfl, rfl, rfl, rfl⟩ := h
    simp only [zaux, Bool.and_eq_true, decide_eq_true_eq] at ha
    refine lv_dstore C.1 C.2.1 (zlen hd ha.1)  hl ha.2 (zset2_map (base := base) (b := b) (v := vd x)) (fun ls1 hl1 => ?_)
    exact zk0 kk hH (zset2_r hL (zch hS)) (zct hS) hl1
  · cases h
set_option maxHeartbeats 1000000 in
theorem zs_astore_n {p : Program} {l : Launch} {e : Env} {R : Room} {s : State} {m : MethodId} {args : Array Value} {below : List Frame} {meth : Method} {c : Code} {cA : Nat → ClassId} {D : va_G} {base b Lx : Nat} {xs : Nat → Int32} {y : Nat} {H : Heap} {locs : List Loc} {cells slots : Nat} {Q : State → Prop} {ls : Array Slot} {pc len ia ib pc1 : Nat} {L L1 : zL} {st st1 : List zV} {σ σ1 : zS} {g : Option Prop} {k : Fin 4} (C : zCx p R s m args meth c cA D base b Lx xs y) (hH : zH cA D base b Lx xs s σ H locs cells) (hL : ∀ q ∈ L, zvr q.2) (hS : ∀ v ∈ st, zvr v) (hl : lv_has ls (zml y) (L.map (zcq base b))) (hd : decode (zb y) pc = .ok (.astore_n k, len)) (ha : zaux y pc (.astore_n k) len ia ib = true) (h : zx y (.astore_n k) len ia ib pc L st σ = some (g, pc1, L1, st1, σ1)) (hg : ∀ P, g = some P → P) (hrc : cells + (σ1.2.2.2 - σ.2.2.2) ≤ R.cells) (hrs : slots + (zsz σ1.2.2.2 - zsz σ.2.2.2) ≤ R.slots)
    (kk : zK p l e R s m args below meth c cA D base b Lx xs y cells slots Q σ pc1 L1 st1 σ1) : zW p l e R s m args below meth c base b H locs cells slots Q pc ls st := by
  simp only [zx] at h
  split at h
  · next x r =>
    simp only [Option.some.injEq, Prod.mk.injEq] at h
    obtain ⟨rfl, rfl, rfl, rfl, rfl⟩ := h
    simp only [zaux, Bool.and_eq_true, decide_eq_true_eq] at ha
    by_cases h0 : x = 0
    · subst h0
      refine lv_astore_nN C.1 C.2.1 (zlen hd ha.1) rfl hl ha.2 (zset1_map (base := base) (b := b) (v := vr 0)) (fun ls1 hl1 => ?_)
      exact zk0 kk hH (zset1_r hL (zch hS)) (zct hS) hl1
    · have hm := zset1_map (base := base) (b := b) (k := k.val) (v := vr x) (L := L)
      simp only [zW, List.map_cons, zcv_r h0] at hm ⊢
      refine lv_astore_n C.1 C.2.1 (zlen hd ha.1) rfl hl ha.2 hm (fun ls1 hl1 => ?_)
      exact zk0 kk hH (zset1_r hL (zch hS)) (zct hS) hl1
  · cases h
set_option maxHeartbeats 1000000 in
theorem zs_iinc {p : Program} {l : Launch} {e : Env} {R : Room} {s : State} {m : MethodId} {args : Array Value} {below : List Frame} {meth : Method} {c : Code} {cA : Nat → ClassId} {D : va_G} {base b Lx : Nat} {xs : Nat → Int32} {y : Nat} {H : Heap} {locs : List Loc} {cells slots : Nat} {Q : State → Prop} {ls : Array Slot} {pc len ia ib pc1 : Nat} {L L1 : zL} {st st1 : List zV} {σ σ1 : zS} {g : Option Prop} {k : Nat} {n : Int} (C : zCx p R s m args meth c cA D base b Lx xs y) (hH : zH cA D base b Lx xs s σ H locs cells) (hL : ∀ q ∈ L, zvr q.2) (hS : ∀ v ∈ st, zvr v) (hl : lv_has ls (zml y) (L.map (zcq base b))) (hd : decode (zb y) pc = .ok (.iinc k n, len)) (ha : zaux y pc (.iinc k n) len ia ib = true) (h : zx y (.iinc k n) len ia ib pc L st σ = some (g, pc1, L1, st1, σ1)) (hg : ∀ P, g = some P → P) (hrc : cells + (σ1.2.2.2 - σ.2.2.2) ≤ R.cells) (hrs : slots + (zsz σ1.2.2.2 - zsz σ.2.2.2) ≤ R.slots)
    (kk : zK p l e R s m args below meth c cA D base b Lx xs y cells slots Q σ pc1 L1 st1 σ1) : zW p l e R s m args below meth c base b H locs cells slots Q pc ls st := by
  simp only [zx] at h
  split at h
  · next x hv =>
    simp only [Option.some.injEq, Prod.mk.injEq] at h
    obtain ⟨rfl, rfl, rfl, rfl, rfl⟩ := h
    simp only [zaux, Bool.and_eq_true, decide_eq_true_eq] at ha
    have hm : (k, Value.int (Int32.ofInt x)) ∈ L.map (zcq base b) := List.mem_map.mpr ⟨(k, vi x), zlk_mem hv, rfl⟩
    obtain ⟨i, hi⟩ := List.getElem?_of_mem hm
    refine lv_iinc (k := i) C.1 C.2.1 (zlen hd ha.1) hl hi (v := Int32.ofInt (x + n)) (Int32.ofInt_add x n).symm ha.2 (zset1_map (base := base) (b := b) (v := vi (x + n))) (fun ls1 hl1 => ?_)
    exact zk0 kk hH (zset1_r hL (hg _ rfl)) hS hl1
  · cases h
set_option maxHeartbeats 1000000 in
theorem zs_iconst {p : Program} {l : Launch} {e : Env} {R : Room} {s : State} {m : MethodId} {args : Array Value} {below : List Frame} {meth : Method} {c : Code} {cA : Nat → ClassId} {D : va_G} {base b Lx : Nat} {xs : Nat → Int32} {y : Nat} {H : Heap} {locs : List Loc} {cells slots : Nat} {Q : State → Prop} {ls : Array Slot} {pc len ia ib pc1 : Nat} {L L1 : zL} {st st1 : List zV} {σ σ1 : zS} {g : Option Prop} {n : Int} (C : zCx p R s m args meth c cA D base b Lx xs y) (hH : zH cA D base b Lx xs s σ H locs cells) (hL : ∀ q ∈ L, zvr q.2) (hS : ∀ v ∈ st, zvr v) (hl : lv_has ls (zml y) (L.map (zcq base b))) (hd : decode (zb y) pc = .ok (.iconst n, len)) (ha : zaux y pc (.iconst n) len ia ib = true) (h : zx y (.iconst n) len ia ib pc L st σ = some (g, pc1, L1, st1, σ1)) (hg : ∀ P, g = some P → P) (hrc : cells + (σ1.2.2.2 - σ.2.2.2) ≤ R.cells) (hrs : slots + (zsz σ1.2.2.2 - zsz σ.2.2.2) ≤ R.slots)
    (kk : zK p l e R s m args below meth c cA D base b Lx xs y cells slots Q σ pc1 L1 st1 σ1) : zW p l e R s m args below meth c base b H locs cells slots Q pc ls st := by
  simp only [zx] at h
  simp only [Option.some.injEq, Prod.mk.injEq] at h
  obtain ⟨rfl, rfl, rfl, rfl, rfl⟩ := h
  simp only [zaux, Bool.and_eq_true, decide_eq_true_eq] at ha
  refine lv_iconst C.1 C.2.1 (zlen hd ha.1) (v := Int32.ofInt n) rfl ?_
  exact zk0 kk hH hL (zcons ha.2 hS) hl
set_option maxHeartbeats 1000000 in
theorem zs_bipush {p : Program} {l : Launch} {e : Env} {R : Room} {s : State} {m : MethodId} {args : Array Value} {below : List Frame} {meth : Method} {c : Code} {cA : Nat → ClassId} {D : va_G} {base b Lx : Nat} {xs : Nat → Int32} {y : Nat} {H : Heap} {locs : List Loc} {cells slots : Nat} {Q : State → Prop} {ls : Array Slot} {pc len ia ib pc1 : Nat} {L L1 : zL} {st st1 : List zV} {σ σ1 : zS} {g : Option Prop} {n : Int} (C : zCx p R s m args meth c cA D base b Lx xs y) (hH : zH cA D base b Lx xs s σ H locs cells) (hL : ∀ q ∈ L, zvr q.2) (hS : ∀ v ∈ st, zvr v) (hl : lv_has ls (zml y) (L.map (zcq base b))) (hd : decode (zb y) pc = .ok (.bipush n, len)) (ha : zaux y pc (.bipush n) len ia ib = true) (h : zx y (.bipush n) len ia ib pc L st σ = some (g, pc1, L1, st1, σ1)) (hg : ∀ P, g = some P → P) (hrc : cells + (σ1.2.2.2 - σ.2.2.2) ≤ R.cells) (hrs : slots + (zsz σ1.2.2.2 - zsz σ.2.2.2) ≤ R.slots)
    (kk : zK p l e R s m args below meth c cA D base b Lx xs y cells slots Q σ pc1 L1 st1 σ1) : zW p l e R s m args below meth c base b H locs cells slots Q pc ls st := by
  simp only [zx] at h
  simp only [Option.some.injEq, Prod.mk.injEq] at h
  obtain ⟨rfl, rfl, rfl, rfl, rfl⟩ := h
  simp only [zaux, Bool.and_eq_true, decide_eq_true_eq] at ha
  refine lv_bipush C.1 C.2.1 (zlen hd ha.1.1) (v := Int32.ofInt n) ha.1.2 ?_
  exact zk0 kk hH hL (zcons ha.2 hS) hl
set_option maxHeartbeats 1000000 in
theorem zs_sipush {p : Program} {l : Launch} {e : Env} {R : Room} {s : State} {m : MethodId} {args : Array Value} {below : List Frame} {meth : Method} {c : Code} {cA : Nat → ClassId} {D : va_G} {base b Lx : Nat} {xs : Nat → Int32} {y : Nat} {H : Heap} {locs : List Loc} {cells slots : Nat} {Q : State → Prop} {ls : Array Slot} {pc len ia ib pc1 : Nat} {L L1 : zL} {st st1 : List zV} {σ σ1 : zS} {g : Option Prop} {n : Int} (C : zCx p R s m args meth c cA D base b Lx xs y) (hH : zH cA D base b Lx xs s σ H locs cells) (hL : ∀ q ∈ L, zvr q.2) (hS : ∀ v ∈ st, zvr v) (hl : lv_has ls (zml y) (L.map (zcq base b))) (hd : decode (zb y) pc = .ok (.sipush n, len)) (ha : zaux y pc (.sipush n) len ia ib = true) (h : zx y (.sipush n) len ia ib pc L st σ = some (g, pc1, L1, st1, σ1)) (hg : ∀ P, g = some P → P) (hrc : cells + (σ1.2.2.2 - σ.2.2.2) ≤ R.cells) (hrs : slots + (zsz σ1.2.2.2 - zsz σ.2.2.2) ≤ R.slots)
    (kk : zK p l e R s m args below meth c cA D base b Lx xs y cells slots Q σ pc1 L1 st1 σ1) : zW p l e R s m args below meth c base b H locs cells slots Q pc ls st := by
  simp only [zx] at h
  simp only [Option.some.injEq, Prod.mk.injEq] at h
  obtain ⟨rfl, rfl, rfl, rfl, rfl⟩ := h
  simp only [zaux, Bool.and_eq_true, decide_eq_true_eq] at ha
  refine lv_sipush C.1 C.2.1 (zlen hd ha.1.1) (v := Int32.ofInt n) ha.1.2 ?_
  exact zk0 kk hH hL (zcons ha.2 hS) hl
set_option maxHeartbeats 1000000 in
theorem zs_fconst {p : Program} {l : Launch} {e : Env} {R : Room} {s : State} {m : MethodId} {args : Array Value} {below : List Frame} {meth : Method} {c : Code} {cA : Nat → ClassId} {D : va_G} {base b Lx : Nat} {xs : Nat → Int32} {y : Nat} {H : Heap} {locs : List Loc} {cells slots : Nat} {Q : State → Prop} {ls : Array Slot} {pc len ia ib pc1 : Nat} {L L1 : zL} {st st1 : List zV} {σ σ1 : zS} {g : Option Prop} {k : Fin 3} (C : zCx p R s m args meth c cA D base b Lx xs y) (hH : zH cA D base b Lx xs s σ H locs cells) (hL : ∀ q ∈ L, zvr q.2) (hS : ∀ v ∈ st, zvr v) (hl : lv_has ls (zml y) (L.map (zcq base b))) (hd : decode (zb y) pc = .ok (.fconst k, len)) (ha : zaux y pc (.fconst k) len ia ib = true) (h : zx y (.fconst k) len ia ib pc L st σ = some (g, pc1, L1, st1, σ1)) (hg : ∀ P, g = some P → P) (hrc : cells + (σ1.2.2.2 - σ.2.2.2) ≤ R.cells) (hrs : slots + (zsz σ1.2.2.2 - zsz σ.2.2.2) ≤ R.slots)
    (kk : zK p l e R s m args below meth c cA D base b Lx xs y cells slots Q σ pc1 L1 st1 σ1) : zW p l e R s m args below meth c base b H locs cells slots Q pc ls st := by
  simp only [zx] at h
  split at h
  · simp only [Option.some.injEq, Prod.mk.injEq] at h
    obtain ⟨rfl, rfl, rfl, rfl, rfl⟩ := h
    exact lv_fconst0 C.1 C.2.1 (zlen hd ha) (zk0 kk hH hL (zcons trivial hS) hl)
  · simp only [Option.some.injEq, Prod.mk.injEq] at h
    obtain ⟨rfl, rfl, rfl, rfl, rfl⟩ := h
    exact lv_fconst1 C.1 C.2.1 (zlen hd ha) (zk0 kk hH hL (zcons trivial hS) hl)
  · simp only [Option.some.injEq, Prod.mk.injEq] at h
    obtain ⟨rfl, rfl, rfl, rfl, rfl⟩ := h
    exact lv_fconst2 C.1 C.2.1 (zlen hd ha) (zk0 kk hH hL (zcons trivial hS) hl)
set_option maxHeartbeats 1000000 in
theorem zs_dconst {p : Program} {l : Launch} {e : Env} {R : Room} {s : State} {m : MethodId} {args : Array Value} {below : List Frame} {meth : Method} {c : Code} {cA : Nat → ClassId} {D : va_G} {base b Lx : Nat} {xs : Nat → Int32} {y : Nat} {H : Heap} {locs : List Loc} {cells slots : Nat} {Q : State → Prop} {ls : Array Slot} {pc len ia ib pc1 : Nat} {L L1 : zL} {st st1 : List zV} {σ σ1 : zS} {g : Option Prop} {k : Fin 2} (C : zCx p R s m args meth c cA D base b Lx xs y) (hH : zH cA D base b Lx xs s σ H locs cells) (hL : ∀ q ∈ L, zvr q.2) (hS : ∀ v ∈ st, zvr v) (hl : lv_has ls (zml y) (L.map (zcq base b))) (hd : decode (zb y) pc = .ok (.dconst k, len)) (ha : zaux y pc (.dconst k) len ia ib = true) (h : zx y (.dconst k) len ia ib pc L st σ = some (g, pc1, L1, st1, σ1)) (hg : ∀ P, g = some P → P) (hrc : cells + (σ1.2.2.2 - σ.2.2.2) ≤ R.cells) (hrs : slots + (zsz σ1.2.2.2 - zsz σ.2.2.2) ≤ R.slots)
    (kk : zK p l e R s m args below meth c cA D base b Lx xs y cells slots Q σ pc1 L1 st1 σ1) : zW p l e R s m args below meth c base b H locs cells slots Q pc ls st := by
  simp only [zx] at h
  split at h
  · simp only [Option.some.injEq, Prod.mk.injEq] at h
    obtain ⟨rfl, rfl, rfl, rfl, rfl⟩ := h
    exact lv_dconst0 C.1 C.2.1 (zlen hd ha) (zk0 kk hH hL (zcons trivial hS) hl)
  · cases h
theorem zldc_spec {o i : Nat} {v : zV} (h : zldc o i = some v) : (∃ x, v = vi x ∧ zr x ∧ Cond.constant (zR o) i (Int32.ofInt x) ∈ lw_tbl) ∨ ∃ f, v = vf f ∧ Cond.constantFloat (zR o) i f ∈ lw_tbl := by
  unfold zldc at h
  split at h
  · next q hq =>
    have h1 := List.all_eq_true.mp zki_ok q (List.mem_of_find?_eq_some hq)
    have h2 := List.find?_some hq
    simp only [Bool.and_eq_true, decide_eq_true_eq] at h1 h2
    have e1 := Nat.eq_of_beq_eq_true h2.1
    have e2 := Nat.eq_of_beq_eq_true h2.2
    subst e1; subst e2
    refine Or.inl ⟨q.2.2.1, (Option.some.inj h).symm, h1.2, List.mem_of_getElem? h1.1⟩
  · split at h
    · next q hq =>
      have h1 := List.all_eq_true.mp zkf_ok q (List.mem_of_find?_eq_some hq)
      have h2 := List.find?_some hq
      simp only [Bool.and_eq_true, decide_eq_true_eq] at h1 h2
      have e1 := Nat.eq_of_beq_eq_true h2.1
      have e2 := Nat.eq_of_beq_eq_true h2.2
      subst e1; subst e2
      exact Or.inr ⟨q.2.2.1, (Option.some.inj h).symm, List.mem_of_getElem? h1⟩
    · cases h
set_option maxHeartbeats 1000000 in
theorem zs_ldc {p : Program} {l : Launch} {e : Env} {R : Room} {s : State} {m : MethodId} {args : Array Value} {below : List Frame} {meth : Method} {c : Code} {cA : Nat → ClassId} {D : va_G} {base b Lx : Nat} {xs : Nat → Int32} {y : Nat} {H : Heap} {locs : List Loc} {cells slots : Nat} {Q : State → Prop} {ls : Array Slot} {pc len ia ib pc1 : Nat} {L L1 : zL} {st st1 : List zV} {σ σ1 : zS} {g : Option Prop} {k : Nat} (C : zCx p R s m args meth c cA D base b Lx xs y) (hH : zH cA D base b Lx xs s σ H locs cells) (hL : ∀ q ∈ L, zvr q.2) (hS : ∀ v ∈ st, zvr v) (hl : lv_has ls (zml y) (L.map (zcq base b))) (hd : decode (zb y) pc = .ok (.ldc k, len)) (ha : zaux y pc (.ldc k) len ia ib = true) (h : zx y (.ldc k) len ia ib pc L st σ = some (g, pc1, L1, st1, σ1)) (hg : ∀ P, g = some P → P) (hrc : cells + (σ1.2.2.2 - σ.2.2.2) ≤ R.cells) (hrs : slots + (zsz σ1.2.2.2 - zsz σ.2.2.2) ≤ R.slots)
    (kk : zK p l e R s m args below meth c cA D base b Lx xs y cells slots Q σ pc1 L1 st1 σ1) : zW p l e R s m args below meth c base b H locs cells slots Q pc ls st := by
  simp only [zx] at h
  simp only [zaux, Bool.and_eq_true] at ha
  split at h
  · next v hv =>
    simp only [Option.some.injEq, Prod.mk.injEq] at h
    obtain ⟨rfl, rfl, rfl, rfl, rfl⟩ := h
    rcases zldc_spec hv with ⟨x, rfl, hx, hw⟩ | ⟨f, rfl, hw⟩
    · exact lv_ldc C.1 C.2.1 C.2.2.2.1 (C.2.2.2.2.1 _ (zgood hw rfl)) (zlen hd ha.1) (zk0 kk hH hL (zcons hx hS) hl)
    · exact lv_ldcf C.1 C.2.1 C.2.2.2.1 (C.2.2.2.2.1 _ (zgood hw rfl)) (zlen hd ha.1) (zk0 kk hH hL (zcons trivial hS) hl)
  · cases h
set_option maxHeartbeats 1000000 in
theorem zs_ldc_w {p : Program} {l : Launch} {e : Env} {R : Room} {s : State} {m : MethodId} {args : Array Value} {below : List Frame} {meth : Method} {c : Code} {cA : Nat → ClassId} {D : va_G} {base b Lx : Nat} {xs : Nat → Int32} {y : Nat} {H : Heap} {locs : List Loc} {cells slots : Nat} {Q : State → Prop} {ls : Array Slot} {pc len ia ib pc1 : Nat} {L L1 : zL} {st st1 : List zV} {σ σ1 : zS} {g : Option Prop} {k : Nat} (C : zCx p R s m args meth c cA D base b Lx xs y) (hH : zH cA D base b Lx xs s σ H locs cells) (hL : ∀ q ∈ L, zvr q.2) (hS : ∀ v ∈ st, zvr v) (hl : lv_has ls (zml y) (L.map (zcq base b))) (hd : decode (zb y) pc = .ok (.ldc_w k, len)) (ha : zaux y pc (.ldc_w k) len ia ib = true) (h : zx y (.ldc_w k) len ia ib pc L st σ = some (g, pc1, L1, st1, σ1)) (hg : ∀ P, g = some P → P) (hrc : cells + (σ1.2.2.2 - σ.2.2.2) ≤ R.cells) (hrs : slots + (zsz σ1.2.2.2 - zsz σ.2.2.2) ≤ R.slots)
    (kk : zK p l e R s m args below meth c cA D base b Lx xs y cells slots Q σ pc1 L1 st1 σ1) : zW p l e R s m args below meth c base b H locs cells slots Q pc ls st := by
  simp only [zx] at h
  simp only [zaux, Bool.and_eq_true] at ha
  split at h
  · next v hv =>
    simp only [Option.some.injEq, Prod.mk.injEq] at h
    obtain ⟨rfl, rfl, rfl, rfl, rfl⟩ := h
    rcases zldc_spec hv with ⟨x, he, hx, hw⟩ | ⟨f, he, hw⟩
    · cases he
      exact lv_ldcw C.1 C.2.1 C.2.2.2.1 (C.2.2.2.2.1 _ (zgood hw rfl)) (zlen hd ha.1) (zk0 kk hH hL (zcons hx hS) hl)
    · cases he
  · cases h
set_option maxHeartbeats 1000000 in
theorem zs_iadd {p : Program} {l : Launch} {e : Env} {R : Room} {s : State} {m : MethodId} {args : Array Value} {below : List Frame} {meth : Method} {c : Code} {cA : Nat → ClassId} {D : va_G} {base b Lx : Nat} {xs : Nat → Int32} {y : Nat} {H : Heap} {locs : List Loc} {cells slots : Nat} {Q : State → Prop} {ls : Array Slot} {pc len ia ib pc1 : Nat} {L L1 : zL} {st st1 : List zV} {σ σ1 : zS} {g : Option Prop} (C : zCx p R s m args meth c cA D base b Lx xs y) (hH : zH cA D base b Lx xs s σ H locs cells) (hL : ∀ q ∈ L, zvr q.2) (hS : ∀ v ∈ st, zvr v) (hl : lv_has ls (zml y) (L.map (zcq base b))) (hd : decode (zb y) pc = .ok (.iadd, len)) (ha : zaux y pc (.iadd) len ia ib = true) (h : zx y (.iadd) len ia ib pc L st σ = some (g, pc1, L1, st1, σ1)) (hg : ∀ P, g = some P → P) (hrc : cells + (σ1.2.2.2 - σ.2.2.2) ≤ R.cells) (hrs : slots + (zsz σ1.2.2.2 - zsz σ.2.2.2) ≤ R.slots)
    (kk : zK p l e R s m args below meth c cA D base b Lx xs y cells slots Q σ pc1 L1 st1 σ1) : zW p l e R s m args below meth c base b H locs cells slots Q pc ls st := by
  simp only [zx] at h
  split at h
  · next q p r =>
    simp only [Option.some.injEq, Prod.mk.injEq] at h
    obtain ⟨rfl, rfl, rfl, rfl, rfl⟩ := h
    refine lv_iadd C.1 C.2.1 (zlen hd ha) ?_
    rw [← Int32.ofInt_add]
    exact zk0 kk hH hL (zcons (hg _ rfl) (zct (zct hS))) hl
  · cases h
set_option maxHeartbeats 1000000 in
theorem zs_isub {p : Program} {l : Launch} {e : Env} {R : Room} {s : State} {m : MethodId} {args : Array Value} {below : List Frame} {meth : Method} {c : Code} {cA : Nat → ClassId} {D : va_G} {base b Lx : Nat} {xs : Nat → Int32} {y : Nat} {H : Heap} {locs : List Loc} {cells slots : Nat} {Q : State → Prop} {ls : Array Slot} {pc len ia ib pc1 : Nat} {L L1 : zL} {st st1 : List zV} {σ σ1 : zS} {g : Option Prop} (C : zCx p R s m args meth c cA D base b Lx xs y) (hH : zH cA D base b Lx xs s σ H locs cells) (hL : ∀ q ∈ L, zvr q.2) (hS : ∀ v ∈ st, zvr v) (hl : lv_has ls (zml y) (L.map (zcq base b))) (hd : decode (zb y) pc = .ok (.isub, len)) (ha : zaux y pc (.isub) len ia ib = true) (h : zx y (.isub) len ia ib pc L st σ = some (g, pc1, L1, st1, σ1)) (hg : ∀ P, g = some P → P) (hrc : cells + (σ1.2.2.2 - σ.2.2.2) ≤ R.cells) (hrs : slots + (zsz σ1.2.2.2 - zsz σ.2.2.2) ≤ R.slots)
    (kk : zK p l e R s m args below meth c cA D base b Lx xs y cells slots Q σ pc1 L1 st1 σ1) : zW p l e R s m args below meth c base b H locs cells slots Q pc ls st := by
  simp only [zx] at h
  split at h
  · next q p r =>
    simp only [Option.some.injEq, Prod.mk.injEq] at h
    obtain ⟨rfl, rfl, rfl, rfl, rfl⟩ := h
    refine lv_isub C.1 C.2.1 (zlen hd ha) ?_
    rw [← Int32.ofInt_sub]
    exact zk0 kk hH hL (zcons (hg _ rfl) (zct (zct hS))) hl
  · cases h
set_option maxHeartbeats 1000000 in
theorem zs_imul {p : Program} {l : Launch} {e : Env} {R : Room} {s : State} {m : MethodId} {args : Array Value} {below : List Frame} {meth : Method} {c : Code} {cA : Nat → ClassId} {D : va_G} {base b Lx : Nat} {xs : Nat → Int32} {y : Nat} {H : Heap} {locs : List Loc} {cells slots : Nat} {Q : State → Prop} {ls : Array Slot} {pc len ia ib pc1 : Nat} {L L1 : zL} {st st1 : List zV} {σ σ1 : zS} {g : Option Prop} (C : zCx p R s m args meth c cA D base b Lx xs y) (hH : zH cA D base b Lx xs s σ H locs cells) (hL : ∀ q ∈ L, zvr q.2) (hS : ∀ v ∈ st, zvr v) (hl : lv_has ls (zml y) (L.map (zcq base b))) (hd : decode (zb y) pc = .ok (.imul, len)) (ha : zaux y pc (.imul) len ia ib = true) (h : zx y (.imul) len ia ib pc L st σ = some (g, pc1, L1, st1, σ1)) (hg : ∀ P, g = some P → P) (hrc : cells + (σ1.2.2.2 - σ.2.2.2) ≤ R.cells) (hrs : slots + (zsz σ1.2.2.2 - zsz σ.2.2.2) ≤ R.slots)
    (kk : zK p l e R s m args below meth c cA D base b Lx xs y cells slots Q σ pc1 L1 st1 σ1) : zW p l e R s m args below meth c base b H locs cells slots Q pc ls st := by
  simp only [zx] at h
  split at h
  · next q p r =>
    simp only [Option.some.injEq, Prod.mk.injEq] at h
    obtain ⟨rfl, rfl, rfl, rfl, rfl⟩ := h
    refine lv_imul C.1 C.2.1 (zlen hd ha) ?_
    rw [← Int32.ofInt_mul]
    exact zk0 kk hH hL (zcons (hg _ rfl) (zct (zct hS))) hl
  · cases h
theorem z_div {p q : Int} (hp : zr p) (hq : zr q) (h0 : 0 ≤ p) (h1 : 0 < q) : Int32.ofInt p / Int32.ofInt q = Int32.ofInt (p / q) ∧ zr (p / q) ∧ ¬ Int32.ofInt q = 0 := by
  obtain ⟨a, rfl⟩ : ∃ a : Nat, p = a := ⟨p.toNat, by omega⟩
  obtain ⟨d, rfl⟩ : ∃ d : Nat, q = d := ⟨q.toNat, by omega⟩
  have e := pk_div (a := a) (d := d) (by have := hp.2; omega) (by omega) (by have := hq.2; omega)
  have hle : (a : Int) / d ≤ a := Int.ediv_le_self _ (by omega)
  have hge : (0 : Int) ≤ (a : Int) / d := Int.ediv_nonneg (by omega) (by omega)
  refine ⟨?_, ⟨by omega, by have := hp.2; omega⟩, ?_⟩
  · show nI a / nI d = _
    rw [e]
    rfl
  · exact nI_ne0 (by omega) (by have := hq.2; omega)
set_option maxHeartbeats 1000000 in
theorem zs_idiv {p : Program} {l : Launch} {e : Env} {R : Room} {s : State} {m : MethodId} {args : Array Value} {below : List Frame} {meth : Method} {c : Code} {cA : Nat → ClassId} {D : va_G} {base b Lx : Nat} {xs : Nat → Int32} {y : Nat} {H : Heap} {locs : List Loc} {cells slots : Nat} {Q : State → Prop} {ls : Array Slot} {pc len ia ib pc1 : Nat} {L L1 : zL} {st st1 : List zV} {σ σ1 : zS} {g : Option Prop} (C : zCx p R s m args meth c cA D base b Lx xs y) (hH : zH cA D base b Lx xs s σ H locs cells) (hL : ∀ q ∈ L, zvr q.2) (hS : ∀ v ∈ st, zvr v) (hl : lv_has ls (zml y) (L.map (zcq base b))) (hd : decode (zb y) pc = .ok (.idiv, len)) (ha : zaux y pc (.idiv) len ia ib = true) (h : zx y (.idiv) len ia ib pc L st σ = some (g, pc1, L1, st1, σ1)) (hg : ∀ P, g = some P → P) (hrc : cells + (σ1.2.2.2 - σ.2.2.2) ≤ R.cells) (hrs : slots + (zsz σ1.2.2.2 - zsz σ.2.2.2) ≤ R.slots)
    (kk : zK p l e R s m args below meth c cA D base b Lx xs y cells slots Q σ pc1 L1 st1 σ1) : zW p l e R s m args below meth c base b H locs cells slots Q pc ls st := by
  simp only [zx] at h
  split at h
  · next q p r =>
    simp only [Option.some.injEq, Prod.mk.injEq] at h
    obtain ⟨rfl, rfl, rfl, rfl, rfl⟩ := h
    obtain ⟨h1, h2, h3⟩ := z_div (zch (zct hS)) (zch hS) (hg _ rfl).1 (hg _ rfl).2
    refine lv_idiv C.1 C.2.1 (zlen hd ha) h3 ?_
    rw [h1]
    exact zk0 kk hH hL (zcons h2 (zct (zct hS))) hl
  · cases h
set_option maxHeartbeats 1000000 in
theorem zs_ishl {p : Program} {l : Launch} {e : Env} {R : Room} {s : State} {m : MethodId} {args : Array Value} {below : List Frame} {meth : Method} {c : Code} {cA : Nat → ClassId} {D : va_G} {base b Lx : Nat} {xs : Nat → Int32} {y : Nat} {H : Heap} {locs : List Loc} {cells slots : Nat} {Q : State → Prop} {ls : Array Slot} {pc len ia ib pc1 : Nat} {L L1 : zL} {st st1 : List zV} {σ σ1 : zS} {g : Option Prop} (C : zCx p R s m args meth c cA D base b Lx xs y) (hH : zH cA D base b Lx xs s σ H locs cells) (hL : ∀ q ∈ L, zvr q.2) (hS : ∀ v ∈ st, zvr v) (hl : lv_has ls (zml y) (L.map (zcq base b))) (hd : decode (zb y) pc = .ok (.ishl, len)) (ha : zaux y pc (.ishl) len ia ib = true) (h : zx y (.ishl) len ia ib pc L st σ = some (g, pc1, L1, st1, σ1)) (hg : ∀ P, g = some P → P) (hrc : cells + (σ1.2.2.2 - σ.2.2.2) ≤ R.cells) (hrs : slots + (zsz σ1.2.2.2 - zsz σ.2.2.2) ≤ R.slots)
    (kk : zK p l e R s m args below meth c cA D base b Lx xs y cells slots Q σ pc1 L1 st1 σ1) : zW p l e R s m args below meth c base b H locs cells slots Q pc ls st := by
  simp only [zx] at h
  split at h
  · next q p r =>
    simp only [Option.some.injEq, Prod.mk.injEq] at h
    obtain ⟨rfl, rfl, rfl, rfl, rfl⟩ := h
    refine lv_ishl C.1 C.2.1 (zlen hd ha) ?_
    have kk2 := zk0 kk hH hL (zcons (zr_of _) (zct (zct hS))) hl
    simp only [zW, List.map_cons, zcv, zit] at kk2
    exact kk2
  · cases h
set_option maxHeartbeats 1000000 in
theorem zs_ishr {p : Program} {l : Launch} {e : Env} {R : Room} {s : State} {m : MethodId} {args : Array Value} {below : List Frame} {meth : Method} {c : Code} {cA : Nat → ClassId} {D : va_G} {base b Lx : Nat} {xs : Nat → Int32} {y : Nat} {H : Heap} {locs : List Loc} {cells slots : Nat} {Q : State → Prop} {ls : Array Slot} {pc len ia ib pc1 : Nat} {L L1 : zL} {st st1 : List zV} {σ σ1 : zS} {g : Option Prop} (C : zCx p R s m args meth c cA D base b Lx xs y) (hH : zH cA D base b Lx xs s σ H locs cells) (hL : ∀ q ∈ L, zvr q.2) (hS : ∀ v ∈ st, zvr v) (hl : lv_has ls (zml y) (L.map (zcq base b))) (hd : decode (zb y) pc = .ok (.ishr, len)) (ha : zaux y pc (.ishr) len ia ib = true) (h : zx y (.ishr) len ia ib pc L st σ = some (g, pc1, L1, st1, σ1)) (hg : ∀ P, g = some P → P) (hrc : cells + (σ1.2.2.2 - σ.2.2.2) ≤ R.cells) (hrs : slots + (zsz σ1.2.2.2 - zsz σ.2.2.2) ≤ R.slots)
    (kk : zK p l e R s m args below meth c cA D base b Lx xs y cells slots Q σ pc1 L1 st1 σ1) : zW p l e R s m args below meth c base b H locs cells slots Q pc ls st := by
  simp only [zx] at h
  split at h
  · next q p r =>
    simp only [Option.some.injEq, Prod.mk.injEq] at h
    obtain ⟨rfl, rfl, rfl, rfl, rfl⟩ := h
    refine lv_ishr C.1 C.2.1 (zlen hd ha) ?_
    have kk2 := zk0 kk hH hL (zcons (zr_of _) (zct (zct hS))) hl
    simp only [zW, List.map_cons, zcv, zit] at kk2
    exact kk2
  · cases h
set_option maxHeartbeats 1000000 in
theorem zs_iushr {p : Program} {l : Launch} {e : Env} {R : Room} {s : State} {m : MethodId} {args : Array Value} {below : List Frame} {meth : Method} {c : Code} {cA : Nat → ClassId} {D : va_G} {base b Lx : Nat} {xs : Nat → Int32} {y : Nat} {H : Heap} {locs : List Loc} {cells slots : Nat} {Q : State → Prop} {ls : Array Slot} {pc len ia ib pc1 : Nat} {L L1 : zL} {st st1 : List zV} {σ σ1 : zS} {g : Option Prop} (C : zCx p R s m args meth c cA D base b Lx xs y) (hH : zH cA D base b Lx xs s σ H locs cells) (hL : ∀ q ∈ L, zvr q.2) (hS : ∀ v ∈ st, zvr v) (hl : lv_has ls (zml y) (L.map (zcq base b))) (hd : decode (zb y) pc = .ok (.iushr, len)) (ha : zaux y pc (.iushr) len ia ib = true) (h : zx y (.iushr) len ia ib pc L st σ = some (g, pc1, L1, st1, σ1)) (hg : ∀ P, g = some P → P) (hrc : cells + (σ1.2.2.2 - σ.2.2.2) ≤ R.cells) (hrs : slots + (zsz σ1.2.2.2 - zsz σ.2.2.2) ≤ R.slots)
    (kk : zK p l e R s m args below meth c cA D base b Lx xs y cells slots Q σ pc1 L1 st1 σ1) : zW p l e R s m args below meth c base b H locs cells slots Q pc ls st := by
  simp only [zx] at h
  split at h
  · next q p r =>
    simp only [Option.some.injEq, Prod.mk.injEq] at h
    obtain ⟨rfl, rfl, rfl, rfl, rfl⟩ := h
    refine lv_iushr C.1 C.2.1 (zlen hd ha) rfl ?_
    have kk2 := zk0 kk hH hL (zcons (zr_of _) (zct (zct hS))) hl
    simp only [zW, List.map_cons, zcv, zit] at kk2
    exact kk2
  · cases h
set_option maxHeartbeats 1000000 in
theorem zs_ior {p : Program} {l : Launch} {e : Env} {R : Room} {s : State} {m : MethodId} {args : Array Value} {below : List Frame} {meth : Method} {c : Code} {cA : Nat → ClassId} {D : va_G} {base b Lx : Nat} {xs : Nat → Int32} {y : Nat} {H : Heap} {locs : List Loc} {cells slots : Nat} {Q : State → Prop} {ls : Array Slot} {pc len ia ib pc1 : Nat} {L L1 : zL} {st st1 : List zV} {σ σ1 : zS} {g : Option Prop} (C : zCx p R s m args meth c cA D base b Lx xs y) (hH : zH cA D base b Lx xs s σ H locs cells) (hL : ∀ q ∈ L, zvr q.2) (hS : ∀ v ∈ st, zvr v) (hl : lv_has ls (zml y) (L.map (zcq base b))) (hd : decode (zb y) pc = .ok (.ior, len)) (ha : zaux y pc (.ior) len ia ib = true) (h : zx y (.ior) len ia ib pc L st σ = some (g, pc1, L1, st1, σ1)) (hg : ∀ P, g = some P → P) (hrc : cells + (σ1.2.2.2 - σ.2.2.2) ≤ R.cells) (hrs : slots + (zsz σ1.2.2.2 - zsz σ.2.2.2) ≤ R.slots)
    (kk : zK p l e R s m args below meth c cA D base b Lx xs y cells slots Q σ pc1 L1 st1 σ1) : zW p l e R s m args below meth c base b H locs cells slots Q pc ls st := by
  simp only [zx] at h
  split at h
  · next q p r =>
    simp only [Option.some.injEq, Prod.mk.injEq] at h
    obtain ⟨rfl, rfl, rfl, rfl, rfl⟩ := h
    refine lv_ior C.1 C.2.1 (zlen hd ha) ?_
    have kk2 := zk0 kk hH hL (zcons (zr_of _) (zct (zct hS))) hl
    simp only [zW, List.map_cons, zcv, zit] at kk2
    exact kk2
  · cases h
set_option maxHeartbeats 1000000 in
theorem zs_iand {p : Program} {l : Launch} {e : Env} {R : Room} {s : State} {m : MethodId} {args : Array Value} {below : List Frame} {meth : Method} {c : Code} {cA : Nat → ClassId} {D : va_G} {base b Lx : Nat} {xs : Nat → Int32} {y : Nat} {H : Heap} {locs : List Loc} {cells slots : Nat} {Q : State → Prop} {ls : Array Slot} {pc len ia ib pc1 : Nat} {L L1 : zL} {st st1 : List zV} {σ σ1 : zS} {g : Option Prop} (C : zCx p R s m args meth c cA D base b Lx xs y) (hH : zH cA D base b Lx xs s σ H locs cells) (hL : ∀ q ∈ L, zvr q.2) (hS : ∀ v ∈ st, zvr v) (hl : lv_has ls (zml y) (L.map (zcq base b))) (hd : decode (zb y) pc = .ok (.iand, len)) (ha : zaux y pc (.iand) len ia ib = true) (h : zx y (.iand) len ia ib pc L st σ = some (g, pc1, L1, st1, σ1)) (hg : ∀ P, g = some P → P) (hrc : cells + (σ1.2.2.2 - σ.2.2.2) ≤ R.cells) (hrs : slots + (zsz σ1.2.2.2 - zsz σ.2.2.2) ≤ R.slots)
    (kk : zK p l e R s m args below meth c cA D base b Lx xs y cells slots Q σ pc1 L1 st1 σ1) : zW p l e R s m args below meth c base b H locs cells slots Q pc ls st := by
  simp only [zx] at h
  split at h
  · next q p r =>
    simp only [Option.some.injEq, Prod.mk.injEq] at h
    obtain ⟨rfl, rfl, rfl, rfl, rfl⟩ := h
    refine lv_iand C.1 C.2.1 (zlen hd ha) ?_
    have kk2 := zk0 kk hH hL (zcons (zr_of _) (zct (zct hS))) hl
    simp only [zW, List.map_cons, zcv, zit] at kk2
    exact kk2
  · cases h
theorem z_i2c {p : Int} (h0 : 0 ≤ p) (h1 : p ≤ 65535) : ((Int32.ofInt p).toUInt32 % 65536).toInt32 = Int32.ofInt p := by
  obtain ⟨a, rfl⟩ : ∃ a : Nat, p = a := ⟨p.toNat, by omega⟩
  show ((nI a).toUInt32 % 65536).toInt32 = nI a
  rw [pk_char, pk_tn (by omega), Nat.mod_eq_of_lt (by omega)]
set_option maxHeartbeats 1000000 in
theorem zs_i2c {p : Program} {l : Launch} {e : Env} {R : Room} {s : State} {m : MethodId} {args : Array Value} {below : List Frame} {meth : Method} {c : Code} {cA : Nat → ClassId} {D : va_G} {base b Lx : Nat} {xs : Nat → Int32} {y : Nat} {H : Heap} {locs : List Loc} {cells slots : Nat} {Q : State → Prop} {ls : Array Slot} {pc len ia ib pc1 : Nat} {L L1 : zL} {st st1 : List zV} {σ σ1 : zS} {g : Option Prop} (C : zCx p R s m args meth c cA D base b Lx xs y) (hH : zH cA D base b Lx xs s σ H locs cells) (hL : ∀ q ∈ L, zvr q.2) (hS : ∀ v ∈ st, zvr v) (hl : lv_has ls (zml y) (L.map (zcq base b))) (hd : decode (zb y) pc = .ok (.i2c, len)) (ha : zaux y pc (.i2c) len ia ib = true) (h : zx y (.i2c) len ia ib pc L st σ = some (g, pc1, L1, st1, σ1)) (hg : ∀ P, g = some P → P) (hrc : cells + (σ1.2.2.2 - σ.2.2.2) ≤ R.cells) (hrs : slots + (zsz σ1.2.2.2 - zsz σ.2.2.2) ≤ R.slots)
    (kk : zK p l e R s m args below meth c cA D base b Lx xs y cells slots Q σ pc1 L1 st1 σ1) : zW p l e R s m args below meth c base b H locs cells slots Q pc ls st := by
  simp only [zx] at h
  split at h
  · next p r =>
    simp only [Option.some.injEq, Prod.mk.injEq] at h
    obtain ⟨rfl, rfl, rfl, rfl, rfl⟩ := h
    have h1 := hg _ rfl
    exact lv_i2c C.1 C.2.1 (zlen hd ha) (z_i2c h1.1 h1.2) (zk0 kk hH hL (zcons (zch hS) (zct hS)) hl)
  · cases h
set_option maxHeartbeats 1000000 in
theorem zs_i2d {p : Program} {l : Launch} {e : Env} {R : Room} {s : State} {m : MethodId} {args : Array Value} {below : List Frame} {meth : Method} {c : Code} {cA : Nat → ClassId} {D : va_G} {base b Lx : Nat} {xs : Nat → Int32} {y : Nat} {H : Heap} {locs : List Loc} {cells slots : Nat} {Q : State → Prop} {ls : Array Slot} {pc len ia ib pc1 : Nat} {L L1 : zL} {st st1 : List zV} {σ σ1 : zS} {g : Option Prop} (C : zCx p R s m args meth c cA D base b Lx xs y) (hH : zH cA D base b Lx xs s σ H locs cells) (hL : ∀ q ∈ L, zvr q.2) (hS : ∀ v ∈ st, zvr v) (hl : lv_has ls (zml y) (L.map (zcq base b))) (hd : decode (zb y) pc = .ok (.i2d, len)) (ha : zaux y pc (.i2d) len ia ib = true) (h : zx y (.i2d) len ia ib pc L st σ = some (g, pc1, L1, st1, σ1)) (hg : ∀ P, g = some P → P) (hrc : cells + (σ1.2.2.2 - σ.2.2.2) ≤ R.cells) (hrs : slots + (zsz σ1.2.2.2 - zsz σ.2.2.2) ≤ R.slots)
    (kk : zK p l e R s m args below meth c cA D base b Lx xs y cells slots Q σ pc1 L1 st1 σ1) : zW p l e R s m args below meth c base b H locs cells slots Q pc ls st := by
  simp only [zx] at h
  split at h
  · next p r =>
    simp only [Option.some.injEq, Prod.mk.injEq] at h
    obtain ⟨rfl, rfl, rfl, rfl, rfl⟩ := h
    exact lv_i2d C.1 C.2.1 (zlen hd ha) (zk0 kk hH hL (zcons trivial (zct hS)) hl)
  · cases h
set_option maxHeartbeats 1000000 in
theorem zs_d2f {p : Program} {l : Launch} {e : Env} {R : Room} {s : State} {m : MethodId} {args : Array Value} {below : List Frame} {meth : Method} {c : Code} {cA : Nat → ClassId} {D : va_G} {base b Lx : Nat} {xs : Nat → Int32} {y : Nat} {H : Heap} {locs : List Loc} {cells slots : Nat} {Q : State → Prop} {ls : Array Slot} {pc len ia ib pc1 : Nat} {L L1 : zL} {st st1 : List zV} {σ σ1 : zS} {g : Option Prop} (C : zCx p R s m args meth c cA D base b Lx xs y) (hH : zH cA D base b Lx xs s σ H locs cells) (hL : ∀ q ∈ L, zvr q.2) (hS : ∀ v ∈ st, zvr v) (hl : lv_has ls (zml y) (L.map (zcq base b))) (hd : decode (zb y) pc = .ok (.d2f, len)) (ha : zaux y pc (.d2f) len ia ib = true) (h : zx y (.d2f) len ia ib pc L st σ = some (g, pc1, L1, st1, σ1)) (hg : ∀ P, g = some P → P) (hrc : cells + (σ1.2.2.2 - σ.2.2.2) ≤ R.cells) (hrs : slots + (zsz σ1.2.2.2 - zsz σ.2.2.2) ≤ R.slots)
    (kk : zK p l e R s m args below meth c cA D base b Lx xs y cells slots Q σ pc1 L1 st1 σ1) : zW p l e R s m args below meth c base b H locs cells slots Q pc ls st := by
  simp only [zx] at h
  split at h
  · next p r =>
    simp only [Option.some.injEq, Prod.mk.injEq] at h
    obtain ⟨rfl, rfl, rfl, rfl, rfl⟩ := h
    exact lv_d2f C.1 C.2.1 (zlen hd ha) (hg _ rfl) (zk0 kk hH hL (zcons trivial (zct hS)) hl)
  · cases h
set_option maxHeartbeats 1000000 in
theorem zs_fneg {p : Program} {l : Launch} {e : Env} {R : Room} {s : State} {m : MethodId} {args : Array Value} {below : List Frame} {meth : Method} {c : Code} {cA : Nat → ClassId} {D : va_G} {base b Lx : Nat} {xs : Nat → Int32} {y : Nat} {H : Heap} {locs : List Loc} {cells slots : Nat} {Q : State → Prop} {ls : Array Slot} {pc len ia ib pc1 : Nat} {L L1 : zL} {st st1 : List zV} {σ σ1 : zS} {g : Option Prop} (C : zCx p R s m args meth c cA D base b Lx xs y) (hH : zH cA D base b Lx xs s σ H locs cells) (hL : ∀ q ∈ L, zvr q.2) (hS : ∀ v ∈ st, zvr v) (hl : lv_has ls (zml y) (L.map (zcq base b))) (hd : decode (zb y) pc = .ok (.fneg, len)) (ha : zaux y pc (.fneg) len ia ib = true) (h : zx y (.fneg) len ia ib pc L st σ = some (g, pc1, L1, st1, σ1)) (hg : ∀ P, g = some P → P) (hrc : cells + (σ1.2.2.2 - σ.2.2.2) ≤ R.cells) (hrs : slots + (zsz σ1.2.2.2 - zsz σ.2.2.2) ≤ R.slots)
    (kk : zK p l e R s m args below meth c cA D base b Lx xs y cells slots Q σ pc1 L1 st1 σ1) : zW p l e R s m args below meth c base b H locs cells slots Q pc ls st := by
  simp only [zx] at h
  split at h
  · next p r =>
    simp only [Option.some.injEq, Prod.mk.injEq] at h
    obtain ⟨rfl, rfl, rfl, rfl, rfl⟩ := h
    exact lv_fneg C.1 C.2.1 (zlen hd ha) (zk0 kk hH hL (zcons trivial (zct hS)) hl)
  · cases h
set_option maxHeartbeats 1000000 in
theorem zs_ddiv {p : Program} {l : Launch} {e : Env} {R : Room} {s : State} {m : MethodId} {args : Array Value} {below : List Frame} {meth : Method} {c : Code} {cA : Nat → ClassId} {D : va_G} {base b Lx : Nat} {xs : Nat → Int32} {y : Nat} {H : Heap} {locs : List Loc} {cells slots : Nat} {Q : State → Prop} {ls : Array Slot} {pc len ia ib pc1 : Nat} {L L1 : zL} {st st1 : List zV} {σ σ1 : zS} {g : Option Prop} (C : zCx p R s m args meth c cA D base b Lx xs y) (hH : zH cA D base b Lx xs s σ H locs cells) (hL : ∀ q ∈ L, zvr q.2) (hS : ∀ v ∈ st, zvr v) (hl : lv_has ls (zml y) (L.map (zcq base b))) (hd : decode (zb y) pc = .ok (.ddiv, len)) (ha : zaux y pc (.ddiv) len ia ib = true) (h : zx y (.ddiv) len ia ib pc L st σ = some (g, pc1, L1, st1, σ1)) (hg : ∀ P, g = some P → P) (hrc : cells + (σ1.2.2.2 - σ.2.2.2) ≤ R.cells) (hrs : slots + (zsz σ1.2.2.2 - zsz σ.2.2.2) ≤ R.slots)
    (kk : zK p l e R s m args below meth c cA D base b Lx xs y cells slots Q σ pc1 L1 st1 σ1) : zW p l e R s m args below meth c base b H locs cells slots Q pc ls st := by
  simp only [zx] at h
  split at h
  · next q p r =>
    simp only [Option.some.injEq, Prod.mk.injEq] at h
    obtain ⟨rfl, rfl, rfl, rfl, rfl⟩ := h
    exact lv_ddiv C.1 C.2.1 (zlen hd ha) (hg _ rfl) (zk0 kk hH hL (zcons trivial (zct (zct hS))) hl)
  · cases h
set_option maxHeartbeats 1000000 in
theorem zs_dmul {p : Program} {l : Launch} {e : Env} {R : Room} {s : State} {m : MethodId} {args : Array Value} {below : List Frame} {meth : Method} {c : Code} {cA : Nat → ClassId} {D : va_G} {base b Lx : Nat} {xs : Nat → Int32} {y : Nat} {H : Heap} {locs : List Loc} {cells slots : Nat} {Q : State → Prop} {ls : Array Slot} {pc len ia ib pc1 : Nat} {L L1 : zL} {st st1 : List zV} {σ σ1 : zS} {g : Option Prop} (C : zCx p R s m args meth c cA D base b Lx xs y) (hH : zH cA D base b Lx xs s σ H locs cells) (hL : ∀ q ∈ L, zvr q.2) (hS : ∀ v ∈ st, zvr v) (hl : lv_has ls (zml y) (L.map (zcq base b))) (hd : decode (zb y) pc = .ok (.dmul, len)) (ha : zaux y pc (.dmul) len ia ib = true) (h : zx y (.dmul) len ia ib pc L st σ = some (g, pc1, L1, st1, σ1)) (hg : ∀ P, g = some P → P) (hrc : cells + (σ1.2.2.2 - σ.2.2.2) ≤ R.cells) (hrs : slots + (zsz σ1.2.2.2 - zsz σ.2.2.2) ≤ R.slots)
    (kk : zK p l e R s m args below meth c cA D base b Lx xs y cells slots Q σ pc1 L1 st1 σ1) : zW p l e R s m args below meth c base b H locs cells slots Q pc ls st := by
  simp only [zx] at h
  split at h
  · next q p r =>
    simp only [Option.some.injEq, Prod.mk.injEq] at h
    obtain ⟨rfl, rfl, rfl, rfl, rfl⟩ := h
    exact lv_dmul C.1 C.2.1 (zlen hd ha) (hg _ rfl) (zk0 kk hH hL (zcons trivial (zct (zct hS))) hl)
  · cases h
set_option maxHeartbeats 1000000 in
theorem zs_dsub {p : Program} {l : Launch} {e : Env} {R : Room} {s : State} {m : MethodId} {args : Array Value} {below : List Frame} {meth : Method} {c : Code} {cA : Nat → ClassId} {D : va_G} {base b Lx : Nat} {xs : Nat → Int32} {y : Nat} {H : Heap} {locs : List Loc} {cells slots : Nat} {Q : State → Prop} {ls : Array Slot} {pc len ia ib pc1 : Nat} {L L1 : zL} {st st1 : List zV} {σ σ1 : zS} {g : Option Prop} (C : zCx p R s m args meth c cA D base b Lx xs y) (hH : zH cA D base b Lx xs s σ H locs cells) (hL : ∀ q ∈ L, zvr q.2) (hS : ∀ v ∈ st, zvr v) (hl : lv_has ls (zml y) (L.map (zcq base b))) (hd : decode (zb y) pc = .ok (.dsub, len)) (ha : zaux y pc (.dsub) len ia ib = true) (h : zx y (.dsub) len ia ib pc L st σ = some (g, pc1, L1, st1, σ1)) (hg : ∀ P, g = some P → P) (hrc : cells + (σ1.2.2.2 - σ.2.2.2) ≤ R.cells) (hrs : slots + (zsz σ1.2.2.2 - zsz σ.2.2.2) ≤ R.slots)
    (kk : zK p l e R s m args below meth c cA D base b Lx xs y cells slots Q σ pc1 L1 st1 σ1) : zW p l e R s m args below meth c base b H locs cells slots Q pc ls st := by
  simp only [zx] at h
  split at h
  · next q p r =>
    simp only [Option.some.injEq, Prod.mk.injEq] at h
    obtain ⟨rfl, rfl, rfl, rfl, rfl⟩ := h
    exact lv_dsub C.1 C.2.1 (zlen hd ha) (hg _ rfl) (zk0 kk hH hL (zcons trivial (zct (zct hS))) hl)
  · cases h
set_option maxHeartbeats 1000000 in
theorem zs_fdiv {p : Program} {l : Launch} {e : Env} {R : Room} {s : State} {m : MethodId} {args : Array Value} {below : List Frame} {meth : Method} {c : Code} {cA : Nat → ClassId} {D : va_G} {base b Lx : Nat} {xs : Nat → Int32} {y : Nat} {H : Heap} {locs : List Loc} {cells slots : Nat} {Q : State → Prop} {ls : Array Slot} {pc len ia ib pc1 : Nat} {L L1 : zL} {st st1 : List zV} {σ σ1 : zS} {g : Option Prop} (C : zCx p R s m args meth c cA D base b Lx xs y) (hH : zH cA D base b Lx xs s σ H locs cells) (hL : ∀ q ∈ L, zvr q.2) (hS : ∀ v ∈ st, zvr v) (hl : lv_has ls (zml y) (L.map (zcq base b))) (hd : decode (zb y) pc = .ok (.fdiv, len)) (ha : zaux y pc (.fdiv) len ia ib = true) (h : zx y (.fdiv) len ia ib pc L st σ = some (g, pc1, L1, st1, σ1)) (hg : ∀ P, g = some P → P) (hrc : cells + (σ1.2.2.2 - σ.2.2.2) ≤ R.cells) (hrs : slots + (zsz σ1.2.2.2 - zsz σ.2.2.2) ≤ R.slots)
    (kk : zK p l e R s m args below meth c cA D base b Lx xs y cells slots Q σ pc1 L1 st1 σ1) : zW p l e R s m args below meth c base b H locs cells slots Q pc ls st := by
  simp only [zx] at h
  split at h
  · next q p r =>
    simp only [Option.some.injEq, Prod.mk.injEq] at h
    obtain ⟨rfl, rfl, rfl, rfl, rfl⟩ := h
    exact lv_fdiv C.1 C.2.1 (zlen hd ha) (hg _ rfl) (zk0 kk hH hL (zcons trivial (zct (zct hS))) hl)
  · cases h
set_option maxHeartbeats 1000000 in
theorem zs_fmul {p : Program} {l : Launch} {e : Env} {R : Room} {s : State} {m : MethodId} {args : Array Value} {below : List Frame} {meth : Method} {c : Code} {cA : Nat → ClassId} {D : va_G} {base b Lx : Nat} {xs : Nat → Int32} {y : Nat} {H : Heap} {locs : List Loc} {cells slots : Nat} {Q : State → Prop} {ls : Array Slot} {pc len ia ib pc1 : Nat} {L L1 : zL} {st st1 : List zV} {σ σ1 : zS} {g : Option Prop} (C : zCx p R s m args meth c cA D base b Lx xs y) (hH : zH cA D base b Lx xs s σ H locs cells) (hL : ∀ q ∈ L, zvr q.2) (hS : ∀ v ∈ st, zvr v) (hl : lv_has ls (zml y) (L.map (zcq base b))) (hd : decode (zb y) pc = .ok (.fmul, len)) (ha : zaux y pc (.fmul) len ia ib = true) (h : zx y (.fmul) len ia ib pc L st σ = some (g, pc1, L1, st1, σ1)) (hg : ∀ P, g = some P → P) (hrc : cells + (σ1.2.2.2 - σ.2.2.2) ≤ R.cells) (hrs : slots + (zsz σ1.2.2.2 - zsz σ.2.2.2) ≤ R.slots)
    (kk : zK p l e R s m args below meth c cA D base b Lx xs y cells slots Q σ pc1 L1 st1 σ1) : zW p l e R s m args below meth c base b H locs cells slots Q pc ls st := by
  simp only [zx] at h
  split at h
  · next q p r =>
    simp only [Option.some.injEq, Prod.mk.injEq] at h
    obtain ⟨rfl, rfl, rfl, rfl, rfl⟩ := h
    exact lv_fmul C.1 C.2.1 (zlen hd ha) (hg _ rfl) (zk0 kk hH hL (zcons trivial (zct (zct hS))) hl)
  · cases h
set_option maxHeartbeats 1000000 in
theorem zs_fsub {p : Program} {l : Launch} {e : Env} {R : Room} {s : State} {m : MethodId} {args : Array Value} {below : List Frame} {meth : Method} {c : Code} {cA : Nat → ClassId} {D : va_G} {base b Lx : Nat} {xs : Nat → Int32} {y : Nat} {H : Heap} {locs : List Loc} {cells slots : Nat} {Q : State → Prop} {ls : Array Slot} {pc len ia ib pc1 : Nat} {L L1 : zL} {st st1 : List zV} {σ σ1 : zS} {g : Option Prop} (C : zCx p R s m args meth c cA D base b Lx xs y) (hH : zH cA D base b Lx xs s σ H locs cells) (hL : ∀ q ∈ L, zvr q.2) (hS : ∀ v ∈ st, zvr v) (hl : lv_has ls (zml y) (L.map (zcq base b))) (hd : decode (zb y) pc = .ok (.fsub, len)) (ha : zaux y pc (.fsub) len ia ib = true) (h : zx y (.fsub) len ia ib pc L st σ = some (g, pc1, L1, st1, σ1)) (hg : ∀ P, g = some P → P) (hrc : cells + (σ1.2.2.2 - σ.2.2.2) ≤ R.cells) (hrs : slots + (zsz σ1.2.2.2 - zsz σ.2.2.2) ≤ R.slots)
    (kk : zK p l e R s m args below meth c cA D base b Lx xs y cells slots Q σ pc1 L1 st1 σ1) : zW p l e R s m args below meth c base b H locs cells slots Q pc ls st := by
  simp only [zx] at h
  split at h
  · next q p r =>
    simp only [Option.some.injEq, Prod.mk.injEq] at h
    obtain ⟨rfl, rfl, rfl, rfl, rfl⟩ := h
    exact lv_fsub C.1 C.2.1 (zlen hd ha) (hg _ rfl) (zk0 kk hH hL (zcons trivial (zct (zct hS))) hl)
  · cases h
set_option maxHeartbeats 1000000 in
theorem zs_f2i {p : Program} {l : Launch} {e : Env} {R : Room} {s : State} {m : MethodId} {args : Array Value} {below : List Frame} {meth : Method} {c : Code} {cA : Nat → ClassId} {D : va_G} {base b Lx : Nat} {xs : Nat → Int32} {y : Nat} {H : Heap} {locs : List Loc} {cells slots : Nat} {Q : State → Prop} {ls : Array Slot} {pc len ia ib pc1 : Nat} {L L1 : zL} {st st1 : List zV} {σ σ1 : zS} {g : Option Prop} (C : zCx p R s m args meth c cA D base b Lx xs y) (hH : zH cA D base b Lx xs s σ H locs cells) (hL : ∀ q ∈ L, zvr q.2) (hS : ∀ v ∈ st, zvr v) (hl : lv_has ls (zml y) (L.map (zcq base b))) (hd : decode (zb y) pc = .ok (.f2i, len)) (ha : zaux y pc (.f2i) len ia ib = true) (h : zx y (.f2i) len ia ib pc L st σ = some (g, pc1, L1, st1, σ1)) (hg : ∀ P, g = some P → P) (hrc : cells + (σ1.2.2.2 - σ.2.2.2) ≤ R.cells) (hrs : slots + (zsz σ1.2.2.2 - zsz σ.2.2.2) ≤ R.slots)
    (kk : zK p l e R s m args below meth c cA D base b Lx xs y cells slots Q σ pc1 L1 st1 σ1) : zW p l e R s m args below meth c base b H locs cells slots Q pc ls st := by
  simp only [zx] at h
  split at h
  · next p r =>
    simp only [Option.some.injEq, Prod.mk.injEq] at h
    obtain ⟨rfl, rfl, rfl, rfl, rfl⟩ := h
    refine lv_f2i C.1 C.2.1 (zlen hd ha) ?_
    have kk2 := zk0 kk hH hL (zcons (zr_of _) (zct hS)) hl
    simp only [zW, List.map_cons, zcv, zit] at kk2
    exact kk2
  · cases h
set_option maxHeartbeats 1000000 in
theorem zs_fcmp {p : Program} {l : Launch} {e : Env} {R : Room} {s : State} {m : MethodId} {args : Array Value} {below : List Frame} {meth : Method} {c : Code} {cA : Nat → ClassId} {D : va_G} {base b Lx : Nat} {xs : Nat → Int32} {y : Nat} {H : Heap} {locs : List Loc} {cells slots : Nat} {Q : State → Prop} {ls : Array Slot} {pc len ia ib pc1 : Nat} {L L1 : zL} {st st1 : List zV} {σ σ1 : zS} {g : Option Prop} {o : CmpOp} (C : zCx p R s m args meth c cA D base b Lx xs y) (hH : zH cA D base b Lx xs s σ H locs cells) (hL : ∀ q ∈ L, zvr q.2) (hS : ∀ v ∈ st, zvr v) (hl : lv_has ls (zml y) (L.map (zcq base b))) (hd : decode (zb y) pc = .ok (.fcmp o, len)) (ha : zaux y pc (.fcmp o) len ia ib = true) (h : zx y (.fcmp o) len ia ib pc L st σ = some (g, pc1, L1, st1, σ1)) (hg : ∀ P, g = some P → P) (hrc : cells + (σ1.2.2.2 - σ.2.2.2) ≤ R.cells) (hrs : slots + (zsz σ1.2.2.2 - zsz σ.2.2.2) ≤ R.slots)
    (kk : zK p l e R s m args below meth c cA D base b Lx xs y cells slots Q σ pc1 L1 st1 σ1) : zW p l e R s m args below meth c base b H locs cells slots Q pc ls st := by
  simp only [zx] at h
  split at h
  · next q p r =>
    simp only [Option.some.injEq, Prod.mk.injEq] at h
    obtain ⟨rfl, rfl, rfl, rfl, rfl⟩ := h
    refine lv_fcmp C.1 C.2.1 (zlen hd ha) ?_
    have kk2 := zk0 kk hH hL (zcons (zr_of _) (zct (zct hS))) hl
    simp only [zW, List.map_cons, zcv, zit] at kk2
    exact kk2
  · cases h
set_option maxHeartbeats 1000000 in
theorem zs_dcmp {p : Program} {l : Launch} {e : Env} {R : Room} {s : State} {m : MethodId} {args : Array Value} {below : List Frame} {meth : Method} {c : Code} {cA : Nat → ClassId} {D : va_G} {base b Lx : Nat} {xs : Nat → Int32} {y : Nat} {H : Heap} {locs : List Loc} {cells slots : Nat} {Q : State → Prop} {ls : Array Slot} {pc len ia ib pc1 : Nat} {L L1 : zL} {st st1 : List zV} {σ σ1 : zS} {g : Option Prop} {o : CmpOp} (C : zCx p R s m args meth c cA D base b Lx xs y) (hH : zH cA D base b Lx xs s σ H locs cells) (hL : ∀ q ∈ L, zvr q.2) (hS : ∀ v ∈ st, zvr v) (hl : lv_has ls (zml y) (L.map (zcq base b))) (hd : decode (zb y) pc = .ok (.dcmp o, len)) (ha : zaux y pc (.dcmp o) len ia ib = true) (h : zx y (.dcmp o) len ia ib pc L st σ = some (g, pc1, L1, st1, σ1)) (hg : ∀ P, g = some P → P) (hrc : cells + (σ1.2.2.2 - σ.2.2.2) ≤ R.cells) (hrs : slots + (zsz σ1.2.2.2 - zsz σ.2.2.2) ≤ R.slots)
    (kk : zK p l e R s m args below meth c cA D base b Lx xs y cells slots Q σ pc1 L1 st1 σ1) : zW p l e R s m args below meth c base b H locs cells slots Q pc ls st := by
  simp only [zx] at h
  split at h
  · next q p r =>
    simp only [Option.some.injEq, Prod.mk.injEq] at h
    obtain ⟨rfl, rfl, rfl, rfl, rfl⟩ := h
    refine lv_dcmp C.1 C.2.1 (zlen hd ha) ?_
    have kk2 := zk0 kk hH hL (zcons (zr_of _) (zct (zct hS))) hl
    simp only [zW, List.map_cons, zcv, zit] at kk2
    exact kk2
  · cases h
theorem zcat1 {base b : Nat} {v : zV} (h : Nat.beq (zcat v) 1 = true) : (zcv base b v).category = 1 := by rw [zcat_cv]; exact Nat.eq_of_beq_eq_true h
theorem zbif {α : Type} {x : Bool} {a : α} {z : α} (h : (bif x then some a else none) = some z) : x = true ∧ a = z := by
  cases x
  · cases h
  · exact ⟨rfl, Option.some.inj h⟩
set_option maxHeartbeats 1000000 in
theorem zs_dup {p : Program} {l : Launch} {e : Env} {R : Room} {s : State} {m : MethodId} {args : Array Value} {below : List Frame} {meth : Method} {c : Code} {cA : Nat → ClassId} {D : va_G} {base b Lx : Nat} {xs : Nat → Int32} {y : Nat} {H : Heap} {locs : List Loc} {cells slots : Nat} {Q : State → Prop} {ls : Array Slot} {pc len ia ib pc1 : Nat} {L L1 : zL} {st st1 : List zV} {σ σ1 : zS} {g : Option Prop} (C : zCx p R s m args meth c cA D base b Lx xs y) (hH : zH cA D base b Lx xs s σ H locs cells) (hL : ∀ q ∈ L, zvr q.2) (hS : ∀ v ∈ st, zvr v) (hl : lv_has ls (zml y) (L.map (zcq base b))) (hd : decode (zb y) pc = .ok (.dup, len)) (ha : zaux y pc (.dup) len ia ib = true) (h : zx y (.dup) len ia ib pc L st σ = some (g, pc1, L1, st1, σ1)) (hg : ∀ P, g = some P → P) (hrc : cells + (σ1.2.2.2 - σ.2.2.2) ≤ R.cells) (hrs : slots + (zsz σ1.2.2.2 - zsz σ.2.2.2) ≤ R.slots)
    (kk : zK p l e R s m args below meth c cA D base b Lx xs y cells slots Q σ pc1 L1 st1 σ1) : zW p l e R s m args below meth c base b H locs cells slots Q pc ls st := by
  simp only [zx] at h
  split at h
  · next v r =>
    obtain ⟨hb, h⟩ := zbif h
    simp only [Prod.mk.injEq] at h
    obtain ⟨rfl, rfl, rfl, rfl, rfl⟩ := h
    exact lv_dup C.1 C.2.1 (zlen hd ha) (zcat1 hb) (zk0 kk hH hL (zcons (zch hS) hS) hl)
  · cases h
set_option maxHeartbeats 1000000 in
theorem zs_dup2 {p : Program} {l : Launch} {e : Env} {R : Room} {s : State} {m : MethodId} {args : Array Value} {below : List Frame} {meth : Method} {c : Code} {cA : Nat → ClassId} {D : va_G} {base b Lx : Nat} {xs : Nat → Int32} {y : Nat} {H : Heap} {locs : List Loc} {cells slots : Nat} {Q : State → Prop} {ls : Array Slot} {pc len ia ib pc1 : Nat} {L L1 : zL} {st st1 : List zV} {σ σ1 : zS} {g : Option Prop} (C : zCx p R s m args meth c cA D base b Lx xs y) (hH : zH cA D base b Lx xs s σ H locs cells) (hL : ∀ q ∈ L, zvr q.2) (hS : ∀ v ∈ st, zvr v) (hl : lv_has ls (zml y) (L.map (zcq base b))) (hd : decode (zb y) pc = .ok (.dup2, len)) (ha : zaux y pc (.dup2) len ia ib = true) (h : zx y (.dup2) len ia ib pc L st σ = some (g, pc1, L1, st1, σ1)) (hg : ∀ P, g = some P → P) (hrc : cells + (σ1.2.2.2 - σ.2.2.2) ≤ R.cells) (hrs : slots + (zsz σ1.2.2.2 - zsz σ.2.2.2) ≤ R.slots)
    (kk : zK p l e R s m args below meth c cA D base b Lx xs y cells slots Q σ pc1 L1 st1 σ1) : zW p l e R s m args below meth c base b H locs cells slots Q pc ls st := by
  simp only [zx] at h
  split at h
  · next v w r =>
    obtain ⟨hb, h⟩ := zbif h
    simp only [Prod.mk.injEq] at h
    obtain ⟨rfl, rfl, rfl, rfl, rfl⟩ := h
    simp only [Bool.and_eq_true] at hb
    exact lv_dup2_11 C.1 C.2.1 (zlen hd ha) (zcat1 hb.1) (zcat1 hb.2) (zk0 kk hH hL (zcons (zch hS) (zcons (zch (zct hS)) hS)) hl)
  · cases h
set_option maxHeartbeats 1000000 in
theorem zs_pop {p : Program} {l : Launch} {e : Env} {R : Room} {s : State} {m : MethodId} {args : Array Value} {below : List Frame} {meth : Method} {c : Code} {cA : Nat → ClassId} {D : va_G} {base b Lx : Nat} {xs : Nat → Int32} {y : Nat} {H : Heap} {locs : List Loc} {cells slots : Nat} {Q : State → Prop} {ls : Array Slot} {pc len ia ib pc1 : Nat} {L L1 : zL} {st st1 : List zV} {σ σ1 : zS} {g : Option Prop} (C : zCx p R s m args meth c cA D base b Lx xs y) (hH : zH cA D base b Lx xs s σ H locs cells) (hL : ∀ q ∈ L, zvr q.2) (hS : ∀ v ∈ st, zvr v) (hl : lv_has ls (zml y) (L.map (zcq base b))) (hd : decode (zb y) pc = .ok (.pop, len)) (ha : zaux y pc (.pop) len ia ib = true) (h : zx y (.pop) len ia ib pc L st σ = some (g, pc1, L1, st1, σ1)) (hg : ∀ P, g = some P → P) (hrc : cells + (σ1.2.2.2 - σ.2.2.2) ≤ R.cells) (hrs : slots + (zsz σ1.2.2.2 - zsz σ.2.2.2) ≤ R.slots)
    (kk : zK p l e R s m args below meth c cA D base b Lx xs y cells slots Q σ pc1 L1 st1 σ1) : zW p l e R s m args below meth c base b H locs cells slots Q pc ls st := by
  simp only [zx] at h
  split at h
  · next v r =>
    obtain ⟨hb, h⟩ := zbif h
    simp only [Prod.mk.injEq] at h
    obtain ⟨rfl, rfl, rfl, rfl, rfl⟩ := h
    exact lv_pop C.1 C.2.1 (zlen hd ha) (zcat1 hb) (zk0 kk hH hL (zct hS) hl)
  · cases h
set_option maxHeartbeats 1000000 in
theorem zs_goto {p : Program} {l : Launch} {e : Env} {R : Room} {s : State} {m : MethodId} {args : Array Value} {below : List Frame} {meth : Method} {c : Code} {cA : Nat → ClassId} {D : va_G} {base b Lx : Nat} {xs : Nat → Int32} {y : Nat} {H : Heap} {locs : List Loc} {cells slots : Nat} {Q : State → Prop} {ls : Array Slot} {pc len ia ib pc1 : Nat} {L L1 : zL} {st st1 : List zV} {σ σ1 : zS} {g : Option Prop} {o : Int} (C : zCx p R s m args meth c cA D base b Lx xs y) (hH : zH cA D base b Lx xs s σ H locs cells) (hL : ∀ q ∈ L, zvr q.2) (hS : ∀ v ∈ st, zvr v) (hl : lv_has ls (zml y) (L.map (zcq base b))) (hd : decode (zb y) pc = .ok (.goto o, len)) (ha : zaux y pc (.goto o) len ia ib = true) (h : zx y (.goto o) len ia ib pc L st σ = some (g, pc1, L1, st1, σ1)) (hg : ∀ P, g = some P → P) (hrc : cells + (σ1.2.2.2 - σ.2.2.2) ≤ R.cells) (hrs : slots + (zsz σ1.2.2.2 - zsz σ.2.2.2) ≤ R.slots)
    (kk : zK p l e R s m args below meth c cA D base b Lx xs y cells slots Q σ pc1 L1 st1 σ1) : zW p l e R s m args below meth c base b H locs cells slots Q pc ls st := by
  simp only [zx] at h
  simp only [Option.some.injEq, Prod.mk.injEq] at h
  obtain ⟨rfl, rfl, rfl, rfl, rfl⟩ := h
  simp only [zaux, Bool.and_eq_true, decide_eq_true_eq] at ha
  exact lv_goto C.1 C.2.1 (zlen hd ha.1) ha.2 (zk0 kk hH hL hS hl)
set_option maxHeartbeats 1000000 in
theorem zs_ifnull {p : Program} {l : Launch} {e : Env} {R : Room} {s : State} {m : MethodId} {args : Array Value} {below : List Frame} {meth : Method} {c : Code} {cA : Nat → ClassId} {D : va_G} {base b Lx : Nat} {xs : Nat → Int32} {y : Nat} {H : Heap} {locs : List Loc} {cells slots : Nat} {Q : State → Prop} {ls : Array Slot} {pc len ia ib pc1 : Nat} {L L1 : zL} {st st1 : List zV} {σ σ1 : zS} {g : Option Prop} {o : Int} (C : zCx p R s m args meth c cA D base b Lx xs y) (hH : zH cA D base b Lx xs s σ H locs cells) (hL : ∀ q ∈ L, zvr q.2) (hS : ∀ v ∈ st, zvr v) (hl : lv_has ls (zml y) (L.map (zcq base b))) (hd : decode (zb y) pc = .ok (.ifnull o, len)) (ha : zaux y pc (.ifnull o) len ia ib = true) (h : zx y (.ifnull o) len ia ib pc L st σ = some (g, pc1, L1, st1, σ1)) (hg : ∀ P, g = some P → P) (hrc : cells + (σ1.2.2.2 - σ.2.2.2) ≤ R.cells) (hrs : slots + (zsz σ1.2.2.2 - zsz σ.2.2.2) ≤ R.slots)
    (kk : zK p l e R s m args below meth c cA D base b Lx xs y cells slots Q σ pc1 L1 st1 σ1) : zW p l e R s m args below meth c base b H locs cells slots Q pc ls st := by
  simp only [zx] at h
  simp only [zaux, Bool.and_eq_true, decide_eq_true_eq] at ha
  split at h
  · next q r =>
    split at h
    · simp only [Option.some.injEq, Prod.mk.injEq] at h
      obtain ⟨rfl, rfl, rfl, rfl, rfl⟩ := h
      exact lv_ifnullN C.1 C.2.1 (zlen hd ha.1) ha.2 (zk0 kk hH hL (zct hS) hl)
    · next q =>
      simp only [Option.some.injEq, Prod.mk.injEq] at h
      obtain ⟨rfl, rfl, rfl, rfl, rfl⟩ := h
      simp only [zW, List.map_cons, zcv_r (Nat.succ_ne_zero q)]
      exact lv_ifnull C.1 C.2.1 (zlen hd ha.1) (zk0 kk hH hL (zct hS) hl)
  · cases h
set_option maxHeartbeats 1000000 in
theorem zs_ifnonnull {p : Program} {l : Launch} {e : Env} {R : Room} {s : State} {m : MethodId} {args : Array Value} {below : List Frame} {meth : Method} {c : Code} {cA : Nat → ClassId} {D : va_G} {base b Lx : Nat} {xs : Nat → Int32} {y : Nat} {H : Heap} {locs : List Loc} {cells slots : Nat} {Q : State → Prop} {ls : Array Slot} {pc len ia ib pc1 : Nat} {L L1 : zL} {st st1 : List zV} {σ σ1 : zS} {g : Option Prop} {o : Int} (C : zCx p R s m args meth c cA D base b Lx xs y) (hH : zH cA D base b Lx xs s σ H locs cells) (hL : ∀ q ∈ L, zvr q.2) (hS : ∀ v ∈ st, zvr v) (hl : lv_has ls (zml y) (L.map (zcq base b))) (hd : decode (zb y) pc = .ok (.ifnonnull o, len)) (ha : zaux y pc (.ifnonnull o) len ia ib = true) (h : zx y (.ifnonnull o) len ia ib pc L st σ = some (g, pc1, L1, st1, σ1)) (hg : ∀ P, g = some P → P) (hrc : cells + (σ1.2.2.2 - σ.2.2.2) ≤ R.cells) (hrs : slots + (zsz σ1.2.2.2 - zsz σ.2.2.2) ≤ R.slots)
    (kk : zK p l e R s m args below meth c cA D base b Lx xs y cells slots Q σ pc1 L1 st1 σ1) : zW p l e R s m args below meth c base b H locs cells slots Q pc ls st := by
  simp only [zx] at h
  simp only [zaux, Bool.and_eq_true, decide_eq_true_eq] at ha
  split at h
  · next q r =>
    split at h
    · simp only [Option.some.injEq, Prod.mk.injEq] at h
      obtain ⟨rfl, rfl, rfl, rfl, rfl⟩ := h
      exact lv_ifnonnullN C.1 C.2.1 (zlen hd ha.1) (zk0 kk hH hL (zct hS) hl)
    · next q =>
      simp only [Option.some.injEq, Prod.mk.injEq] at h
      obtain ⟨rfl, rfl, rfl, rfl, rfl⟩ := h
      simp only [zW, List.map_cons, zcv_r (Nat.succ_ne_zero q)]
      exact lv_ifnonnull C.1 C.2.1 (zlen hd ha.1) ha.2 (zk0 kk hH hL (zct hS) hl)
  · cases h
set_option maxHeartbeats 1000000 in
theorem zs_aconst_null {p : Program} {l : Launch} {e : Env} {R : Room} {s : State} {m : MethodId} {args : Array Value} {below : List Frame} {meth : Method} {c : Code} {cA : Nat → ClassId} {D : va_G} {base b Lx : Nat} {xs : Nat → Int32} {y : Nat} {H : Heap} {locs : List Loc} {cells slots : Nat} {Q : State → Prop} {ls : Array Slot} {pc len ia ib pc1 : Nat} {L L1 : zL} {st st1 : List zV} {σ σ1 : zS} {g : Option Prop} (C : zCx p R s m args meth c cA D base b Lx xs y) (hH : zH cA D base b Lx xs s σ H locs cells) (hL : ∀ q ∈ L, zvr q.2) (hS : ∀ v ∈ st, zvr v) (hl : lv_has ls (zml y) (L.map (zcq base b))) (hd : decode (zb y) pc = .ok (.aconst_null, len)) (ha : zaux y pc (.aconst_null) len ia ib = true) (h : zx y (.aconst_null) len ia ib pc L st σ = some (g, pc1, L1, st1, σ1)) (hg : ∀ P, g = some P → P) (hrc : cells + (σ1.2.2.2 - σ.2.2.2) ≤ R.cells) (hrs : slots + (zsz σ1.2.2.2 - zsz σ.2.2.2) ≤ R.slots)
    (kk : zK p l e R s m args below meth c cA D base b Lx xs y cells slots Q σ pc1 L1 st1 σ1) : zW p l e R s m args below meth c base b H locs cells slots Q pc ls st := by
  simp only [zx] at h
  simp only [Option.some.injEq, Prod.mk.injEq] at h
  obtain ⟨rfl, rfl, rfl, rfl, rfl⟩ := h
  exact lv_null C.1 C.2.1 (zlen hd ha) (zk0 kk hH hL (zcons trivial hS) hl)
end
section
theorem zfl_spec {o i ci k : Nat} (h : zfl.any (fun q => decide (q.1 = o ∧ q.2.1 = i ∧ q.2.2.1 = ci ∧ q.2.2.2.1 = k)) = true) : Cond.fieldLink (zR o) i (zT ci k).1 (zT ci k).2.1 (zT ci k).2.2.1 ∈ lw_tbl ∧ ci < 9 ∧ k < znf ci := by
  obtain ⟨q, hq, hd⟩ := List.any_eq_true.mp h
  have h1 := List.all_eq_true.mp zfl_ok q hq
  simp only [Bool.and_eq_true, decide_eq_true_eq] at h1 hd
  obtain ⟨rfl, rfl, rfl, rfl⟩ := hd
  exact ⟨List.mem_of_getElem? h1.1.1, h1.1.2, h1.2⟩
theorem zE_obj {cA : Nat → ClassId} {base b r ci : Nat} {σ : zS} (h : (zsh r).1 = ci) (hc : ci < 9) : zE cA base b σ r = .inr (ci, (List.range (znf ci)).map (zfv base b σ r ci)) := by
  rw [zE, h, if_pos hc, zshn r (by omega), h]
theorem zE_int {cA : Nat → ClassId} {base b r k : Nat} {σ : zS} (h : (zsh r).1 = k) (h1 : ¬ k < 9) (h2 : k ≠ 13) (h3 : k ≠ 14) : zE cA base b σ r = .inl (cA k, ((zsh r).2, .inl (fun j => Int32.ofInt (σ.1 r j)))) := by
  rw [zE, h, if_neg h1, if_neg h2, if_neg h3]
theorem zE_dbl {cA : Nat → ClassId} {base b r : Nat} {σ : zS} (h : (zsh r).1 = 13) : zE cA base b σ r = .inl (cA 13, ((zsh r).2, .inr (.inr (.inr (.inl (fun j => σ.2.2.1 r j)))))) := by
  rw [zE, h, if_neg (by decide), if_pos rfl]
theorem zE_ref {cA : Nat → ClassId} {base b r : Nat} {σ : zS} (h : (zsh r).1 = 14) : zE cA base b σ r = .inl (cA 14, ((zsh r).2, .inr (.inr (.inr (.inr (fun j => zrf base b (σ.2.1 r j))))))) := by
  rw [zE, h, if_neg (by decide), if_neg (by decide), if_pos rfl]
theorem zfv_cv {base b q ci k : Nat} {σ : zS} : zfv base b σ q ci k = zcv base b (bif zfr ci k then vr (σ.2.1 q k) else vi (σ.1 q k)) := by
  unfold zfv
  cases zfr ci k <;> rfl
theorem zget_map {n k : Nat} {f : Nat → Value} (h : k < n) : ((List.range n).map f)[k]? = some (f k) := by simp [h]
theorem zset_map {n k : Nat} {f g : Nat → Value} {v : Value} (hg : g k = v) (ho : ∀ j, j ≠ k → g j = f j) : ((List.range n).map f).set k v = (List.range n).map g := by
  apply List.ext_getElem?
  intro j
  by_cases hj : j < n
  · by_cases hjk : j = k
    · subst hjk
      rw [List.getElem?_set_self (by simpa using hj), zget_map hj, hg]
    · rw [List.getElem?_set_ne (Ne.symm hjk), zget_map hj, zget_map hj, ho j hjk]
  · rw [List.getElem?_eq_none (by simp; omega), List.getElem?_eq_none (by simp; omega)]
theorem zsize {p : Program} {l : Launch} {e : Env} {R : Room} {s : State} {m : MethodId} {args : Array Value} {below : List Frame} {meth : Method} {c : Code} {cA : Nat → ClassId} {D : va_G} {base b : Nat} {H : Heap} {locs : List Loc} {cells slots : Nat} {Q : State → Prop} {σ1 : zS} {g : JFrame} (hP : va_P D vwCl (zws cA base b σ1) H) (hc : 2 ≤ σ1.2.2.2) (he : s.heap.size + cells = base + (σ1.2.2.2 - 1)) (kk : H.size = base + (σ1.2.2.2 - 1) → W p l e R s m args below meth c H locs cells slots Q g) : W p l e R s m args below meth c H locs cells slots Q g := by
  intro T hT X
  have h1 : T.heap.size ≤ s.heap.size + cells := X.same.2.2.1
  rw [hT] at h1
  have h2 := hP (σ1.2.2.2 - 1 - 1) _ (zws_get (cA := cA) (base := base) (b := b) (σ := σ1) (r := σ1.2.2.2 - 1) (by omega) (by omega))
  have h3 : base + (σ1.2.2.2 - 1 - 1) < H.size := h2.lt
  exact kk (by omega) T hT X
theorem zup_ne {I : zI} {r q : Nat} {k v : Int} (h : q ≠ r) : zup I r k v q = I q := by
  funext j
  simp [zup, h]
theorem zupP_ne {I : zP} {r q : Nat} {k : Int} {v : Nat} (h : q ≠ r) : zupP I r k v q = I q := by
  funext j
  simp [zupP, h]
theorem zupD_ne {I : zD} {r q : Nat} {k : Int} {v : UInt64} (h : q ≠ r) : zupD I r k v q = I q := by
  funext j
  simp [zupD, h]
theorem zup_r {σ : zS} {r : Nat} {k v : Int} (h : zRg σ) (hv : zr v) : zRg (zup σ.1 r k v, σ.2) := by
  intro r' hr j hj
  show zr (zup σ.1 r k v r' j)
  unfold zup
  split
  · exact hv
  · exact h r' hr j hj
theorem zscr {I : zI} {r Lx : Nat} {k v : Int} {xs : Nat → Int32} (hr : r ≠ 1000) (h : I 1000 (-1) = Lx ∧ ∀ j : Nat, j < Lx → I 1000 j = (xs j).toInt) : zup I r k v 1000 (-1) = Lx ∧ ∀ j : Nat, j < Lx → zup I r k v 1000 j = (xs j).toInt := by
  rw [zup_ne (Ne.symm hr)]
  exact h

set_option maxHeartbeats 1000000 in
theorem zs_getfield {p : Program} {l : Launch} {e : Env} {R : Room} {s : State} {m : MethodId} {args : Array Value} {below : List Frame} {meth : Method} {c : Code} {cA : Nat → ClassId} {D : va_G} {base b Lx : Nat} {xs : Nat → Int32} {y : Nat} {H : Heap} {locs : List Loc} {cells slots : Nat} {Q : State → Prop} {ls : Array Slot} {pc len ia ib pc1 : Nat} {L L1 : zL} {st st1 : List zV} {σ σ1 : zS} {g : Option Prop} {i : Nat} (C : zCx p R s m args meth c cA D base b Lx xs y) (hH : zH cA D base b Lx xs s σ H locs cells) (hL : ∀ q ∈ L, zvr q.2) (hS : ∀ v ∈ st, zvr v) (hl : lv_has ls (zml y) (L.map (zcq base b))) (hd : decode (zb y) pc = .ok (.getfield i, len)) (ha : zaux y pc (.getfield i) len ia ib = true) (h : zx y (.getfield i) len ia ib pc L st σ = some (g, pc1, L1, st1, σ1)) (hg : ∀ P, g = some P → P) (hrc : cells + (σ1.2.2.2 - σ.2.2.2) ≤ R.cells) (hrs : slots + (zsz σ1.2.2.2 - zsz σ.2.2.2) ≤ R.slots)
    (kk : zK p l e R s m args below meth c cA D base b Lx xs y cells slots Q σ pc1 L1 st1 σ1) : zW p l e R s m args below meth c base b H locs cells slots Q pc ls st := by
  simp only [zx] at h
  simp only [zaux, Bool.and_eq_true] at ha
  split at h
  · next q r =>
    obtain ⟨hb, h⟩ := zbif h
    simp only [Prod.mk.injEq] at h
    obtain ⟨rfl, rfl, rfl, rfl, rfl⟩ := h
    obtain ⟨hw, hc9, hk⟩ := zfl_spec ha.2
    obtain ⟨e1, e2, e3, e4⟩ := zob_spec hb (by omega)
    have kk2 := zk0 kk hH hL (zcons (by
      cases zfr ia ib
      · exact hH.2.2.2.1 q e2 ib (by rw [zshn q (by rw [e1]; exact hc9), e1]; exact hk)
      · exact trivial) (zct hS)) hl
    simp only [zW, List.map_cons, zcv_o e3 e4]
    simp only [zW, List.map_cons, ← zfv_cv] at kk2
    exact va_get (D := D) (ci := ia) (C := zR ia) (T := zT ia) (N := znf ia) C.1 C.2.1 C.2.2.2.2.1 (zuw ia hc9) C.2.2.2.1 C.2.2.2.2.2.2.1 hH.2.2.1 (q - 1) (by rw [zws_get e3 e2, zE_obj e1 hc9]) (zvw ia hc9) ib hk (C.2.2.2.2.1 _ (zgood hw rfl)) (fun _ h => h) (zget_map hk) (zlen hd ha.1) kk2
  · cases h
set_option maxHeartbeats 1000000 in
theorem zs_putfield {p : Program} {l : Launch} {e : Env} {R : Room} {s : State} {m : MethodId} {args : Array Value} {below : List Frame} {meth : Method} {c : Code} {cA : Nat → ClassId} {D : va_G} {base b Lx : Nat} {xs : Nat → Int32} {y : Nat} {H : Heap} {locs : List Loc} {cells slots : Nat} {Q : State → Prop} {ls : Array Slot} {pc len ia ib pc1 : Nat} {L L1 : zL} {st st1 : List zV} {σ σ1 : zS} {g : Option Prop} {i : Nat} (C : zCx p R s m args meth c cA D base b Lx xs y) (hH : zH cA D base b Lx xs s σ H locs cells) (hL : ∀ q ∈ L, zvr q.2) (hS : ∀ v ∈ st, zvr v) (hl : lv_has ls (zml y) (L.map (zcq base b))) (hd : decode (zb y) pc = .ok (.putfield i, len)) (ha : zaux y pc (.putfield i) len ia ib = true) (h : zx y (.putfield i) len ia ib pc L st σ = some (g, pc1, L1, st1, σ1)) (hg : ∀ P, g = some P → P) (hrc : cells + (σ1.2.2.2 - σ.2.2.2) ≤ R.cells) (hrs : slots + (zsz σ1.2.2.2 - zsz σ.2.2.2) ≤ R.slots)
    (kk : zK p l e R s m args below meth c cA D base b Lx xs y cells slots Q σ pc1 L1 st1 σ1) : zW p l e R s m args below meth c base b H locs cells slots Q pc ls st := by
  simp only [zx] at h
  simp only [zaux, Bool.and_eq_true] at ha
  obtain ⟨hw, hc9, hk⟩ := zfl_spec ha.2
  split at h
  · next x q r =>
    obtain ⟨hb, h⟩ := zbif h
    simp only [Prod.mk.injEq] at h
    obtain ⟨rfl, rfl, rfl, rfl, rfl⟩ := h
    simp only [Bool.and_eq_true, Bool.not_eq_true'] at hb
    obtain ⟨⟨hb, hfr⟩, hfin⟩ := hb
    obtain ⟨e1, e2, e3, e4⟩ := zob_spec hb (by omega)
    simp only [zW, List.map_cons, zcv_o e3 e4]
    have hty := (ztf ia hc9 ib hk).1 hfr
    have hx : zr x := zch hS
    refine va_put (D := D) (ci := ia) (C := zR ia) (T := zT ia) (N := znf ia) (v := .int (Int32.ofInt x)) (ty := .int) C.1 C.2.1 C.2.2.2.2.1 (zuw ia hc9) (zty ia) (zty_ok ia hc9) (znm ia hc9) C.2.2.2.1 C.2.2.2.2.2.2.1 hH.2.2.1 zws_D hH.2.2.2.2.2.1 (q - 1) (by rw [zws_get e3 e2, zE_obj e1 hc9]) (zvw ia hc9) ib hk (C.2.2.2.2.1 _ (zgood hw rfl)) (fun _ h => h) hfin (by rw [zty_ok ia hc9 ib hk, hty]) rfl rfl (by simpa using hk) (zlen hd ha.1) (fun H1 locs1 hP1 _ hS1 => ?_)
    rw [zws_set (τ := (zup σ.1 q ib x, σ.2)) e3 e2 rfl (by
      rw [zE_obj e1 hc9]
      congr 2
      symm
      refine zset_map ?_ ?_
      · simp [zfv, hfr, zup]
      · intro j hj
        have : ((j : Int) = ib) = False := by simp; omega
        simp [zfv, zup, this]) (fun q' hq' => zE_congr (zup_ne hq') rfl rfl)] at hP1
    refine zsize hP1 (by show 2 ≤ σ.2.2.2; omega) hH.2.2.2.2.2.2 (fun hz => ?_)
    exact zkc kk rfl ⟨hH.1, hz, hP1, zup_r hH.2.2.2.1 hx, zscr e4 hH.2.2.2.2.1, hS1, hH.2.2.2.2.2.2⟩ hL (zct (zct hS)) hl
  · next x q r =>
    obtain ⟨hb, h⟩ := zbif h
    simp only [Prod.mk.injEq] at h
    obtain ⟨rfl, rfl, rfl, rfl, rfl⟩ := h
    simp only [Bool.and_eq_true] at hb
    obtain ⟨⟨⟨⟨hb, hfr⟩, hfin⟩, hini⟩, hown⟩ := hb
    obtain ⟨e1, e2, e3, e4⟩ := zob_spec hb (by omega)
    simp only [zW, List.map_cons, zcv_o e3 e4]
    have hown := Nat.eq_of_beq_eq_true hown
    have hdecl : (zT ia ib).1 = zR ia := by
      have h0 : (List.range 9).all (fun c => (List.range (znf c)).all (fun k => decide ((zT c k).1 = zR c))) = true := by decide +kernel
      exact decide_eq_true_eq.mp (List.all_eq_true.mp (List.all_eq_true.mp h0 ia (List.mem_range.mpr hc9)) ib (List.mem_range.mpr hk))
    have hty := (ztf ia hc9 ib hk).2 hfr
    refine va_putF (D := D) (ci := ia) (C := zR ia) (T := zT ia) (N := znf ia) (v := zcv base b (vr x)) (ty := zty ia ib) C.1 C.2.1 C.2.2.2.2.1 (zuw ia hc9) (zty ia) (zty_ok ia hc9) (znm ia hc9) C.2.2.2.1 C.2.2.2.2.2.2.1 hH.2.2.1 zws_D hH.2.2.2.2.2.1 (q - 1) (by rw [zws_get e3 e2, zE_obj e1 hc9]) (zvw ia hc9) ib hk (C.2.2.2.2.1 _ (zgood hw rfl)) (fun _ h => h) hfin (C.2.2.2.2.2.1 hini) (by rw [hdecl, hown]) (zty_ok ia hc9 ib hk) (by
      rcases hty with ⟨C0, e⟩ | ⟨t, e⟩ <;> rw [e] <;> show narrow _ (va_rf (zrf base b x)) = va_rf (zrf base b x) <;> cases zrf base b x <;> rfl) (by
      rcases hty with ⟨C0, e⟩ | ⟨t, e⟩ <;> rw [e] <;> show fits _ (va_rf (zrf base b x)) = true <;> cases zrf base b x <;> rfl) (by simpa using hk) (zlen hd ha.1) (fun H1 locs1 hP1 _ hS1 => ?_)
    rw [zws_set (τ := (σ.1, zupP σ.2.1 q ib x, σ.2.2)) e3 e2 rfl (by
      rw [zE_obj e1 hc9]
      congr 2
      symm
      refine zset_map ?_ ?_
      · simp [zfv, hfr, zupP, zcv]
      · intro j hj
        have : ((j : Int) = ib) = False := by simp; omega
        simp [zfv, zupP, this]) (fun q' hq' => zE_congr rfl (zupP_ne hq') rfl)] at hP1
    refine zsize hP1 (by show 2 ≤ σ.2.2.2; omega) hH.2.2.2.2.2.2 (fun hz => ?_)
    exact zkc kk rfl ⟨hH.1, hz, hP1, hH.2.2.2.1, hH.2.2.2.2.1, hS1, hH.2.2.2.2.2.2⟩ hL (zct (zct hS)) hl
  · cases h
set_option maxHeartbeats 1000000 in
theorem zs_iaload {p : Program} {l : Launch} {e : Env} {R : Room} {s : State} {m : MethodId} {args : Array Value} {below : List Frame} {meth : Method} {c : Code} {cA : Nat → ClassId} {D : va_G} {base b Lx : Nat} {xs : Nat → Int32} {y : Nat} {H : Heap} {locs : List Loc} {cells slots : Nat} {Q : State → Prop} {ls : Array Slot} {pc len ia ib pc1 : Nat} {L L1 : zL} {st st1 : List zV} {σ σ1 : zS} {g : Option Prop} (C : zCx p R s m args meth c cA D base b Lx xs y) (hH : zH cA D base b Lx xs s σ H locs cells) (hL : ∀ q ∈ L, zvr q.2) (hS : ∀ v ∈ st, zvr v) (hl : lv_has ls (zml y) (L.map (zcq base b))) (hd : decode (zb y) pc = .ok (.iaload, len)) (ha : zaux y pc (.iaload) len ia ib = true) (h : zx y (.iaload) len ia ib pc L st σ = some (g, pc1, L1, st1, σ1)) (hg : ∀ P, g = some P → P) (hrc : cells + (σ1.2.2.2 - σ.2.2.2) ≤ R.cells) (hrs : slots + (zsz σ1.2.2.2 - zsz σ.2.2.2) ≤ R.slots)
    (kk : zK p l e R s m args below meth c cA D base b Lx xs y cells slots Q σ pc1 L1 st1 σ1) : zW p l e R s m args below meth c base b H locs cells slots Q pc ls st := by
  simp only [zx] at h
  split at h
  · next j q r =>
    cases hs : (Nat.beq q 1000 && Nat.beq y zlaw)
    · rw [hs] at h
      simp only [cond_false] at h
      obtain ⟨hb, h⟩ := zbif h
      simp only [Prod.mk.injEq] at h
      obtain ⟨rfl, rfl, rfl, rfl, rfl⟩ := h
      obtain ⟨e1, e2, e3, e4⟩ := zob_spec hb (by decide)
      obtain ⟨g1, g2⟩ := hg _ rfl
      obtain ⟨f1, f2⟩ := z_in (n := (zsh q).2) g1 g2 (by have := zsh_le q; omega)
      simp only [zW, List.map_cons, zcv_o e3 e4]
      refine va_iald C.1 C.2.1 C.2.2.2.2.2.2.1 hH.2.2.1 (q - 1) 0 (by rw [zws_get e3 e2, zE_int e1 (by decide) (by decide) (by decide)]) rfl f1 (zlen hd ha) ?_
      have kk2 := zk0 kk hH hL (zcons (zrg_at hH.2.2.2.1 e2 g1 g2) (zct (zct hS))) hl
      simp only [f2, Int.toNat_of_nonneg g1]
      exact kk2
    · rw [hs] at h
      simp only [cond_true, Option.some.injEq] at h
      simp only [Prod.mk.injEq] at h
      obtain ⟨rfl, rfl, rfl, rfl, rfl⟩ := h
      simp only [Bool.and_eq_true] at hs
      have hq := Nat.eq_of_beq_eq_true hs.1
      have hy := Nat.eq_of_beq_eq_true hs.2
      subst hq
      obtain ⟨hbb, hX⟩ := C.2.2.2.2.2.2.2.2.2.2.2.2.1 hy
      obtain ⟨hL1, hL2⟩ := hH.2.2.2.2.1
      obtain ⟨g1, g2⟩ := hg _ rfl
      rw [hL1] at g2
      have hL3 := C.2.2.2.2.2.2.2.2.2.2.2.1
      obtain ⟨f1, f2⟩ := z_in (n := Lx) g1 g2 (by omega)
      simp only [zW, List.map_cons, zcv_r (show (1000 : Nat) ≠ 0 by decide)]
      refine va_sld (b := b) (L := Lx) C.1 C.2.1 hX (Nat.lt_of_lt_of_le hbb C.2.2.2.2.2.2.2.2.2.2.2.2.2) (Nat.not_le.mpr hbb) hH.2.2.2.2.2.1 f1 (zlen hd ha) ?_
      have e9 := hL2 j.toNat (by omega)
      rw [Int.toNat_of_nonneg g1] at e9
      have kk2 := zk0 kk hH hL (zcons (show zr (σ.1 1000 j) by rw [e9]; exact zr_of _) (zct (zct hS))) hl
      simp only [zW, List.map_cons, zcv, e9, zit] at kk2
      rw [f2]
      exact kk2
  · cases h
set_option maxHeartbeats 1000000 in
theorem zs_caload {p : Program} {l : Launch} {e : Env} {R : Room} {s : State} {m : MethodId} {args : Array Value} {below : List Frame} {meth : Method} {c : Code} {cA : Nat → ClassId} {D : va_G} {base b Lx : Nat} {xs : Nat → Int32} {y : Nat} {H : Heap} {locs : List Loc} {cells slots : Nat} {Q : State → Prop} {ls : Array Slot} {pc len ia ib pc1 : Nat} {L L1 : zL} {st st1 : List zV} {σ σ1 : zS} {g : Option Prop} (C : zCx p R s m args meth c cA D base b Lx xs y) (hH : zH cA D base b Lx xs s σ H locs cells) (hL : ∀ q ∈ L, zvr q.2) (hS : ∀ v ∈ st, zvr v) (hl : lv_has ls (zml y) (L.map (zcq base b))) (hd : decode (zb y) pc = .ok (.caload, len)) (ha : zaux y pc (.caload) len ia ib = true) (h : zx y (.caload) len ia ib pc L st σ = some (g, pc1, L1, st1, σ1)) (hg : ∀ P, g = some P → P) (hrc : cells + (σ1.2.2.2 - σ.2.2.2) ≤ R.cells) (hrs : slots + (zsz σ1.2.2.2 - zsz σ.2.2.2) ≤ R.slots)
    (kk : zK p l e R s m args below meth c cA D base b Lx xs y cells slots Q σ pc1 L1 st1 σ1) : zW p l e R s m args below meth c base b H locs cells slots Q pc ls st := by
  simp only [zx] at h
  split at h
  · next j q r =>
    obtain ⟨hb, h⟩ := zbif h
    simp only [Prod.mk.injEq] at h
    obtain ⟨rfl, rfl, rfl, rfl, rfl⟩ := h
    obtain ⟨e1, e2, e3, e4⟩ := zob_spec hb (by decide)
    obtain ⟨g1, g2⟩ := hg _ rfl
    obtain ⟨f1, f2⟩ := z_in (n := (zsh q).2) g1 g2 (by have := zsh_le q; omega)
    simp only [zW, List.map_cons, zcv_o e3 e4]
    refine va_cald C.1 C.2.1 C.2.2.2.2.2.2.1 hH.2.2.1 (q - 1) 1 (by rw [zws_get e3 e2, zE_int e1 (by decide) (by decide) (by decide)]) rfl f1 (zlen hd ha) ?_
    have kk2 := zk0 kk hH hL (zcons (zrg_at hH.2.2.2.1 e2 g1 g2) (zct (zct hS))) hl
    simp only [f2, Int.toNat_of_nonneg g1]
    exact kk2
  · cases h
set_option maxHeartbeats 1000000 in
theorem zs_baload {p : Program} {l : Launch} {e : Env} {R : Room} {s : State} {m : MethodId} {args : Array Value} {below : List Frame} {meth : Method} {c : Code} {cA : Nat → ClassId} {D : va_G} {base b Lx : Nat} {xs : Nat → Int32} {y : Nat} {H : Heap} {locs : List Loc} {cells slots : Nat} {Q : State → Prop} {ls : Array Slot} {pc len ia ib pc1 : Nat} {L L1 : zL} {st st1 : List zV} {σ σ1 : zS} {g : Option Prop} (C : zCx p R s m args meth c cA D base b Lx xs y) (hH : zH cA D base b Lx xs s σ H locs cells) (hL : ∀ q ∈ L, zvr q.2) (hS : ∀ v ∈ st, zvr v) (hl : lv_has ls (zml y) (L.map (zcq base b))) (hd : decode (zb y) pc = .ok (.baload, len)) (ha : zaux y pc (.baload) len ia ib = true) (h : zx y (.baload) len ia ib pc L st σ = some (g, pc1, L1, st1, σ1)) (hg : ∀ P, g = some P → P) (hrc : cells + (σ1.2.2.2 - σ.2.2.2) ≤ R.cells) (hrs : slots + (zsz σ1.2.2.2 - zsz σ.2.2.2) ≤ R.slots)
    (kk : zK p l e R s m args below meth c cA D base b Lx xs y cells slots Q σ pc1 L1 st1 σ1) : zW p l e R s m args below meth c base b H locs cells slots Q pc ls st := by
  simp only [zx] at h
  split at h
  · next j q r =>
    obtain ⟨hb, h⟩ := zbif h
    simp only [Prod.mk.injEq] at h
    obtain ⟨rfl, rfl, rfl, rfl, rfl⟩ := h
    obtain ⟨e1, e2, e3, e4⟩ := zob_spec hb (by decide)
    obtain ⟨g1, g2⟩ := hg _ rfl
    obtain ⟨f1, f2⟩ := z_in (n := (zsh q).2) g1 g2 (by have := zsh_le q; omega)
    simp only [zW, List.map_cons, zcv_o e3 e4]
    refine va_zald C.1 C.2.1 C.2.2.2.2.2.2.1 hH.2.2.1 (q - 1) 2 (by rw [zws_get e3 e2, zE_int e1 (by decide) (by decide) (by decide)]) rfl f1 (zlen hd ha) ?_
    have kk2 := zk0 kk hH hL (zcons (zrg_at hH.2.2.2.1 e2 g1 g2) (zct (zct hS))) hl
    simp only [f2, Int.toNat_of_nonneg g1]
    exact kk2
  · cases h
set_option maxHeartbeats 1000000 in
theorem zs_daload {p : Program} {l : Launch} {e : Env} {R : Room} {s : State} {m : MethodId} {args : Array Value} {below : List Frame} {meth : Method} {c : Code} {cA : Nat → ClassId} {D : va_G} {base b Lx : Nat} {xs : Nat → Int32} {y : Nat} {H : Heap} {locs : List Loc} {cells slots : Nat} {Q : State → Prop} {ls : Array Slot} {pc len ia ib pc1 : Nat} {L L1 : zL} {st st1 : List zV} {σ σ1 : zS} {g : Option Prop} (C : zCx p R s m args meth c cA D base b Lx xs y) (hH : zH cA D base b Lx xs s σ H locs cells) (hL : ∀ q ∈ L, zvr q.2) (hS : ∀ v ∈ st, zvr v) (hl : lv_has ls (zml y) (L.map (zcq base b))) (hd : decode (zb y) pc = .ok (.daload, len)) (ha : zaux y pc (.daload) len ia ib = true) (h : zx y (.daload) len ia ib pc L st σ = some (g, pc1, L1, st1, σ1)) (hg : ∀ P, g = some P → P) (hrc : cells + (σ1.2.2.2 - σ.2.2.2) ≤ R.cells) (hrs : slots + (zsz σ1.2.2.2 - zsz σ.2.2.2) ≤ R.slots)
    (kk : zK p l e R s m args below meth c cA D base b Lx xs y cells slots Q σ pc1 L1 st1 σ1) : zW p l e R s m args below meth c base b H locs cells slots Q pc ls st := by
  simp only [zx] at h
  split at h
  · next j q r =>
    obtain ⟨hb, h⟩ := zbif h
    simp only [Prod.mk.injEq] at h
    obtain ⟨rfl, rfl, rfl, rfl, rfl⟩ := h
    obtain ⟨e1, e2, e3, e4⟩ := zob_spec hb (by decide)
    obtain ⟨g1, g2⟩ := hg _ rfl
    obtain ⟨f1, f2⟩ := z_in (n := (zsh q).2) g1 g2 (by have := zsh_le q; omega)
    simp only [zW, List.map_cons, zcv_o e3 e4]
    refine va_dald C.1 C.2.1 C.2.2.2.2.2.2.1 hH.2.2.1 (q - 1) 3 (by rw [zws_get e3 e2, zE_dbl e1]) rfl f1 (zlen hd ha) ?_
    have kk2 := zk0 kk hH hL (zcons trivial (zct (zct hS))) hl
    simp only [f2, Int.toNat_of_nonneg g1]
    exact kk2
  · cases h
set_option maxHeartbeats 1000000 in
theorem zs_aaload {p : Program} {l : Launch} {e : Env} {R : Room} {s : State} {m : MethodId} {args : Array Value} {below : List Frame} {meth : Method} {c : Code} {cA : Nat → ClassId} {D : va_G} {base b Lx : Nat} {xs : Nat → Int32} {y : Nat} {H : Heap} {locs : List Loc} {cells slots : Nat} {Q : State → Prop} {ls : Array Slot} {pc len ia ib pc1 : Nat} {L L1 : zL} {st st1 : List zV} {σ σ1 : zS} {g : Option Prop} (C : zCx p R s m args meth c cA D base b Lx xs y) (hH : zH cA D base b Lx xs s σ H locs cells) (hL : ∀ q ∈ L, zvr q.2) (hS : ∀ v ∈ st, zvr v) (hl : lv_has ls (zml y) (L.map (zcq base b))) (hd : decode (zb y) pc = .ok (.aaload, len)) (ha : zaux y pc (.aaload) len ia ib = true) (h : zx y (.aaload) len ia ib pc L st σ = some (g, pc1, L1, st1, σ1)) (hg : ∀ P, g = some P → P) (hrc : cells + (σ1.2.2.2 - σ.2.2.2) ≤ R.cells) (hrs : slots + (zsz σ1.2.2.2 - zsz σ.2.2.2) ≤ R.slots)
    (kk : zK p l e R s m args below meth c cA D base b Lx xs y cells slots Q σ pc1 L1 st1 σ1) : zW p l e R s m args below meth c base b H locs cells slots Q pc ls st := by
  simp only [zx] at h
  split at h
  · next j q r =>
    obtain ⟨hb, h⟩ := zbif h
    simp only [Prod.mk.injEq] at h
    obtain ⟨rfl, rfl, rfl, rfl, rfl⟩ := h
    obtain ⟨e1, e2, e3, e4⟩ := zob_spec hb (by decide)
    obtain ⟨g1, g2⟩ := hg _ rfl
    obtain ⟨f1, f2⟩ := z_in (n := (zsh q).2) g1 g2 (by have := zsh_le q; omega)
    simp only [zW, List.map_cons, zcv_o e3 e4]
    refine va_aldq C.1 C.2.1 C.2.2.2.2.2.2.1 hH.2.2.1 (q - 1) 4 (by rw [zws_get e3 e2, zE_ref e1]) rfl f1 (zlen hd ha) ?_
    have kk2 := zk0 kk hH hL (zcons trivial (zct (zct hS))) hl
    simp only [f2, Int.toNat_of_nonneg g1]
    exact kk2
  · cases h
set_option maxHeartbeats 1000000 in
theorem zs_iastore {p : Program} {l : Launch} {e : Env} {R : Room} {s : State} {m : MethodId} {args : Array Value} {below : List Frame} {meth : Method} {c : Code} {cA : Nat → ClassId} {D : va_G} {base b Lx : Nat} {xs : Nat → Int32} {y : Nat} {H : Heap} {locs : List Loc} {cells slots : Nat} {Q : State → Prop} {ls : Array Slot} {pc len ia ib pc1 : Nat} {L L1 : zL} {st st1 : List zV} {σ σ1 : zS} {g : Option Prop} (C : zCx p R s m args meth c cA D base b Lx xs y) (hH : zH cA D base b Lx xs s σ H locs cells) (hL : ∀ q ∈ L, zvr q.2) (hS : ∀ v ∈ st, zvr v) (hl : lv_has ls (zml y) (L.map (zcq base b))) (hd : decode (zb y) pc = .ok (.iastore, len)) (ha : zaux y pc (.iastore) len ia ib = true) (h : zx y (.iastore) len ia ib pc L st σ = some (g, pc1, L1, st1, σ1)) (hg : ∀ P, g = some P → P) (hrc : cells + (σ1.2.2.2 - σ.2.2.2) ≤ R.cells) (hrs : slots + (zsz σ1.2.2.2 - zsz σ.2.2.2) ≤ R.slots)
    (kk : zK p l e R s m args below meth c cA D base b Lx xs y cells slots Q σ pc1 L1 st1 σ1) : zW p l e R s m args below meth c base b H locs cells slots Q pc ls st := by
  simp only [zx] at h
  split at h
  · next x j q r =>
    obtain ⟨hb, h⟩ := zbif h
    simp only [Prod.mk.injEq] at h
    obtain ⟨rfl, rfl, rfl, rfl, rfl⟩ := h
    obtain ⟨e1, e2, e3, e4⟩ := zob_spec hb (by decide)
    obtain ⟨g1, g2⟩ := hg _ rfl
    obtain ⟨f1, f2⟩ := z_in (n := (zsh q).2) g1 g2 (by have := zsh_le q; omega)
    simp only [zW, List.map_cons, zcv_o e3 e4]
    refine va_iast C.1 C.2.1 C.2.2.2.2.2.2.1 hH.2.2.1 zws_D hH.2.2.2.2.2.1 (q - 1) 0 (by rw [zws_get e3 e2, zE_int e1 (by decide) (by decide) (by decide)]) rfl f1 (zlen hd ha) (fun H1 locs1 hP1 _ hS1 => ?_)
    rw [zws_set (τ := (zup σ.1 q j x, σ.2)) e3 e2 rfl (by
      rw [zE_int e1 (by decide) (by decide) (by decide)]
      congr 3
      congr 1
      funext k
      rw [f2]
      by_cases hk : k = j.toNat
      · subst hk
        simp [upd, zup, Int.toNat_of_nonneg g1]
      · have : ((k : Int) = j) = False := by simp; omega
        simp [upd, zup, this, hk]) (fun q' hq' => zE_congr (zup_ne hq') rfl rfl)] at hP1
    refine zsize hP1 (by show 2 ≤ σ.2.2.2; omega) hH.2.2.2.2.2.2 (fun hz => ?_)
    exact zkc kk rfl ⟨hH.1, hz, hP1, zup_r hH.2.2.2.1 (zch hS), zscr e4 hH.2.2.2.2.1, hS1, hH.2.2.2.2.2.2⟩ hL (zct (zct (zct hS))) hl
  · cases h
set_option maxHeartbeats 1000000 in
theorem zs_bastore {p : Program} {l : Launch} {e : Env} {R : Room} {s : State} {m : MethodId} {args : Array Value} {below : List Frame} {meth : Method} {c : Code} {cA : Nat → ClassId} {D : va_G} {base b Lx : Nat} {xs : Nat → Int32} {y : Nat} {H : Heap} {locs : List Loc} {cells slots : Nat} {Q : State → Prop} {ls : Array Slot} {pc len ia ib pc1 : Nat} {L L1 : zL} {st st1 : List zV} {σ σ1 : zS} {g : Option Prop} (C : zCx p R s m args meth c cA D base b Lx xs y) (hH : zH cA D base b Lx xs s σ H locs cells) (hL : ∀ q ∈ L, zvr q.2) (hS : ∀ v ∈ st, zvr v) (hl : lv_has ls (zml y) (L.map (zcq base b))) (hd : decode (zb y) pc = .ok (.bastore, len)) (ha : zaux y pc (.bastore) len ia ib = true) (h : zx y (.bastore) len ia ib pc L st σ = some (g, pc1, L1, st1, σ1)) (hg : ∀ P, g = some P → P) (hrc : cells + (σ1.2.2.2 - σ.2.2.2) ≤ R.cells) (hrs : slots + (zsz σ1.2.2.2 - zsz σ.2.2.2) ≤ R.slots)
    (kk : zK p l e R s m args below meth c cA D base b Lx xs y cells slots Q σ pc1 L1 st1 σ1) : zW p l e R s m args below meth c base b H locs cells slots Q pc ls st := by
  simp only [zx] at h
  split at h
  · next x j q r =>
    obtain ⟨hb, h⟩ := zbif h
    simp only [Prod.mk.injEq] at h
    obtain ⟨rfl, rfl, rfl, rfl, rfl⟩ := h
    obtain ⟨e1, e2, e3, e4⟩ := zob_spec hb (by decide)
    obtain ⟨⟨g1, g2⟩, g3⟩ := hg _ rfl
    have g4 : vp_nar .boolean (Int32.ofInt x) = Int32.ofInt x := by rcases g3 with rfl | rfl <;> rfl
    obtain ⟨f1, f2⟩ := z_in (n := (zsh q).2) g1 g2 (by have := zsh_le q; omega)
    simp only [zW, List.map_cons, zcv_o e3 e4]
    refine va_zast C.1 C.2.1 C.2.2.2.2.2.2.1 hH.2.2.1 zws_D hH.2.2.2.2.2.1 (q - 1) 2 (by rw [zws_get e3 e2, zE_int e1 (by decide) (by decide) (by decide)]) rfl f1 (zlen hd ha) (fun H1 locs1 hP1 _ hS1 => ?_)
    rw [zws_set (τ := (zup σ.1 q j x, σ.2)) e3 e2 rfl (by
      rw [zE_int e1 (by decide) (by decide) (by decide)]
      congr 3
      congr 1
      funext k
      rw [f2]
      by_cases hk : k = j.toNat
      · subst hk
        simp [upd, zup, Int.toNat_of_nonneg g1, g4]
      · have : ((k : Int) = j) = False := by simp; omega
        simp [upd, zup, this, hk]) (fun q' hq' => zE_congr (zup_ne hq') rfl rfl)] at hP1
    refine zsize hP1 (by show 2 ≤ σ.2.2.2; omega) hH.2.2.2.2.2.2 (fun hz => ?_)
    exact zkc kk rfl ⟨hH.1, hz, hP1, zup_r hH.2.2.2.1 (zch hS), zscr e4 hH.2.2.2.2.1, hS1, hH.2.2.2.2.2.2⟩ hL (zct (zct (zct hS))) hl
  · cases h
set_option maxHeartbeats 1000000 in
theorem zs_castore {p : Program} {l : Launch} {e : Env} {R : Room} {s : State} {m : MethodId} {args : Array Value} {below : List Frame} {meth : Method} {c : Code} {cA : Nat → ClassId} {D : va_G} {base b Lx : Nat} {xs : Nat → Int32} {y : Nat} {H : Heap} {locs : List Loc} {cells slots : Nat} {Q : State → Prop} {ls : Array Slot} {pc len ia ib pc1 : Nat} {L L1 : zL} {st st1 : List zV} {σ σ1 : zS} {g : Option Prop} (C : zCx p R s m args meth c cA D base b Lx xs y) (hH : zH cA D base b Lx xs s σ H locs cells) (hL : ∀ q ∈ L, zvr q.2) (hS : ∀ v ∈ st, zvr v) (hl : lv_has ls (zml y) (L.map (zcq base b))) (hd : decode (zb y) pc = .ok (.castore, len)) (ha : zaux y pc (.castore) len ia ib = true) (h : zx y (.castore) len ia ib pc L st σ = some (g, pc1, L1, st1, σ1)) (hg : ∀ P, g = some P → P) (hrc : cells + (σ1.2.2.2 - σ.2.2.2) ≤ R.cells) (hrs : slots + (zsz σ1.2.2.2 - zsz σ.2.2.2) ≤ R.slots)
    (kk : zK p l e R s m args below meth c cA D base b Lx xs y cells slots Q σ pc1 L1 st1 σ1) : zW p l e R s m args below meth c base b H locs cells slots Q pc ls st := by
  simp only [zx] at h
  split at h
  · next x j q r =>
    obtain ⟨hb, h⟩ := zbif h
    simp only [Prod.mk.injEq] at h
    obtain ⟨rfl, rfl, rfl, rfl, rfl⟩ := h
    obtain ⟨e1, e2, e3, e4⟩ := zob_spec hb (by decide)
    obtain ⟨⟨g1, g2⟩, g3, g5⟩ := hg _ rfl
    have g4 : vp_nar .char (Int32.ofInt x) = Int32.ofInt x := by
      rw [← z_i2c g3 g5]
      exact pk_vc _
    obtain ⟨f1, f2⟩ := z_in (n := (zsh q).2) g1 g2 (by have := zsh_le q; omega)
    simp only [zW, List.map_cons, zcv_o e3 e4]
    refine va_cast C.1 C.2.1 C.2.2.2.2.2.2.1 hH.2.2.1 zws_D hH.2.2.2.2.2.1 (q - 1) 1 (by rw [zws_get e3 e2, zE_int e1 (by decide) (by decide) (by decide)]) rfl f1 (zlen hd ha) (fun H1 locs1 hP1 _ hS1 => ?_)
    rw [zws_set (τ := (zup σ.1 q j x, σ.2)) e3 e2 rfl (by
      rw [zE_int e1 (by decide) (by decide) (by decide)]
      congr 3
      congr 1
      funext k
      rw [f2]
      by_cases hk : k = j.toNat
      · subst hk
        simp [upd, zup, Int.toNat_of_nonneg g1, g4]
      · have : ((k : Int) = j) = False := by simp; omega
        simp [upd, zup, this, hk]) (fun q' hq' => zE_congr (zup_ne hq') rfl rfl)] at hP1
    refine zsize hP1 (by show 2 ≤ σ.2.2.2; omega) hH.2.2.2.2.2.2 (fun hz => ?_)
    exact zkc kk rfl ⟨hH.1, hz, hP1, zup_r hH.2.2.2.1 (zch hS), zscr e4 hH.2.2.2.2.1, hS1, hH.2.2.2.2.2.2⟩ hL (zct (zct (zct hS))) hl
  · cases h
set_option maxHeartbeats 1000000 in
theorem zs_dastore {p : Program} {l : Launch} {e : Env} {R : Room} {s : State} {m : MethodId} {args : Array Value} {below : List Frame} {meth : Method} {c : Code} {cA : Nat → ClassId} {D : va_G} {base b Lx : Nat} {xs : Nat → Int32} {y : Nat} {H : Heap} {locs : List Loc} {cells slots : Nat} {Q : State → Prop} {ls : Array Slot} {pc len ia ib pc1 : Nat} {L L1 : zL} {st st1 : List zV} {σ σ1 : zS} {g : Option Prop} (C : zCx p R s m args meth c cA D base b Lx xs y) (hH : zH cA D base b Lx xs s σ H locs cells) (hL : ∀ q ∈ L, zvr q.2) (hS : ∀ v ∈ st, zvr v) (hl : lv_has ls (zml y) (L.map (zcq base b))) (hd : decode (zb y) pc = .ok (.dastore, len)) (ha : zaux y pc (.dastore) len ia ib = true) (h : zx y (.dastore) len ia ib pc L st σ = some (g, pc1, L1, st1, σ1)) (hg : ∀ P, g = some P → P) (hrc : cells + (σ1.2.2.2 - σ.2.2.2) ≤ R.cells) (hrs : slots + (zsz σ1.2.2.2 - zsz σ.2.2.2) ≤ R.slots)
    (kk : zK p l e R s m args below meth c cA D base b Lx xs y cells slots Q σ pc1 L1 st1 σ1) : zW p l e R s m args below meth c base b H locs cells slots Q pc ls st := by
  simp only [zx] at h
  split at h
  · next x j q r =>
    obtain ⟨hb, h⟩ := zbif h
    simp only [Prod.mk.injEq] at h
    obtain ⟨rfl, rfl, rfl, rfl, rfl⟩ := h
    obtain ⟨e1, e2, e3, e4⟩ := zob_spec hb (by decide)
    obtain ⟨g1, g2⟩ := hg _ rfl
    obtain ⟨f1, f2⟩ := z_in (n := (zsh q).2) g1 g2 (by have := zsh_le q; omega)
    simp only [zW, List.map_cons, zcv_o e3 e4]
    refine va_dast C.1 C.2.1 C.2.2.2.2.2.2.1 hH.2.2.1 zws_D hH.2.2.2.2.2.1 (q - 1) 3 (by rw [zws_get e3 e2, zE_dbl e1]) rfl f1 (zlen hd ha) (fun H1 locs1 hP1 _ hS1 => ?_)
    rw [zws_set (τ := (σ.1, σ.2.1, zupD σ.2.2.1 q j x, σ.2.2.2)) e3 e2 rfl (by
      rw [zE_dbl e1]
      congr 3
      congr 4
      funext k
      rw [f2]
      by_cases hk : k = j.toNat
      · subst hk
        simp [vf_upd, zupD, Int.toNat_of_nonneg g1]
      · have : ((k : Int) = j) = False := by simp; omega
        simp [vf_upd, zupD, this, hk]) (fun q' hq' => zE_congr rfl rfl (zupD_ne hq'))] at hP1
    refine zsize hP1 (by show 2 ≤ σ.2.2.2; omega) hH.2.2.2.2.2.2 (fun hz => ?_)
    exact zkc kk rfl ⟨hH.1, hz, hP1, hH.2.2.2.1, hH.2.2.2.2.1, hS1, hH.2.2.2.2.2.2⟩ hL (zct (zct (zct hS))) hl
  · cases h
set_option maxHeartbeats 1000000 in
theorem zs_aastore {p : Program} {l : Launch} {e : Env} {R : Room} {s : State} {m : MethodId} {args : Array Value} {below : List Frame} {meth : Method} {c : Code} {cA : Nat → ClassId} {D : va_G} {base b Lx : Nat} {xs : Nat → Int32} {y : Nat} {H : Heap} {locs : List Loc} {cells slots : Nat} {Q : State → Prop} {ls : Array Slot} {pc len ia ib pc1 : Nat} {L L1 : zL} {st st1 : List zV} {σ σ1 : zS} {g : Option Prop} (C : zCx p R s m args meth c cA D base b Lx xs y) (hH : zH cA D base b Lx xs s σ H locs cells) (hL : ∀ q ∈ L, zvr q.2) (hS : ∀ v ∈ st, zvr v) (hl : lv_has ls (zml y) (L.map (zcq base b))) (hd : decode (zb y) pc = .ok (.aastore, len)) (ha : zaux y pc (.aastore) len ia ib = true) (h : zx y (.aastore) len ia ib pc L st σ = some (g, pc1, L1, st1, σ1)) (hg : ∀ P, g = some P → P) (hrc : cells + (σ1.2.2.2 - σ.2.2.2) ≤ R.cells) (hrs : slots + (zsz σ1.2.2.2 - zsz σ.2.2.2) ≤ R.slots)
    (kk : zK p l e R s m args below meth c cA D base b Lx xs y cells slots Q σ pc1 L1 st1 σ1) : zW p l e R s m args below meth c base b H locs cells slots Q pc ls st := by
  simp only [zx] at h
  split at h
  · next x j q r =>
    obtain ⟨hb, h⟩ := zbif h
    simp only [Prod.mk.injEq] at h
    obtain ⟨rfl, rfl, rfl, rfl, rfl⟩ := h
    obtain ⟨e1, e2, e3, e4⟩ := zob_spec hb (by decide)
    obtain ⟨⟨g1, g2⟩, g3⟩ := hg _ rfl
    obtain ⟨e5, e6, e7, e8⟩ := zob_spec g3 (by decide)
    obtain ⟨f1, f2⟩ := z_in (n := (zsh q).2) g1 g2 (by have := zsh_le q; omega)
    simp only [zW, List.map_cons, zcv_o e3 e4]
    rw [zcv_o e7 e8]
    refine va_astq C.1 C.2.1 C.2.2.2.2.2.2.1 hH.2.2.1 zws_D hH.2.2.2.2.2.1 (q - 1) 4 (x - 1) 1 (r := (RX1, TX1, 13)) (by rw [zws_get e3 e2, zE_ref e1]) rfl (by rw [zws_get e7 e6, zE_obj e5 (by decide)]) rfl f1 (zlen hd ha) (fun H1 locs1 hP1 _ hS1 => ?_)
    rw [zws_set (τ := (σ.1, zupP σ.2.1 q j x, σ.2.2)) e3 e2 rfl (by
      rw [zE_ref e1]
      congr 3
      congr 4
      funext k
      rw [f2]
      by_cases hk : k = j.toNat
      · subst hk
        simp [va_up, zupP, Int.toNat_of_nonneg g1, zrf, zad_of e8, show x ≠ 0 by omega]
      · have : ((k : Int) = j) = False := by simp; omega
        simp [va_up, zupP, this, hk]) (fun q' hq' => zE_congr rfl (zupP_ne hq') rfl)] at hP1
    refine zsize hP1 (by show 2 ≤ σ.2.2.2; omega) hH.2.2.2.2.2.2 (fun hz => ?_)
    exact zkc kk rfl ⟨hH.1, hz, hP1, hH.2.2.2.1, hH.2.2.2.2.1, hS1, hH.2.2.2.2.2.2⟩ hL (zct (zct (zct hS))) hl
  · cases h
end
section
set_option maxHeartbeats 1000000 in
theorem zs_arraylength {p : Program} {l : Launch} {e : Env} {R : Room} {s : State} {m : MethodId} {args : Array Value} {below : List Frame} {meth : Method} {c : Code} {cA : Nat → ClassId} {D : va_G} {base b Lx : Nat} {xs : Nat → Int32} {y : Nat} {H : Heap} {locs : List Loc} {cells slots : Nat} {Q : State → Prop} {ls : Array Slot} {pc len ia ib pc1 : Nat} {L L1 : zL} {st st1 : List zV} {σ σ1 : zS} {g : Option Prop} (C : zCx p R s m args meth c cA D base b Lx xs y) (hH : zH cA D base b Lx xs s σ H locs cells) (hL : ∀ q ∈ L, zvr q.2) (hS : ∀ v ∈ st, zvr v) (hl : lv_has ls (zml y) (L.map (zcq base b))) (hd : decode (zb y) pc = .ok (.arraylength, len)) (ha : zaux y pc (.arraylength) len ia ib = true) (h : zx y (.arraylength) len ia ib pc L st σ = some (g, pc1, L1, st1, σ1)) (hg : ∀ P, g = some P → P) (hrc : cells + (σ1.2.2.2 - σ.2.2.2) ≤ R.cells) (hrs : slots + (zsz σ1.2.2.2 - zsz σ.2.2.2) ≤ R.slots)
    (kk : zK p l e R s m args below meth c cA D base b Lx xs y cells slots Q σ pc1 L1 st1 σ1) : zW p l e R s m args below meth c base b H locs cells slots Q pc ls st := by
  simp only [zx] at h
  split at h
  · next q r =>
    cases hs : (Nat.beq q 1000 && Nat.beq y zlaw)
    · rw [hs] at h
      simp only [cond_false] at h
      obtain ⟨hb, h⟩ := zbif h
      simp only [Prod.mk.injEq] at h
      obtain ⟨rfl, rfl, rfl, rfl, rfl⟩ := h
      simp only [Bool.and_eq_true] at hb
      obtain ⟨⟨k1, k2⟩, k3⟩ := hb
      have k1 := Nat.le_of_ble_eq_true k1
      have k2 := Nat.le_of_ble_eq_true k2
      have e2 : q < σ.2.2.2 := by simpa using k3
      have e3 : 1 ≤ q := by
        rcases Nat.eq_zero_or_pos q with rfl | h
        · exact absurd k2 (by decide)
        · exact h
      have e4 : q ≠ 1000 := by rintro rfl; exact absurd k2 (by decide)
      simp only [zW, List.map_cons, zcv_o e3 e4]
      have hr : zr (((zsh q).2 : Nat) : Int) := by have := zsh_le q; exact ⟨by omega, by omega⟩
      have kk2 := zk0 kk hH hL (zcons (show zvr (vi (((zsh q).2 : Nat) : Int)) from hr) (zct hS)) hl
      have hz := zws_get (cA := cA) (base := base) (b := b) e3 e2
      have hc : (zsh q).1 = 10 ∨ (zsh q).1 = 11 ∨ (zsh q).1 = 12 ∨ (zsh q).1 = 13 ∨ (zsh q).1 = 14 := by omega
      rcases hc with e1 | e1 | e1 | e1 | e1
      · have hh : (zws cA base b σ)[q - 1]? = some (base + (q - 1), .inl (cA 10, ((zsh q).2, .inl (fun j => Int32.ofInt (σ.1 q j))))) := by rw [hz, zE_int e1 (by decide) (by decide) (by decide)]
        exact va_alen C.1 C.2.1 C.2.2.2.2.2.2.1 hH.2.2.1 (q - 1) 0 hh rfl rfl (zlen hd ha) kk2
      · have hh : (zws cA base b σ)[q - 1]? = some (base + (q - 1), .inl (cA 11, ((zsh q).2, .inl (fun j => Int32.ofInt (σ.1 q j))))) := by rw [hz, zE_int e1 (by decide) (by decide) (by decide)]
        exact va_alen C.1 C.2.1 C.2.2.2.2.2.2.1 hH.2.2.1 (q - 1) 1 hh rfl rfl (zlen hd ha) kk2
      · have hh : (zws cA base b σ)[q - 1]? = some (base + (q - 1), .inl (cA 12, ((zsh q).2, .inl (fun j => Int32.ofInt (σ.1 q j))))) := by rw [hz, zE_int e1 (by decide) (by decide) (by decide)]
        exact va_alen C.1 C.2.1 C.2.2.2.2.2.2.1 hH.2.2.1 (q - 1) 2 hh rfl rfl (zlen hd ha) kk2
      · have hh : (zws cA base b σ)[q - 1]? = some (base + (q - 1), .inl (cA 13, ((zsh q).2, .inr (.inr (.inr (.inl (fun j => σ.2.2.1 q j))))))) := by rw [hz, zE_dbl e1]
        exact va_alen C.1 C.2.1 C.2.2.2.2.2.2.1 hH.2.2.1 (q - 1) 3 hh rfl rfl (zlen hd ha) kk2
      · have hh : (zws cA base b σ)[q - 1]? = some (base + (q - 1), .inl (cA 14, ((zsh q).2, .inr (.inr (.inr (.inr (fun j => zrf base b (σ.2.1 q j)))))))) := by rw [hz, zE_ref e1]
        exact va_alen C.1 C.2.1 C.2.2.2.2.2.2.1 hH.2.2.1 (q - 1) 4 hh rfl rfl (zlen hd ha) kk2
    · rw [hs] at h
      simp only [cond_true, Option.some.injEq] at h
      simp only [Prod.mk.injEq] at h
      obtain ⟨rfl, rfl, rfl, rfl, rfl⟩ := h
      simp only [Bool.and_eq_true] at hs
      have hq := Nat.eq_of_beq_eq_true hs.1
      have hy := Nat.eq_of_beq_eq_true hs.2
      subst hq
      obtain ⟨hbb, hX⟩ := C.2.2.2.2.2.2.2.2.2.2.2.2.1 hy
      obtain ⟨hL1, hL2⟩ := hH.2.2.2.2.1
      simp only [zW, List.map_cons, zcv_r (show (1000 : Nat) ≠ 0 by decide)]
      refine va_slen (b := b) (L := Lx) C.1 C.2.1 hX (Nat.lt_of_lt_of_le hbb C.2.2.2.2.2.2.2.2.2.2.2.2.2) (Nat.not_le.mpr hbb) hH.2.2.2.2.2.1 (zlen hd ha) ?_
      have hL3 := C.2.2.2.2.2.2.2.2.2.2.2.1
      have kk2 := zk0 kk hH hL (zcons (show zr (σ.1 1000 (-1)) by rw [hL1]; exact ⟨by omega, by omega⟩) (zct hS)) hl
      simp only [zW, List.map_cons, zcv, hL1] at kk2
      exact kk2
  · cases h
theorem zarr_ty {cA : Nat → ClassId} {D : va_G} {s : State} {k : Nat} {ty : FieldType} {c1 : ClassId} (hK : va_K D vwCl (ztys cA) s) {t0 : Nat} (ht : (ztys cA)[t0]? = some (cA k, ty)) (hf : s.vm.findClass ("[" ++ ty.toString) = some c1) : c1 = cA k := by
  have h := (hK.2 t0 _ ht).2
  cases ty with
  | object C0 =>
    obtain ⟨kA, comp, h1, h2, h3, h4⟩ := h
    exact Option.some.inj (hf.symm.trans h4)
  | _ => exact Option.some.inj (hf.symm.trans h)
/-- a new cell at the end of the heap -/
theorem zpush {cA : Nat → ClassId} {D : va_G} {base b Lx : Nat} {xs : Nat → Int32} {s : State} {σ : zS} {H H1 : Heap} {locs : List Loc} {cells : Nat} (hH : zH cA D base b Lx xs s σ H locs cells) (hf : ∀ j, σ.1 σ.2.2.2 j = 0) (z1 : H1.size = base + (σ.2.2.2 - 1) + 1) (o1 : ∀ q, q < base + (σ.2.2.2 - 1) → H1[q]? = H[q]?)
    (he : va_at D vwCl (base + (σ.2.2.2 - 1), zE cA base b (σ.1, σ.2.1, σ.2.2.1, σ.2.2.2 + 1) σ.2.2.2) H1) : zH cA D base b Lx xs s (σ.1, σ.2.1, σ.2.2.1, σ.2.2.2 + 1) H1 locs (cells + 1) := by
  obtain ⟨h1, h2, h3, h4, h5, h6, h7⟩ := hH
  refine ⟨by show 1 ≤ σ.2.2.2 + 1; omega, by rw [z1]; show _ = base + (σ.2.2.2 + 1 - 1); omega, ?_, ?_, h5, ⟨?_, ?_, h6.2.2⟩, by show s.heap.size + (cells + 1) = base + (σ.2.2.2 + 1 - 1); omega⟩
  · rw [← zws_push (E := zE cA base b (σ.1, σ.2.1, σ.2.2.1, σ.2.2.2 + 1) σ.2.2.2) (τ := (σ.1, σ.2.1, σ.2.2.1, σ.2.2.2 + 1)) h1 rfl rfl (fun q _ => zE_congr rfl rfl rfl)]
    refine va_P.app (h3.kept (fun k x hx => o1 x.1 (by have := (h3 k x hx).lt; omega))) (fun k x hx => ?_)
    have hz : k < 1 := (List.getElem?_eq_some_iff.mp hx).1
    rw [show k = 0 by omega] at hx
    cases hx
    exact he
  · intro r hr j hj
    show zr (σ.1 r j)
    by_cases hrc : r = σ.2.2.2
    · subst hrc
      rw [hf]; exact ⟨by decide, by decide⟩
    · exact h4 r (by have : r < σ.2.2.2 + 1 := hr; omega) j hj
  · exact Nat.le_trans h6.1 (by omega)
  · intro q hq hA
    rw [o1 q (by have := h6.1; omega)]
    exact h6.2.1 q hq hA
theorem zkl_spec {o i ci : Nat} (h : zkl.any (fun q => decide (q.1 = o ∧ q.2.1 = i ∧ q.2.2.1 = ci)) = true) : Cond.classLink (zR o) i (zR ci) ∈ lw_tbl ∧ Cond.instantiable (zR ci) (znf ci) ∈ lw_tbl ∧ Cond.initialized (zR ci) ∈ lw_tbl ∧ ci < 9 := by
  obtain ⟨q, hq, hd⟩ := List.any_eq_true.mp h
  have h1 := List.all_eq_true.mp zkl_ok q hq
  simp only [Bool.and_eq_true, decide_eq_true_eq] at h1 hd
  obtain ⟨rfl, rfl, rfl⟩ := hd
  exact ⟨List.mem_of_getElem? h1.1.1.1, List.mem_of_getElem? h1.1.1.2, List.mem_of_getElem? h1.1.2, h1.2⟩
theorem zcats_map {base b : Nat} {r : List zV} : ((r.map (zcv base b)).map fun v => v.category).sum = zcats r := by
  simp [zcats, List.map_map, Function.comp_def, zcat_cv]
set_option maxHeartbeats 1000000 in
theorem zs_newarray {p : Program} {l : Launch} {e : Env} {R : Room} {s : State} {m : MethodId} {args : Array Value} {below : List Frame} {meth : Method} {c : Code} {cA : Nat → ClassId} {D : va_G} {base b Lx : Nat} {xs : Nat → Int32} {y : Nat} {H : Heap} {locs : List Loc} {cells slots : Nat} {Q : State → Prop} {ls : Array Slot} {pc len ia ib pc1 : Nat} {L L1 : zL} {st st1 : List zV} {σ σ1 : zS} {g : Option Prop} {t : ArrayType} (C : zCx p R s m args meth c cA D base b Lx xs y) (hH : zH cA D base b Lx xs s σ H locs cells) (hL : ∀ q ∈ L, zvr q.2) (hS : ∀ v ∈ st, zvr v) (hl : lv_has ls (zml y) (L.map (zcq base b))) (hd : decode (zb y) pc = .ok (.newarray t, len)) (ha : zaux y pc (.newarray t) len ia ib = true) (h : zx y (.newarray t) len ia ib pc L st σ = some (g, pc1, L1, st1, σ1)) (hg : ∀ P, g = some P → P) (hrc : cells + (σ1.2.2.2 - σ.2.2.2) ≤ R.cells) (hrs : slots + (zsz σ1.2.2.2 - zsz σ.2.2.2) ≤ R.slots)
    (kk : zK p l e R s m args below meth c cA D base b Lx xs y cells slots Q σ pc1 L1 st1 σ1) : zW p l e R s m args below meth c base b H locs cells slots Q pc ls st := by
  simp only [zx] at h
  split at h
  · next n r =>
    obtain ⟨hb, h⟩ := zbif h
    simp only [Prod.mk.injEq] at h
    obtain ⟨rfl, rfl, rfl, rfl, rfl⟩ := h
    simp only [Bool.and_eq_true] at hb
    have hk := Nat.eq_of_beq_eq_true hb.1
    have hk2 := Nat.le_of_ble_eq_true hb.2
    obtain ⟨rfl, hf⟩ := hg _ rfl
    have hle := zsh_le σ.2.2.2
    have hc1 : σ.2.2.2 + 1 - σ.2.2.2 = 1 := by omega
    have hc2 : zsz (σ.2.2.2 + 1) - zsz σ.2.2.2 = (zsh σ.2.2.2).2 := by rw [zsz_s]; omega
    simp only [hc1, hc2] at hrc hrs
    have hw : (Cond.arrayClass (newarray.typeOf t)).before args s = true := by
      cases t <;> first | exact C.2.2.2.2.1 _ (zgi zs_arrInt rfl) | exact C.2.2.2.2.1 _ (zgi zs_arrChar rfl) | exact C.2.2.2.2.1 _ (zgi zs_arrBool rfl) | exact C.2.2.2.2.1 _ (zgi zs_arrDouble rfl) | exact absurd hk2 (by decide)
    have hn : ¬ Int32.ofInt (((zsh σ.2.2.2).2 : Nat) : Int) < 0 := nI_pos (by omega)
    have hN : (Int32.ofInt (((zsh σ.2.2.2).2 : Nat) : Int)).toNatClampNeg = (zsh σ.2.2.2).2 := nI_clamp (by omega)
    refine va_newaK C.1 C.2.1 hw rfl (zlen hd ha) rfl hn hN (by have : componentBytes (newarray.typeOf t) ≤ 8 := (by cases t <;> decide); exact Nat.le_trans (Nat.mul_le_mul hle this) (by decide)) hrc hrs hH.2.1 (fun H1 c1 e1 z1 o1 hAr hNm => ?_)
    have he : va_at D vwCl (base + (σ.2.2.2 - 1), zE cA base b (σ.1, σ.2.1, σ.2.2.1, σ.2.2.2 + 1) σ.2.2.2) H1 := by
      cases t <;> first
        | (have hk : (zsh σ.2.2.2).1 = 10 := hk
           cases zarr_ty C.2.2.2.2.2.2.1 (t0 := 0) (k := 10) (ty := .int) rfl hNm
           rw [zE_int hk (by decide) (by decide) (by decide)]
           refine e1.trans ?_
           simp only [vp_cell, (hf _).1]
           rfl)
        | (have hk : (zsh σ.2.2.2).1 = 11 := hk
           cases zarr_ty C.2.2.2.2.2.2.1 (t0 := 1) (k := 11) (ty := .char) rfl hNm
           rw [zE_int hk (by decide) (by decide) (by decide)]
           refine e1.trans ?_
           simp only [vp_cell, (hf _).1]
           rfl)
        | (have hk : (zsh σ.2.2.2).1 = 12 := hk
           cases zarr_ty C.2.2.2.2.2.2.1 (t0 := 2) (k := 12) (ty := .boolean) rfl hNm
           rw [zE_int hk (by decide) (by decide) (by decide)]
           refine e1.trans ?_
           simp only [vp_cell, (hf _).1]
           rfl)
        | (have hk : (zsh σ.2.2.2).1 = 13 := hk
           cases zarr_ty C.2.2.2.2.2.2.1 (t0 := 3) (k := 13) (ty := .double) rfl hNm
           rw [zE_dbl hk]
           refine e1.trans ?_
           simp only [vp_cell, (hf _).2.2]
           rfl)
        | exact absurd hk2 (by decide)
    have hc0 := hH.1
    have kk2 := kk ls H1 locs (by simpa only [hc1] using zpush hH (fun j => (hf j).1) z1 o1 he) hL (zcons trivial (zct hS)) hl
    have e99 : zad base b σ.2.2.2 = base + (σ.2.2.2 - 1) := zad_of (by rintro e; rw [e] at hk; rw [← hk] at hk2; exact absurd hk2 (by decide))
    simp only [zW, List.map_cons, hc1, hc2, zcv_r (show σ.2.2.2 ≠ 0 by omega), e99] at kk2
    exact kk2
  · cases h
set_option maxHeartbeats 1000000 in
theorem zs_anewarray {p : Program} {l : Launch} {e : Env} {R : Room} {s : State} {m : MethodId} {args : Array Value} {below : List Frame} {meth : Method} {c : Code} {cA : Nat → ClassId} {D : va_G} {base b Lx : Nat} {xs : Nat → Int32} {y : Nat} {H : Heap} {locs : List Loc} {cells slots : Nat} {Q : State → Prop} {ls : Array Slot} {pc len ia ib pc1 : Nat} {L L1 : zL} {st st1 : List zV} {σ σ1 : zS} {g : Option Prop} {i : Nat} (C : zCx p R s m args meth c cA D base b Lx xs y) (hH : zH cA D base b Lx xs s σ H locs cells) (hL : ∀ q ∈ L, zvr q.2) (hS : ∀ v ∈ st, zvr v) (hl : lv_has ls (zml y) (L.map (zcq base b))) (hd : decode (zb y) pc = .ok (.anewarray i, len)) (ha : zaux y pc (.anewarray i) len ia ib = true) (h : zx y (.anewarray i) len ia ib pc L st σ = some (g, pc1, L1, st1, σ1)) (hg : ∀ P, g = some P → P) (hrc : cells + (σ1.2.2.2 - σ.2.2.2) ≤ R.cells) (hrs : slots + (zsz σ1.2.2.2 - zsz σ.2.2.2) ≤ R.slots)
    (kk : zK p l e R s m args below meth c cA D base b Lx xs y cells slots Q σ pc1 L1 st1 σ1) : zW p l e R s m args below meth c base b H locs cells slots Q pc ls st := by
  simp only [zx] at h
  simp only [zaux, Bool.and_eq_true] at ha
  split at h
  · next n r =>
    obtain ⟨hb, h⟩ := zbif h
    simp only [Prod.mk.injEq] at h
    obtain ⟨rfl, rfl, rfl, rfl, rfl⟩ := h
    have hk := Nat.eq_of_beq_eq_true hb
    obtain ⟨rfl, hf⟩ := hg _ rfl
    have hle := zsh_le σ.2.2.2
    have hc1 : σ.2.2.2 + 1 - σ.2.2.2 = 1 := by omega
    have hc2 : zsz (σ.2.2.2 + 1) - zsz σ.2.2.2 = (zsh σ.2.2.2).2 := by rw [zsz_s]; omega
    simp only [hc1, hc2] at hrc hrs
    obtain ⟨hw, -, -, -⟩ := zkl_spec ha.2
    have ha1 : ia = 1 := Nat.eq_of_beq_eq_true ha.1.2
    subst ha1
    have hn : ¬ Int32.ofInt (((zsh σ.2.2.2).2 : Nat) : Int) < 0 := nI_pos (by omega)
    have hN : (Int32.ofInt (((zsh σ.2.2.2).2 : Nat) : Int)).toNatClampNeg = (zsh σ.2.2.2).2 := nI_clamp (by omega)
    refine W.anew C.1 C.2.1 C.2.2.2.1 (C.2.2.2.2.1 _ (zgood hw rfl)) (C := RX1) ?_ rfl (zlen hd ha.1.1) rfl hn (by rw [hN]; omega) hrc (by rw [hN]; exact hrs) (fun c1 kA comp f1 f2 f3 f4 => ?_)
    · first
        | exact C.2.2.2.2.1 _ (zgi zs_over rfl)
        | exact va_Nw.use rfl (C.2.2.2.2.2.2.2.2.2.1 _ (List.mem_of_getElem? zs_over) rfl)
        | exact C.2.2.2.2.2.2.2.2.2.1 _ (List.mem_of_getElem? zs_over) rfl
    have hsz := hH.2.1
    have hc0 := hH.1
    rw [hN]
    have he : va_at D vwCl (base + (σ.2.2.2 - 1), zE cA base b (σ.1, σ.2.1, σ.2.2.1, σ.2.2.2 + 1) σ.2.2.2) (H.push ({ cls := c1, slots := Array.replicate (zsh σ.2.2.2).2 .null, vm := .none } : Cell)) := by
      cases zarr_ty C.2.2.2.2.2.2.1 (t0 := 4) (k := 14) (ty := .object RX1) rfl f1
      rw [zE_ref hk, ← hsz]
      show (H.push _)[H.size]? = _
      rw [Array.getElem?_push_size, arrV_new]
      simp only [vp_cell, (hf _).2.1]
      rfl
    have kk2 := kk ls _ locs (by simpa only [hc1] using zpush hH (fun j => (hf j).1) (by rw [Array.size_push, hsz]) (fun q hq => by rw [Array.getElem?_push, if_neg (by omega)]) he) hL (zcons trivial (zct hS)) hl
    have e99 : zad base b σ.2.2.2 = base + (σ.2.2.2 - 1) := zad_of (by rintro e; rw [e] at hk; exact absurd hk (by decide))
    simp only [zW, List.map_cons, hc1, hc2, zcv_r (show σ.2.2.2 ≠ 0 by omega), e99] at kk2
    rw [hsz]
    exact kk2
  · cases h
set_option maxHeartbeats 1000000 in
theorem zs_new {p : Program} {l : Launch} {e : Env} {R : Room} {s : State} {m : MethodId} {args : Array Value} {below : List Frame} {meth : Method} {c : Code} {cA : Nat → ClassId} {D : va_G} {base b Lx : Nat} {xs : Nat → Int32} {y : Nat} {H : Heap} {locs : List Loc} {cells slots : Nat} {Q : State → Prop} {ls : Array Slot} {pc len ia ib pc1 : Nat} {L L1 : zL} {st st1 : List zV} {σ σ1 : zS} {g : Option Prop} {i : Nat} (C : zCx p R s m args meth c cA D base b Lx xs y) (hH : zH cA D base b Lx xs s σ H locs cells) (hL : ∀ q ∈ L, zvr q.2) (hS : ∀ v ∈ st, zvr v) (hl : lv_has ls (zml y) (L.map (zcq base b))) (hd : decode (zb y) pc = .ok (.new i, len)) (ha : zaux y pc (.new i) len ia ib = true) (h : zx y (.new i) len ia ib pc L st σ = some (g, pc1, L1, st1, σ1)) (hg : ∀ P, g = some P → P) (hrc : cells + (σ1.2.2.2 - σ.2.2.2) ≤ R.cells) (hrs : slots + (zsz σ1.2.2.2 - zsz σ.2.2.2) ≤ R.slots)
    (kk : zK p l e R s m args below meth c cA D base b Lx xs y cells slots Q σ pc1 L1 st1 σ1) : zW p l e R s m args below meth c base b H locs cells slots Q pc ls st := by
  simp only [zx] at h
  simp only [zaux, Bool.and_eq_true] at ha
  obtain ⟨hb, h⟩ := zbif h
  simp only [Prod.mk.injEq] at h
  obtain ⟨rfl, rfl, rfl, rfl, rfl⟩ := h
  simp only [Bool.and_eq_true] at hb
  have hk := Nat.eq_of_beq_eq_true hb.1
  have hk2 := Nat.eq_of_beq_eq_true hb.2
  have hf := hg _ rfl
  have hc1 : σ.2.2.2 + 1 - σ.2.2.2 = 1 := by omega
  have hc2 : zsz (σ.2.2.2 + 1) - zsz σ.2.2.2 = znf ia := by rw [zsz_s]; omega
  simp only [hc1, hc2] at hrc hrs
  obtain ⟨w1, w2, w3, hc9⟩ := zkl_spec ha.2
  have hKn := C.2.2.2.2.2.2.1.1 ia _ (zvw ia hc9)
  refine W.newcK C.1 C.2.1 C.2.2.2.1 (C.2.2.2.2.1 _ (zgood w1 rfl)) (C.2.2.2.2.1 _ (zgood w2 rfl)) (C.2.2.2.2.1 _ (zgood w3 rfl)) rfl (zlen hd ha.1) hrc hrs hKn.2.1 hH.2.1 (fun H1 kC hkC e1 z1 o1 => ?_)
  have hc0 := hH.1
  have he : va_at D vwCl (base + (σ.2.2.2 - 1), zE cA base b (σ.1, σ.2.1, σ.2.2.1, σ.2.2.2 + 1) σ.2.2.2) H1 := by
    rw [zE_obj hk hc9]
    refine ⟨_, zvw ia hc9, (u_born (zty ia) C.2.2.2.2.1 (zuw ia hc9) hKn hkC e1 (zty_ok ia hc9)).to (fun j hj => ?_)⟩
    have ht := ztf ia hc9 j hj
    show _ = vp_V _ j
    rw [vp_V, List.getD_eq_getElem?_getD, zget_map hj, zfv]
    cases hfr : zfr ia j
    · rw [ht.1 hfr]
      simp only [cond_false, (hf _).1]
      rfl
    · simp only [cond_true, (hf _).2.1]
      rcases ht.2 hfr with ⟨C0, e⟩ | ⟨t, e⟩ <;> rw [e] <;> rfl
  have kk2 := kk ls H1 locs (by simpa only [hc1] using zpush hH (fun j => (hf j).1) z1 o1 he) hL (zcons trivial hS) hl
  have e99 : zad base b σ.2.2.2 = base + (σ.2.2.2 - 1) := zad_of (by rintro e; rw [e] at hk; rw [← hk] at hc9; exact absurd hc9 (by decide))
  simp only [zW, List.map_cons, hc1, hc2, zcv_r (show σ.2.2.2 ≠ 0 by omega), e99] at kk2
  exact kk2
theorem zol_spec {o i : Nat} (h : zol.any (fun q => decide (q.1 = o ∧ q.2.1 = i)) = true) : Cond.methodLink (zR o) i objectInit ∈ lw_tbl := by
  obtain ⟨q, hq, hd⟩ := List.any_eq_true.mp h
  have h1 := List.all_eq_true.mp zol_ok q hq
  simp only [decide_eq_true_eq] at h1 hd
  obtain ⟨rfl, rfl⟩ := hd
  exact List.mem_of_getElem? h1
theorem zal_spec {o i : Nat} (h : zal.any (fun q => decide (q.1 = o ∧ q.2.1 = i)) = true) : Cond.methodLink (zR o) i arraycopyName ∈ lw_tbl := by
  obtain ⟨q, hq, hd⟩ := List.any_eq_true.mp h
  have h1 := List.all_eq_true.mp zal_ok q hq
  simp only [decide_eq_true_eq] at h1 hd
  obtain ⟨rfl, rfl⟩ := hd
  exact List.mem_of_getElem? h1
theorem zwl_spec {o i : Nat} (h : zwl.any (fun q => decide (q.1 = o ∧ q.2.1 = i)) = true) : Cond.methodLink (zR o) i ⟨"java/lang/Float", "floatToRawIntBits", "(F)I"⟩ ∈ lw_tbl := by
  obtain ⟨q, hq, hd⟩ := List.any_eq_true.mp h
  have h1 := List.all_eq_true.mp zwl_ok q hq
  simp only [decide_eq_true_eq] at h1 hd
  obtain ⟨rfl, rfl⟩ := hd
  exact List.mem_of_getElem? h1
theorem znfw {n a d : Nat} (h1 : n ≤ 8) (h3 : a ≤ d) (h4 : 8 + 40 ≤ a) : n + (nativeFrameWords "java/lang/System" "arraycopy" 5 + 11) ≤ d := by
  have : nativeFrameWords "java/lang/System" "arraycopy" 5 ≤ 29 := by decide
  omega
set_option maxHeartbeats 1000000 in
theorem zs_invokespecial {p : Program} {l : Launch} {e : Env} {R : Room} {s : State} {m : MethodId} {args : Array Value} {below : List Frame} {meth : Method} {c : Code} {cA : Nat → ClassId} {D : va_G} {base b Lx : Nat} {xs : Nat → Int32} {y : Nat} {H : Heap} {locs : List Loc} {cells slots : Nat} {Q : State → Prop} {ls : Array Slot} {pc len ia ib pc1 : Nat} {L L1 : zL} {st st1 : List zV} {σ σ1 : zS} {g : Option Prop} {i : Nat} (C : zCx p R s m args meth c cA D base b Lx xs y) (hH : zH cA D base b Lx xs s σ H locs cells) (hL : ∀ q ∈ L, zvr q.2) (hS : ∀ v ∈ st, zvr v) (hl : lv_has ls (zml y) (L.map (zcq base b))) (hd : decode (zb y) pc = .ok (.invokespecial i, len)) (ha : zaux y pc (.invokespecial i) len ia ib = true) (h : zx y (.invokespecial i) len ia ib pc L st σ = some (g, pc1, L1, st1, σ1)) (hg : ∀ P, g = some P → P) (hrc : cells + (σ1.2.2.2 - σ.2.2.2) ≤ R.cells) (hrs : slots + (zsz σ1.2.2.2 - zsz σ.2.2.2) ≤ R.slots)
    (kk : zK p l e R s m args below meth c cA D base b Lx xs y cells slots Q σ pc1 L1 st1 σ1) : zW p l e R s m args below meth c base b H locs cells slots Q pc ls st := by
  simp only [zx] at h
  split at h
  · next q r =>
    obtain ⟨hb, h⟩ := zbif h
    simp only [Prod.mk.injEq] at h
    obtain ⟨rfl, rfl, rfl, rfl, rfl⟩ := h
    simp only [Bool.and_eq_true] at hb
    have h2 := Nat.eq_of_beq_eq_true hb.1.1
    subst h2
    have hq : 0 < q := by simpa using hb.1.2
    have hr := Nat.le_of_ble_eq_true hb.2
    simp only [zaux, Bool.and_eq_true, decide_eq_true_eq, Nat.beq_refl, cond_true] at ha
    simp only [zW, List.map_cons, zcv_r (show q ≠ 0 by omega)]
    refine W.objInit C.1 C.2.1 C.2.2.2.1 (C.2.2.2.2.1 _ (zgood (zol_spec ha.2.1.1) rfl)) (C.2.2.2.2.1 _ (zgi zs_oi rfl)) (C.2.2.2.2.1 _ (zgood zs_oc rfl)) rfl (by rw [C.2.2.1]; exact hl.1) rfl (zlen hd ha.1) (Nat.le_trans ha.2.1.2 C.2.2.2.2.2.2.2.1) ?_ (zk0 kk hH hL (zct hS) hl)
    rw [zcats_map]
    have h3 := C.2.2.2.2.2.2.2.2.1
    have h4 := ha.2.2
    show 2 * 0 + _ + 12 ≤ _
    omega
  · cases h
set_option maxHeartbeats 1000000 in
theorem zs_invokestatic {p : Program} {l : Launch} {e : Env} {R : Room} {s : State} {m : MethodId} {args : Array Value} {below : List Frame} {meth : Method} {c : Code} {cA : Nat → ClassId} {D : va_G} {base b Lx : Nat} {xs : Nat → Int32} {y : Nat} {H : Heap} {locs : List Loc} {cells slots : Nat} {Q : State → Prop} {ls : Array Slot} {pc len ia ib pc1 : Nat} {L L1 : zL} {st st1 : List zV} {σ σ1 : zS} {g : Option Prop} {i : Nat} (C : zCx p R s m args meth c cA D base b Lx xs y) (hH : zH cA D base b Lx xs s σ H locs cells) (hL : ∀ q ∈ L, zvr q.2) (hS : ∀ v ∈ st, zvr v) (hl : lv_has ls (zml y) (L.map (zcq base b))) (hd : decode (zb y) pc = .ok (.invokestatic i, len)) (ha : zaux y pc (.invokestatic i) len ia ib = true) (h : zx y (.invokestatic i) len ia ib pc L st σ = some (g, pc1, L1, st1, σ1)) (hg : ∀ P, g = some P → P) (hrc : cells + (σ1.2.2.2 - σ.2.2.2) ≤ R.cells) (hrs : slots + (zsz σ1.2.2.2 - zsz σ.2.2.2) ≤ R.slots)
    (kk : zK p l e R s m args below meth c cA D base b Lx xs y cells slots Q σ pc1 L1 st1 σ1) : zW p l e R s m args below meth c base b H locs cells slots Q pc ls st := by
  simp only [zx] at h
  cases h1000 : Nat.beq ia 1000
  · rw [h1000] at h
    simp only [cond_false] at h
    cases h1001 : Nat.beq ia 1001
    · rw [h1001] at h
      simp only [cond_false] at h
      cases h
    · rw [h1001] at h
      simp only [cond_true] at h
      split at h
      · next x r =>
        obtain ⟨hb, h⟩ := zbif h
        simp only [Prod.mk.injEq] at h
        obtain ⟨rfl, rfl, rfl, rfl, rfl⟩ := h
        have hr := Nat.le_of_ble_eq_true hb
        have hi := Nat.eq_of_beq_eq_true h1001
        subst hi
        simp only [zaux, Bool.and_eq_true, decide_eq_true_eq, h1000, h1001, cond_true, cond_false] at ha
        have h3 := C.2.2.2.2.2.2.2.2.1
        have h4 := ha.2.2
        have kk2 := zk0 kk hH hL (zcons (show zvr (vi x.toInt32.toInt) from zr_of _) (zct hS)) hl
        simp only [zW, List.map_cons, zcv, zit] at kk2
        exact vn_f2i C.1 C.2.1 (by rw [C.2.2.1]; exact hl.1.symm) C.2.2.2.1 (C.2.2.2.2.1 _ (zgood (zwl_spec ha.2.1.1) rfl)) (C.2.2.2.2.1 _ (zgi zs_rn rfl)) (C.2.2.2.2.1 _ (zgi zs_rs rfl)) (C.2.2.2.2.1 _ (zgi zs_fi rfl)) (Nat.le_trans ha.2.1.2 C.2.2.2.2.2.2.2.1) (by rw [zcats_map]; omega) (zlen hd ha.1) kk2
      · cases h
  · rw [h1000] at h
    simp only [cond_true] at h
    split at h
    · next n dp q1 sp q0 r =>
      obtain ⟨hb, h⟩ := zbif h
      simp only [Prod.mk.injEq] at h
      obtain ⟨rfl, rfl, rfl, rfl, rfl⟩ := h
      simp only [Bool.and_eq_true] at hb
      obtain ⟨⟨hb0, hb1⟩, hr⟩ := hb
      have hr := Nat.le_of_ble_eq_true hr
      have hi := Nat.eq_of_beq_eq_true h1000
      subst hi
      simp only [zaux, Bool.and_eq_true, decide_eq_true_eq, h1000, cond_true] at ha
      obtain ⟨e1, e2, e3, e4⟩ := zob_spec hb0 (by decide)
      obtain ⟨f1, f2, f3, f4⟩ := zob_spec hb1 (by decide)
      obtain ⟨g1, g2, g3, g4, g5⟩ := hg _ rfl
      have h3 := C.2.2.2.2.2.2.2.2.1
      have h4 := ha.2.2
      have l0 := zsh_le q0
      have l1 := zsh_le q1
      have tn : ∀ z : Int, 0 ≤ z → z ≤ 2340 → ¬ Int32.ofInt z < 0 ∧ (Int32.ofInt z).toNatClampNeg = z.toNat := by
        intro z hz hz2
        obtain ⟨k, rfl⟩ : ∃ k : Nat, z = k := ⟨z.toNat, by omega⟩
        exact ⟨nI_pos (by omega), nI_clamp (by omega)⟩
      obtain ⟨a1, a2⟩ := tn sp g1 (by omega)
      obtain ⟨a3, a4⟩ := tn dp g2 (by omega)
      obtain ⟨a5, a6⟩ := tn n g3 (by omega)
      simp only [zW, List.map_cons, zcv_o e3 e4, zcv_o f3 f4]
      refine va_copyi C.1 C.2.1 (by rw [C.2.2.1]; exact hl.1.symm) C.2.2.2.1 (C.2.2.2.2.1 _ (zgood (zal_spec ha.2.1.1) rfl)) (C.2.2.2.2.1 _ (zgi zs_cn rfl)) (C.2.2.2.2.1 _ (zgi zs_cs rfl)) (C.2.2.2.2.1 _ (zgi zs_si rfl)) C.2.2.2.2.2.2.1 hH.2.2.1 zws_D hH.2.2.2.2.2.1 (q0 - 1) (q1 - 1) 0 0 (ty := .int) (by rw [zws_get e3 e2, zE_int e1 (by decide) (by decide) (by decide)]) (by rw [zws_get f3 f2, zE_int f1 (by decide) (by decide) (by decide)]) rfl rfl rfl a1 a3 a5 (by rw [a2, a6]; omega) (by rw [a4, a6]; omega) (fun _ _ => rfl) (Nat.le_trans ha.2.1.2 C.2.2.2.2.2.2.2.1) (by rw [zcats_map]; exact znfw hr h3 h4) (zlen hd ha.1) (fun H1 locs1 hP1 _ hS1 => ?_)
      rw [zws_set (τ := (fun r' k => if r' = q1 ∧ dp ≤ k ∧ k < dp + n then σ.1 q0 (sp + (k - dp)) else σ.1 r' k, σ.2)) f3 f2 rfl (by
        rw [zE_int f1 (by decide) (by decide) (by decide)]
        refine congrArg (fun f : Nat → Int32 => (Sum.inl (cA 10, ((zsh q1).2, Sum.inl f)) : va_E)) ?_
        funext k
        rw [a2, a4, a6]
        unfold va_cpy
        by_cases hk : dp.toNat ≤ k ∧ k < dp.toNat + n.toNat
        · rw [if_pos hk]
          have : (dp ≤ (k : Int) ∧ (k : Int) < dp + n) := by omega
          simp only [true_and, if_pos this]
          have e9 : ((sp.toNat + (k - dp.toNat) : Nat) : Int) = sp + ((k : Int) - dp) := by omega
          rw [e9]
        · rw [if_neg hk]
          have : ¬ (dp ≤ (k : Int) ∧ (k : Int) < dp + n) := by omega
          simp only [true_and, if_neg this]) (fun q' hq' => zE_congr (by funext k; simp [hq']) rfl rfl)] at hP1
      refine zsize hP1 (by show 2 ≤ σ.2.2.2; omega) hH.2.2.2.2.2.2 (fun hz => ?_)
      refine zkc kk rfl ⟨hH.1, hz, hP1, ?_, ?_, hS1, hH.2.2.2.2.2.2⟩ hL (zct (zct (zct (zct (zct hS))))) hl
      · intro r' hr' k hk
        show zr (if r' = q1 ∧ dp ≤ (k : Int) ∧ (k : Int) < dp + n then σ.1 q0 (sp + ((k : Int) - dp)) else σ.1 r' k)
        split
        · exact zrg_at hH.2.2.2.1 e2 (by omega) (by omega)
        · exact hH.2.2.2.1 r' hr' k hk
      · simp only [show ((1000 : Nat) = q1) = False by simp; omega, false_and, if_false]
        exact hH.2.2.2.2.1
    · cases h
set_option maxHeartbeats 1000000 in
theorem zs_tableswitch {p : Program} {l : Launch} {e : Env} {R : Room} {s : State} {m : MethodId} {args : Array Value} {below : List Frame} {meth : Method} {c : Code} {cA : Nat → ClassId} {D : va_G} {base b Lx : Nat} {xs : Nat → Int32} {y : Nat} {H : Heap} {locs : List Loc} {cells slots : Nat} {Q : State → Prop} {ls : Array Slot} {pc len ia ib pc1 : Nat} {L L1 : zL} {st st1 : List zV} {σ σ1 : zS} {g : Option Prop} {d lo hi : Int} {offs : Array Int} (C : zCx p R s m args meth c cA D base b Lx xs y) (hH : zH cA D base b Lx xs s σ H locs cells) (hL : ∀ q ∈ L, zvr q.2) (hS : ∀ v ∈ st, zvr v) (hl : lv_has ls (zml y) (L.map (zcq base b))) (hd : decode (zb y) pc = .ok (.tableswitch d lo hi offs, len)) (ha : zaux y pc (.tableswitch d lo hi offs) len ia ib = true) (h : zx y (.tableswitch d lo hi offs) len ia ib pc L st σ = some (g, pc1, L1, st1, σ1)) (hg : ∀ P, g = some P → P) (hrc : cells + (σ1.2.2.2 - σ.2.2.2) ≤ R.cells) (hrs : slots + (zsz σ1.2.2.2 - zsz σ.2.2.2) ≤ R.slots)
    (kk : zK p l e R s m args below meth c cA D base b Lx xs y cells slots Q σ pc1 L1 st1 σ1) : zW p l e R s m args below meth c base b H locs cells slots Q pc ls st := by
  simp only [zx] at h
  split at h
  · next x r =>
    simp only [Option.some.injEq, Prod.mk.injEq] at h
    obtain ⟨rfl, rfl, rfl, rfl, rfl⟩ := h
    simp only [zaux, Bool.and_eq_true, decide_eq_true_eq] at ha
    obtain ⟨⟨a1, a2⟩, a3⟩ := ha
    have hx : zr x := zch hS
    have kk2 := zk0 kk hH hL (zct hS) hl
    by_cases hc : x < lo ∨ hi < x
    · rw [if_pos hc] at kk2
      exact lv_tableOut C.1 C.2.1 hd (by rw [zti hx]; exact hc) (by omega) kk2
    · rw [if_neg hc] at kk2
      have hlt : (x - lo).toNat < offs.toList.length := by omega
      have ho : offs[((Int32.ofInt x).toInt - lo).toNat]? = some (offs.toList.getD (x - lo).toNat d) := by
        rw [zti hx, ← Array.getElem?_toList, List.getElem?_eq_getElem hlt, List.getD_eq_getElem?_getD, List.getElem?_eq_getElem hlt]
        rfl
      have h0 : 0 ≤ offs.toList.getD (x - lo).toNat d := by
        rw [List.getD_eq_getElem?_getD, List.getElem?_eq_getElem hlt]
        exact of_decide_eq_true (List.all_eq_true.mp a2 _ (List.getElem_mem hlt))
      exact lv_tableIn C.1 C.2.1 hd (by rw [zti hx]; omega) (by rw [zti hx]; omega) ho (by omega) kk2
  · cases h
theorem zlook {d x : Int} (hd : 0 ≤ d) : ∀ {l : List (Int × Int)}, (∀ o ∈ l, 0 ≤ o.2) → 0 ≤ Op.lookupswitch.offset l d x
  | [], _ => hd
  | (a, o) :: r, h => by
    rw [Op.lookupswitch.offset_cons]
    split
    · exact h (a, o) List.mem_cons_self
    · exact zlook hd (fun q hq => h q (List.mem_cons_of_mem _ hq))
set_option maxHeartbeats 1000000 in
theorem zs_lookupswitch {p : Program} {l : Launch} {e : Env} {R : Room} {s : State} {m : MethodId} {args : Array Value} {below : List Frame} {meth : Method} {c : Code} {cA : Nat → ClassId} {D : va_G} {base b Lx : Nat} {xs : Nat → Int32} {y : Nat} {H : Heap} {locs : List Loc} {cells slots : Nat} {Q : State → Prop} {ls : Array Slot} {pc len ia ib pc1 : Nat} {L L1 : zL} {st st1 : List zV} {σ σ1 : zS} {g : Option Prop} {d : Int} {ps : Array (Int × Int)} (C : zCx p R s m args meth c cA D base b Lx xs y) (hH : zH cA D base b Lx xs s σ H locs cells) (hL : ∀ q ∈ L, zvr q.2) (hS : ∀ v ∈ st, zvr v) (hl : lv_has ls (zml y) (L.map (zcq base b))) (hd : decode (zb y) pc = .ok (.lookupswitch d ps, len)) (ha : zaux y pc (.lookupswitch d ps) len ia ib = true) (h : zx y (.lookupswitch d ps) len ia ib pc L st σ = some (g, pc1, L1, st1, σ1)) (hg : ∀ P, g = some P → P) (hrc : cells + (σ1.2.2.2 - σ.2.2.2) ≤ R.cells) (hrs : slots + (zsz σ1.2.2.2 - zsz σ.2.2.2) ≤ R.slots)
    (kk : zK p l e R s m args below meth c cA D base b Lx xs y cells slots Q σ pc1 L1 st1 σ1) : zW p l e R s m args below meth c base b H locs cells slots Q pc ls st := by
  simp only [zx] at h
  split at h
  · next x r =>
    simp only [Option.some.injEq, Prod.mk.injEq] at h
    obtain ⟨rfl, rfl, rfl, rfl, rfl⟩ := h
    simp only [zaux, Bool.and_eq_true, decide_eq_true_eq] at ha
    obtain ⟨⟨a1, a2⟩, a3⟩ := ha
    have hx : zr x := zch hS
    have kk2 := zk0 kk hH hL (zct hS) hl
    have h0 : 0 ≤ Op.lookupswitch.offset ps.toList d x := zlook a1 (fun o ho => of_decide_eq_true (List.all_eq_true.mp a2 o ho))
    exact lv_lookup C.1 C.2.1 hd a3 rfl (by rw [zti hx]; omega) kk2
  · cases h
end
section
set_option maxHeartbeats 4000000 in
theorem zst_mono {y pc pc1 : Nat} {L L1 : zL} {st st1 : List zV} {σ σ1 : zS} {g : Option Prop} (h : zst y pc L st σ = some (g, pc1, L1, st1, σ1)) : σ.2.2.2 ≤ σ1.2.2.2 := by
  unfold zst at h
  split at h
  · next i len a b hi =>
    cases i <;> simp only [zx, Bool.cond_eq_ite] at h <;> (repeat' split at h) <;> first | (cases h; done) | (cases h; exact Nat.le_refl _) | (cases h; exact Nat.le_succ _)
  · cases h
set_option maxHeartbeats 4000000 in
theorem zst_sound {p : Program} {l : Launch} {e : Env} {R : Room} {s : State} {m : MethodId} {args : Array Value} {below : List Frame} {meth : Method} {c : Code} {cA : Nat → ClassId} {D : va_G} {base b Lx : Nat} {xs : Nat → Int32} {y : Nat} {H : Heap} {locs : List Loc} {cells slots : Nat} {Q : State → Prop} {ls : Array Slot} {pc pc1 : Nat} {L L1 : zL} {st st1 : List zV} {σ σ1 : zS} {g : Option Prop} (C : zCx p R s m args meth c cA D base b Lx xs y) (hH : zH cA D base b Lx xs s σ H locs cells) (hL : ∀ q ∈ L, zvr q.2) (hS : ∀ v ∈ st, zvr v) (hl : lv_has ls (zml y) (L.map (zcq base b))) (h : zst y pc L st σ = some (g, pc1, L1, st1, σ1)) (hg : ∀ P, g = some P → P) (hrc : cells + (σ1.2.2.2 - σ.2.2.2) ≤ R.cells) (hrs : slots + (zsz σ1.2.2.2 - zsz σ.2.2.2) ≤ R.slots)
    (kk : zK p l e R s m args below meth c cA D base b Lx xs y cells slots Q σ pc1 L1 st1 σ1) : zW p l e R s m args below meth c base b H locs cells slots Q pc ls st := by
  unfold zst at h
  split at h
  · next i len a b' hi =>
    obtain ⟨hd, ha⟩ := zchk_spec (zck y C.2.2.2.2.2.2.2.2.2.2.1) hi
    cases i with
    | iload_n k => exact zs_iload_n C hH hL hS hl hd ha h hg hrc hrs kk
    | iload k => exact zs_iload C hH hL hS hl hd ha h hg hrc hrs kk
    | fload_n k => exact zs_fload_n C hH hL hS hl hd ha h hg hrc hrs kk
    | dload_n k => exact zs_dload_n C hH hL hS hl hd ha h hg hrc hrs kk
    | dload k => exact zs_dload C hH hL hS hl hd ha h hg hrc hrs kk
    | aload_n k => exact zs_aload_n C hH hL hS hl hd ha h hg hrc hrs kk
    | istore_n k => exact zs_istore_n C hH hL hS hl hd ha h hg hrc hrs kk
    | istore k => exact zs_istore C hH hL hS hl hd ha h hg hrc hrs kk
    | fstore_n k => exact zs_fstore_n C hH hL hS hl hd ha h hg hrc hrs kk
    | dstore k => exact zs_dstore C hH hL hS hl hd ha h hg hrc hrs kk
    | astore_n k => exact zs_astore_n C hH hL hS hl hd ha h hg hrc hrs kk
    | iinc k n => exact zs_iinc C hH hL hS hl hd ha h hg hrc hrs kk
    | iconst n => exact zs_iconst C hH hL hS hl hd ha h hg hrc hrs kk
    | bipush n => exact zs_bipush C hH hL hS hl hd ha h hg hrc hrs kk
    | sipush n => exact zs_sipush C hH hL hS hl hd ha h hg hrc hrs kk
    | fconst k => exact zs_fconst C hH hL hS hl hd ha h hg hrc hrs kk
    | dconst k => exact zs_dconst C hH hL hS hl hd ha h hg hrc hrs kk
    | ldc k => exact zs_ldc C hH hL hS hl hd ha h hg hrc hrs kk
    | ldc_w k => exact zs_ldc_w C hH hL hS hl hd ha h hg hrc hrs kk
    | iadd => exact zs_iadd C hH hL hS hl hd ha h hg hrc hrs kk
    | isub => exact zs_isub C hH hL hS hl hd ha h hg hrc hrs kk
    | imul => exact zs_imul C hH hL hS hl hd ha h hg hrc hrs kk
    | idiv => exact zs_idiv C hH hL hS hl hd ha h hg hrc hrs kk
    | ishl => exact zs_ishl C hH hL hS hl hd ha h hg hrc hrs kk
    | ishr => exact zs_ishr C hH hL hS hl hd ha h hg hrc hrs kk
    | iushr => exact zs_iushr C hH hL hS hl hd ha h hg hrc hrs kk
    | ior => exact zs_ior C hH hL hS hl hd ha h hg hrc hrs kk
    | iand => exact zs_iand C hH hL hS hl hd ha h hg hrc hrs kk
    | i2c => exact zs_i2c C hH hL hS hl hd ha h hg hrc hrs kk
    | i2d => exact zs_i2d C hH hL hS hl hd ha h hg hrc hrs kk
    | d2f => exact zs_d2f C hH hL hS hl hd ha h hg hrc hrs kk
    | fneg => exact zs_fneg C hH hL hS hl hd ha h hg hrc hrs kk
    | ddiv => exact zs_ddiv C hH hL hS hl hd ha h hg hrc hrs kk
    | dmul => exact zs_dmul C hH hL hS hl hd ha h hg hrc hrs kk
    | dsub => exact zs_dsub C hH hL hS hl hd ha h hg hrc hrs kk
    | fdiv => exact zs_fdiv C hH hL hS hl hd ha h hg hrc hrs kk
    | fmul => exact zs_fmul C hH hL hS hl hd ha h hg hrc hrs kk
    | fsub => exact zs_fsub C hH hL hS hl hd ha h hg hrc hrs kk
    | f2i => exact zs_f2i C hH hL hS hl hd ha h hg hrc hrs kk
    | fcmp o => exact zs_fcmp C hH hL hS hl hd ha h hg hrc hrs kk
    | dcmp o => exact zs_dcmp C hH hL hS hl hd ha h hg hrc hrs kk
    | dup => exact zs_dup C hH hL hS hl hd ha h hg hrc hrs kk
    | dup2 => exact zs_dup2 C hH hL hS hl hd ha h hg hrc hrs kk
    | pop => exact zs_pop C hH hL hS hl hd ha h hg hrc hrs kk
    | goto o => exact zs_goto C hH hL hS hl hd ha h hg hrc hrs kk
    | ifnull o => exact zs_ifnull C hH hL hS hl hd ha h hg hrc hrs kk
    | ifnonnull o => exact zs_ifnonnull C hH hL hS hl hd ha h hg hrc hrs kk
    | aconst_null => exact zs_aconst_null C hH hL hS hl hd ha h hg hrc hrs kk
    | getfield i => exact zs_getfield C hH hL hS hl hd ha h hg hrc hrs kk
    | putfield i => exact zs_putfield C hH hL hS hl hd ha h hg hrc hrs kk
    | iaload => exact zs_iaload C hH hL hS hl hd ha h hg hrc hrs kk
    | caload => exact zs_caload C hH hL hS hl hd ha h hg hrc hrs kk
    | baload => exact zs_baload C hH hL hS hl hd ha h hg hrc hrs kk
    | daload => exact zs_daload C hH hL hS hl hd ha h hg hrc hrs kk
    | aaload => exact zs_aaload C hH hL hS hl hd ha h hg hrc hrs kk
    | iastore => exact zs_iastore C hH hL hS hl hd ha h hg hrc hrs kk
    | bastore => exact zs_bastore C hH hL hS hl hd ha h hg hrc hrs kk
    | castore => exact zs_castore C hH hL hS hl hd ha h hg hrc hrs kk
    | dastore => exact zs_dastore C hH hL hS hl hd ha h hg hrc hrs kk
    | aastore => exact zs_aastore C hH hL hS hl hd ha h hg hrc hrs kk
    | arraylength => exact zs_arraylength C hH hL hS hl hd ha h hg hrc hrs kk
    | newarray t => exact zs_newarray C hH hL hS hl hd ha h hg hrc hrs kk
    | anewarray i => exact zs_anewarray C hH hL hS hl hd ha h hg hrc hrs kk
    | new i => exact zs_new C hH hL hS hl hd ha h hg hrc hrs kk
    | invokespecial i => exact zs_invokespecial C hH hL hS hl hd ha h hg hrc hrs kk
    | invokestatic i => exact zs_invokestatic C hH hL hS hl hd ha h hg hrc hrs kk
    | tableswitch d lo hi offs => exact zs_tableswitch C hH hL hS hl hd ha h hg hrc hrs kk
    | lookupswitch d ps => exact zs_lookupswitch C hH hL hS hl hd ha h hg hrc hrs kk
    | _ => exact absurd (show (none : zNx) = some _ from h) nofun
  · cases h
theorem zcd_iff {c : Jvm.ClassFile.Cond} {p q : Int} (hp : zr p) (hq : zr q) : (match c with
  | .eq => Int32.ofInt p = Int32.ofInt q | .ne => ¬ Int32.ofInt p = Int32.ofInt q | .lt => Int32.ofInt p < Int32.ofInt q | .ge => Int32.ofInt q ≤ Int32.ofInt p | .gt => Int32.ofInt q < Int32.ofInt p | .le => Int32.ofInt p ≤ Int32.ofInt q) ↔ zcd c p q := by
  cases c <;> simp only [zcd, z_eq hp hq, z_lt hp hq, z_le hp hq, z_lt hq hp, z_le hq hp]
theorem zbr_sound {p : Program} {l : Launch} {e : Env} {R : Room} {s : State} {m : MethodId} {args : Array Value} {below : List Frame} {meth : Method} {c : Code} {cA : Nat → ClassId} {D : va_G} {base b Lx : Nat} {xs : Nat → Int32} {y : Nat} {H : Heap} {locs : List Loc} {cells slots : Nat} {Q : State → Prop} {ls : Array Slot} {pc t f : Nat} {L : zL} {st st1 : List zV} {σ : zS} {P : Prop} (C : zCx p R s m args meth c cA D base b Lx xs y) (hH : zH cA D base b Lx xs s σ H locs cells) (hL : ∀ q ∈ L, zvr q.2) (hS : ∀ v ∈ st, zvr v) (hl : lv_has ls (zml y) (L.map (zcq base b))) (h : zbr y pc st = some (P, t, f, st1)) (kt : P → zW p l e R s m args below meth c base b H locs cells slots Q t ls st1) (kf : ¬ P → zW p l e R s m args below meth c base b H locs cells slots Q f ls st1) : zW p l e R s m args below meth c base b H locs cells slots Q pc ls st := by
  unfold zbr at h
  split at h
  · next cd off len a b' hi =>
    obtain ⟨hd, ha⟩ := zchk_spec (zck y C.2.2.2.2.2.2.2.2.2.2.1) hi
    simp only [zaux, Bool.and_eq_true, decide_eq_true_eq] at ha
    split at h
    · next p r =>
      simp only [Option.some.injEq, Prod.mk.injEq] at h
      obtain ⟨rfl, rfl, rfl, rfl⟩ := h
      have hz := zcd_iff (c := cd) (show zr p from zch hS) (show zr 0 from ⟨by decide, by decide⟩)
      have hd := zlen hd ha.1
      cases cd
      · exact lv_if_eq C.1 C.2.1 hd ha.2 (fun q => kt (hz.mp q)) (fun q => kf (fun z => q (hz.mpr z)))
      · exact lv_if_ne C.1 C.2.1 hd ha.2 (fun q => kt (hz.mp q)) (fun q => kf (fun z => (hz.mpr z) q))
      · exact lv_if_lt C.1 C.2.1 hd ha.2 (fun q => kt (hz.mp q)) (fun q => kf (fun z => q (hz.mpr z)))
      · exact lv_if_ge C.1 C.2.1 hd ha.2 (fun q => kt (hz.mp q)) (fun q => kf (fun z => q (hz.mpr z)))
      · exact lv_if_gt C.1 C.2.1 hd ha.2 (fun q => kt (hz.mp q)) (fun q => kf (fun z => q (hz.mpr z)))
      · exact lv_if_le C.1 C.2.1 hd ha.2 (fun q => kt (hz.mp q)) (fun q => kf (fun z => q (hz.mpr z)))
    · cases h
  · next cd off len a b' hi =>
    obtain ⟨hd, ha⟩ := zchk_spec (zck y C.2.2.2.2.2.2.2.2.2.2.1) hi
    simp only [zaux, Bool.and_eq_true, decide_eq_true_eq] at ha
    split at h
    · next q' p r =>
      simp only [Option.some.injEq, Prod.mk.injEq] at h
      obtain ⟨rfl, rfl, rfl, rfl⟩ := h
      have hz := zcd_iff (c := cd) (show zr p from zch (zct hS)) (show zr q' from zch hS)
      have hd := zlen hd ha.1
      cases cd
      · exact lv_icmp_eq C.1 C.2.1 hd ha.2 (fun q => kt (hz.mp q)) (fun q => kf (fun z => q (hz.mpr z)))
      · exact lv_icmp_ne C.1 C.2.1 hd ha.2 (fun q => kt (hz.mp q)) (fun q => kf (fun z => (hz.mpr z) q))
      · exact lv_icmp_lt C.1 C.2.1 hd ha.2 (fun q => kt (hz.mp q)) (fun q => kf (fun z => q (hz.mpr z)))
      · exact lv_icmp_ge C.1 C.2.1 hd ha.2 (fun q => kt (hz.mp q)) (fun q => kf (fun z => q (hz.mpr z)))
      · exact lv_icmp_gt C.1 C.2.1 hd ha.2 (fun q => kt (hz.mp q)) (fun q => kf (fun z => q (hz.mpr z)))
      · exact lv_icmp_le C.1 C.2.1 hd ha.2 (fun q => kt (hz.mp q)) (fun q => kf (fun z => q (hz.mpr z)))
    · cases h
  · cases h
/-- what a return leaves -/
theorem zre_sound {p : Program} {l : Launch} {e : Env} {R : Room} {s : State} {m : MethodId} {args : Array Value} {below : List Frame} {meth : Method} {c : Code} {cA : Nat → ClassId} {D : va_G} {base b Lx : Nat} {xs : Nat → Int32} {y : Nat} {H : Heap} {locs : List Loc} {cells slots : Nat} {ls : Array Slot} {pc : Nat} {st : List zV} {r : Option zV} {Qc : Array Value → State → Outcome → State → Prop} {free : Addr → Prop} (C : zCx p R s m args meth c cA D base b Lx xs y) (hr : meth.sig.returnType = zrt y) (hlocks : meth.locks = false) (h : zre y pc st = some r)
    (hq : ∀ t : State, t.heap = H → s.WarmedH t.vm → Qc args s (.returned (r.map (zcv base b))) t) (hf : ∀ q ∈ locs, free q.base) : W p l e R s m args below meth c H locs cells slots (MQ below Qc args s cells slots free) (F0 m pc ls (st.map (zcv base b))) := by
  unfold zre at h
  split at h
  · next x hi =>
    obtain ⟨len, a, b'⟩ := x
    obtain ⟨hd, ha⟩ := zchk_spec (zck y C.2.2.2.2.2.2.2.2.2.2.1) hi
    have hd := zlen hd ha
    split at h
    · next x =>
      split at h
      · next hy =>
        simp only [Option.some.injEq] at h
        subst h
        exact W.iret C.1 C.2.1 (by rw [hr, hy]) hq hf hd
      · next hy =>
        obtain ⟨hb, h⟩ := zbif h
        subst h
        simp only [Bool.or_eq_true, decide_eq_true_eq] at hb
        refine W.zret (ty := .boolean) C.1 C.2.1 (by rw [hr, hy]) ?_ hq hf hd
        rcases hb with rfl | rfl <;> rfl
      · cases h
    · cases h
  · next x hi =>
    obtain ⟨len, a, b'⟩ := x
    obtain ⟨hd, ha⟩ := zchk_spec (zck y C.2.2.2.2.2.2.2.2.2.2.1) hi
    have hd := zlen hd ha
    split at h
    · split at h
      · next hy =>
        simp only [Option.some.injEq] at h
        subst h
        exact W.dret C.1 C.2.1 (by rw [hr, hy]) hq hf hd
      · cases h
    · cases h
  · next x hi =>
    obtain ⟨len, a, b'⟩ := x
    obtain ⟨hd, ha⟩ := zchk_spec (zck y C.2.2.2.2.2.2.2.2.2.2.1) hi
    have hd := zlen hd ha
    split at h
    · next x =>
      split at h
      · next n hy =>
        simp only [Option.some.injEq] at h
        subst h
        refine W.aret C.1 C.2.1 (by rw [hr, hy]) (Or.inl ⟨_, rfl⟩) ?_ hq hf hd
        by_cases h0 : x = 0
        · subst h0; exact Or.inl rfl
        · exact Or.inr ⟨_, zcv_r h0⟩
      · cases h
    · cases h
  · next x hi =>
    obtain ⟨len, a, b'⟩ := x
    obtain ⟨hd, ha⟩ := zchk_spec (zck y C.2.2.2.2.2.2.2.2.2.2.1) hi
    have hd := zlen hd ha
    split at h
    · split at h
      · next hy =>
        simp only [Option.some.injEq] at h
        subst h
        exact W.vret C.1 C.2.1 (by rw [hr, hy]) hq hf hd
      · cases h
    · cases h
  · cases h
theorem zre_r {y pc : Nat} {st : List zV} {r : Option zV} (h : zre y pc st = some r) (hS : ∀ v ∈ st, zvr v) : ∀ w, r = some w → zvr w := by
  unfold zre at h
  repeat' split at h
  all_goals first
    | (cases h; done)
    | (cases h; intro w hw; cases hw; done)
    | (cases h; intro w hw; cases hw; exact hS _ List.mem_cons_self)
    | (obtain ⟨-, h⟩ := zbif h; subst h; intro w hw; cases hw; exact hS _ List.mem_cons_self)
/-- soundness of one run: whatever the machine's context, it comes to the end -/
def zSnd (l : Launch) : zRel := fun y pc L st σ r τ => σ.2.2.2 ≤ τ.2.2.2 ∧ ∀ (p : Program) (e : Env) (R : Room) (s : State) (m : MethodId) (args : Array Value) (below : List Frame) (meth : Method) (c : Code) (cA : Nat → ClassId) (D : va_G) (base b Lx : Nat) (xs : Nat → Int32) (H : Heap) (locs : List Loc) (cells slots : Nat) (Q : State → Prop) (ls : Array Slot),
  zCx p R s m args meth c cA D base b Lx xs y → zH cA D base b Lx xs s σ H locs cells → (∀ q ∈ L, zvr q.2) → (∀ v ∈ st, zvr v) → lv_has ls (zml y) (L.map (zcq base b)) → cells + (τ.2.2.2 - σ.2.2.2) ≤ R.cells → slots + (zsz τ.2.2.2 - zsz σ.2.2.2) ≤ R.slots →
  (∀ (pcq : Nat) (stq : List zV) (lsq : Array Slot) (Hq : Heap) (locsq : List Loc), zre y pcq stq = some r → (∀ v ∈ stq, zvr v) → zH cA D base b Lx xs s τ Hq locsq (cells + (τ.2.2.2 - σ.2.2.2)) → zW p l e R s m args below meth c base b Hq locsq (cells + (τ.2.2.2 - σ.2.2.2)) (slots + (zsz τ.2.2.2 - zsz σ.2.2.2)) Q pcq lsq stq) →
  zW p l e R s m args below meth c base b H locs cells slots Q pc ls st
theorem zadd3 {k a b c : Nat} (h1 : a ≤ b) (h2 : b ≤ c) : k + (b - a) + (c - b) = k + (c - a) := by omega
theorem zlg_len {base b : Nat} : ∀ (As : List zV), (lg_sl (As.map (zcv base b))).length = zcats As
  | [] => rfl
  | v :: vs => by
    have ih := zlg_len (base := base) (b := b) vs
    have hc := zcat_cv (base := base) (b := b) v
    rcases v with x | r | f | d
    · simp only [lg_sl, List.map_cons, List.flatMap_cons, List.length_append, zcats, List.sum_cons] at ih ⊢
      rw [ih]; rfl
    · simp only [lg_sl, List.map_cons, List.flatMap_cons, List.length_append, zcats, List.sum_cons] at ih ⊢
      rw [ih]
      have : (zcv base b (.inr (.inl r))).category = 1 := hc
      simp [this, zcat]
    · simp only [lg_sl, List.map_cons, List.flatMap_cons, List.length_append, zcats, List.sum_cons] at ih ⊢
      rw [ih]; rfl
    · simp only [lg_sl, List.map_cons, List.flatMap_cons, List.length_append, zcats, List.sum_cons] at ih ⊢
      rw [ih]; rfl
theorem zargs_map {base b : Nat} : ∀ (As : List zV) (i : Nat), lv_args i (As.map (zcv base b)) = (zargs i As).map (zcq base b)
  | [], _ => rfl
  | v :: vs, i => by
    simp only [List.map_cons, lv_args, zargs, zcat_cv, zargs_map vs]
theorem zargs_r : ∀ (As : List zV) (i : Nat), (∀ v ∈ As, zvr v) → ∀ q ∈ zargs i As, zvr q.2
  | [], _, _, q, hq => by cases hq
  | v :: vs, i, h, q, hq => by
    rcases List.mem_cons.mp hq with rfl | hq
    · exact h v List.mem_cons_self
    · exact zargs_r vs _ (fun w hw => h w (List.mem_cons_of_mem _ hw)) q hq
theorem zbeq_f {a n : Nat} (h : a ≠ n) : Nat.beq a n = false := by
  cases hb : Nat.beq a n with
  | false => rfl
  | true => exact absurd (Nat.eq_of_beq_eq_true hb) h
theorem zcls_ok : ∀ a, a < zN → (zname a).cls = zR (zown a) ∧ (zini a = true → (zname a).name = "<init>") := by
  intro a ha
  have h0 : (List.range zN).all (fun a => decide ((zname a).cls = zR (zown a) ∧ (zini a = true → (zname a).name = "<init>"))) = true := by decide +kernel
  exact of_decide_eq_true (List.all_eq_true.mp h0 a (List.mem_range.mpr ha))
abbrev zwsy (a : Nat) : List Cond := Cond.code (zname a) (zb a) (zml a) (zrt a) :: lw_good
theorem zcw : ∀ a, a < zlaw → Cond.code (zname a) (zb a) (zml a) (zrt a) ∈ lw_tbl := lt_s (lt_s (lt_s (lt_s (lt_s (lt_s (lt_s (lt_s (lt_s (lt_s (lt_s (lt_s (lt_s (lt_s (lt_s (lt_s (lt_s (lt_s (lt_s (lt_s (lt_s (lt_s (lt_s (lt_s (lt_s (lt_s (lt_s (lt_s (lt_s (lt_s (lt_s (lt_s (lt_s (lt_s (lt_s (lt_s (lt_s (lt_s (lt_s (lt_s (lt_s (lt_s (lt_s (lt_s (lt_s (lt_s (lt_s (lt_s (lt_s (lt_s (lt_s (lt_s (lt_s (lt_s (lt_s (lt_s (lt_s (lt_s (lt_s (lt_s (lt_s (lt_s (lt_s (lt_s (lt_s (lt_s (lt_s (lt_s (lt_s (lt_s (lt_s (lt_s (lt_s (lt_s (lt_s (lt_s (lt_s (lt_s (lt_s (lt_s (lt_s (lt_s (lt_s (lt_s (lt_s (lt_s (lt_s (lt_s (lt_s (lt_s (lt_s (lt_s (lt_s (lt_s (lt_s (lt_s (lt_s (lt_s (lt_s (lt_s (lt_s (lt_s (lt_s (lt_s (lt_s (lt_s (lt_s (lt_s (lt_s (lt_s (lt_s (lt_s (lt_s (lt_s (lt_s (lt_s (lt_s (lt_s (lt_s (lt_s (lt_s (lt_s (lt_s (lt_s (lt_s (lt_s (lt_s (lt_s (lt_s (lt_s (lt_s (lt_s (lt_s (lt_s (lt_s (lt_s (lt_s (lt_s (lt_s (lt_s (lt_s (lt_s (lt_s (lt_0) zcw0) zcw1) zcw2) zcw3) zcw4) zcw5) zcw6) zcw7) zcw8) zcw9) zcw10) zcw11) zcw12) zcw13) zcw14) zcw15) zcw16) zcw17) zcw18) zcw19) zcw20) zcw21) zcw22) zcw23) zcw24) zcw25) zcw26) zcw27) zcw28) zcw29) zcw30) zcw31) zcw32) zcw33) zcw34) zcw35) zcw36) zcw37) zcw38) zcw39) zcw40) zcw41) zcw42) zcw43) zcw44) zcw45) zcw46) zcw47) zcw48) zcw49) zcw50) zcw51) zcw52) zcw53) zcw54) zcw55) zcw56) zcw57) zcw58) zcw59) zcw60) zcw61) zcw62) zcw63) zcw64) zcw65) zcw66) zcw67) zcw68) zcw69) zcw70) zcw71) zcw72) zcw73) zcw74) zcw75) zcw76) zcw77) zcw78) zcw79) zcw80) zcw81) zcw82) zcw83) zcw84) zcw85) zcw86) zcw87) zcw88) zcw89) zcw90) zcw91) zcw92) zcw93) zcw94) zcw95) zcw96) zcw97) zcw98) zcw99) zcw100) zcw101) zcw102) zcw103) zcw104) zcw105) zcw106) zcw107) zcw108) zcw109) zcw110) zcw111) zcw112) zcw113) zcw114) zcw115) zcw116) zcw117) zcw118) zcw119) zcw120) zcw121) zcw122) zcw123) zcw124) zcw125) zcw126) zcw127) zcw128) zcw129) zcw130) zcw131) zcw132) zcw133) zcw134) zcw135) zcw136) zcw137) zcw138) zcw139) zcw140) zcw141) zcw142
/-- a method's contract at one start, out of a run of the pure machine -/
abbrev zPc (cA : Nat → ClassId) (D : va_G) (base b : Nat) (As : List zV) (σ : zS) : Array Value → State → Prop := va_Pc (As.map (zcv base b)) (fun U => U.heap.size = base + (σ.2.2.2 - 1) ∧ va_P D vwCl (zws cA base b σ) U.heap ∧ va_K D vwCl (ztys cA) U ∧ ∀ w ∈ lw_tbl, zisn w = true → va_Nw w U)
abbrev zQc (cA : Nat → ClassId) (D : va_G) (base b Lx : Nat) (xs : Nat → Int32) (r : Option zV) (τ : zS) : Array Value → State → Outcome → State → Prop := fun _ st oc t => oc = .returned (r.map (zcv base b)) ∧ (∀ w, r = some w → zvr w) ∧ t.heap.size = base + (τ.2.2.2 - 1) ∧ va_P D vwCl (zws cA base b τ) t.heap ∧ zRg τ ∧ (τ.1 1000 (-1) = Lx ∧ ∀ j : Nat, j < Lx → τ.1 1000 j = (xs j).toInt) ∧ va_F (fun q => base ≤ q) st t
abbrev zRm (a : Nat) (σ τ : zS) : Room := { frames := zrank a, cells := τ.2.2.2 - σ.2.2.2, slots := zsz τ.2.2.2 - zsz σ.2.2.2, locals := zneed a }
set_option maxHeartbeats 4000000 in
theorem zmet {l : Launch} {a : Nat} {As : List zV} {σ τ : zS} {r : Option zV} {cA : Nat → ClassId} {D : va_G} {base b Lx : Nat} {xs : Nat → Int32} (hX : zSnd l a 0 (zargs 0 As) [] σ r τ) (ha : a < zlaw) (hpl : plainFor (zname a) = true) (hm : zcats As ≤ zml a) (hA : ∀ v ∈ As, zvr v) (h1 : 1 ≤ σ.2.2.2) (hR : zRg σ) (hsc : σ.1 1000 (-1) = Lx ∧ ∀ j : Nat, j < Lx → σ.1 1000 j = (xs j).toInt) (hLx : Lx ≤ 2048) :
    Met l (zname a) (zwsy a) (zRm a σ τ) (zPc cA D base b As σ) (zQc cA D base b Lx xs r τ) (τ.2.2.2 - σ.2.2.2) (zsz τ.2.2.2 - zsz σ.2.2.2) (fun q => base ≤ q) := by
  refine va_MetF (cc := zb a) (maxL := zml a) (ret := zrt a) hpl rfl ?_
  intro p e s m args below meth c s₁ B hml hv
  obtain ⟨rfl, hsz, hP, hK, hN⟩ := hv
  have hts := atoms_spec (ws := zwsy a) B.pre
  have haN : a < zN := Nat.lt_trans ha (by decide)
  obtain ⟨hcl, hini⟩ := zcls_ok a haN
  have hown := findClass_of_methodNamed B.named
  rw [hcl] at hown
  have hlocks := B.notSynchronized
  have C : zCx p (headSpec (zwsy a) (zRm a σ τ)).room s m (As.map (zcv base b)).toArray meth c cA D base b Lx xs a :=
    ⟨B.exec, B.bytes, hml, hown, fun w hw => hts w (List.mem_cons_of_mem _ hw), fun h => by rw [(name_of_methodNamed B.named B.method).1]; exact hini h, hK, Nat.le_refl _, Nat.le_refl _, hN, haN, hLx, fun h => absurd h (Nat.ne_of_lt ha), by rw [hsz]; exact Nat.le_add_right _ _⟩
  have hl := lv_entry (As.map (zcv base b)) (n := zml a) (by rw [zlg_len]; exact hm)
  rw [lg_entry_eq]
  generalize (lg_sl (As.map (zcv base b)) ++ List.replicate (zml a - (lg_sl (As.map (zcv base b))).length) Slot.unset).toArray = ls at hl ⊢
  rw [zargs_map] at hl
  have hH : zH cA D base b Lx xs s σ s.heap [] 0 := ⟨h1, hsz, hP, hR, hsc, va_S.rf, by rw [hsz]; rfl⟩
  refine hX.2 p e _ s m _ below meth c cA D base b Lx xs s.heap [] 0 0 _ ls C hH (zargs_r As 0 hA) (fun v hv => by cases hv) hl (by rw [Nat.zero_add]; exact Nat.le_refl _) (by rw [Nat.zero_add]; exact Nat.le_refl _) ?_
  intro pcq stq lsq Hq locsq hre hSq hHq
  simp only [Nat.zero_add] at hHq ⊢
  exact zre_sound C B.returns hlocks hre (fun t ht hW => ⟨rfl, zre_r hre hSq, by rw [ht]; exact hHq.2.1, by rw [ht]; exact hHq.2.2.1, hHq.2.2.2.1, hHq.2.2.2.2.1, hHq.2.2.2.2.2.1.F ht⟩) (fun q hq => hHq.2.2.2.2.2.1.2.2 q hq)
theorem zGI {ws : List Cond} (h : ∀ w ∈ ws, w ∈ lw_good) : GoodIn lw_good ws := fun w hw => ⟨h w hw, good_of_word (List.mem_filter.mp (h w hw)).2⟩
theorem zwsy_in {a : Nat} (ha : a < zlaw) : ∀ w ∈ zwsy a, w ∈ lw_good := fun w hw => (List.mem_cons.mp hw).elim (fun e => e ▸ zgood (zcw a ha) rfl) id
theorem zover : ∀ w ∈ lw_tbl, ∀ ty, w = .arrayOver ty → ty = .object RX1 := by
  intro w hw ty e
  subst e
  have h0 : lw_tbl.all (fun w => match w with | .arrayOver ty => decide (ty = .object RX1) | _ => true) = true := by decide +kernel
  exact of_decide_eq_true (List.all_eq_true.mp h0 _ hw)
theorem zwarm {w : Cond} {s U : State} (hw : w ∈ lw_tbl) (hg : zisn w = true) (hW : s.WarmedH U.vm) (h : va_Nw w s) : va_Nw w U := by
  cases w <;> first
    | (cases hg; done)
    | exact va_Nw.warmM hW h
    | (cases zover _ hw _ rfl; exact va_AO.moved hW.alike h)
theorem zsame {w : Cond} {s U : State} (hw : w ∈ lw_tbl) (hg : zisn w = true) (hW : s.vm = U.vm) (h : va_Nw w s) : va_Nw w U := by
  cases w <;> first
    | (cases hg; done)
    | exact va_Nw.same rfl hW h
    | (cases zover _ hw _ rfl; exact va_AO.moved (by rw [hW]; exact Vm.Alike.refl _) h)
theorem zblind {cA : Nat → ClassId} {D : va_G} {base b : Nat} {As : List zV} {σ : zS} : FrameBlind (zPc cA D base b As σ) := fun a U g mk q => ⟨q.1, q.2.1, q.2.2.1, va_K.moved (u := U) (U := U.calling g mk a) (Vm.Alike.refl U.vm) q.2.2.2.1, fun w hw hg => zsame (s := U) (U := U.calling g mk a) hw hg rfl (q.2.2.2.2 w hw hg)⟩
/-- behind a call -/
theorem zback {p : Program} {l : Launch} {e : Env} {R : Room} {s : State} {m : MethodId} {args : Array Value} {below : List Frame} {meth : Method} {c : Code} {cA : Nat → ClassId} {D : va_G} {base b Lx : Nat} {xs : Nat → Int32} {y : Nat} {H : Heap} {locs : List Loc} {cells slots : Nat} {Q : State → Prop} {ls : Array Slot} {pc : Nat} {L : zL} {st rest : List zV} {σ σ1 : zS} {v : Option zV} {qa : Array Value} (C : zCx p R s m args meth c cA D base b Lx xs y) (hH : zH cA D base b Lx xs s σ H locs cells) (hL : ∀ q ∈ L, zvr q.2) (hS : ∀ v ∈ rest, zvr v) (hl : lv_has ls (zml y) (L.map (zcq base b))) (h1 : σ.2.2.2 ≤ σ1.2.2.2) (h1b : 1 ≤ σ.2.2.2)
    (hrun : va_Run p l e R s m args below meth c H locs cells slots (σ1.2.2.2 - σ.2.2.2) (zsz σ1.2.2.2 - zsz σ.2.2.2) (F0 m pc ls (st.map (zcv base b))) (rest.map (zcv base b)) (zQc cA D base b Lx xs v σ1 qa) (fun q => base ≤ q))
    (kk : ∀ (H1 : Heap) (locs1 : List Loc), zH cA D base b Lx xs s σ1 H1 locs1 (cells + (σ1.2.2.2 - σ.2.2.2)) → (∀ w ∈ v.toList ++ rest, zvr w) → zW p l e R s m args below meth c base b H1 locs1 (cells + (σ1.2.2.2 - σ.2.2.2)) (slots + (zsz σ1.2.2.2 - zsz σ.2.2.2)) Q (pc + 3) ls (v.toList ++ rest)) : zW p l e R s m args below meth c base b H locs cells slots Q pc ls st := by
  intro T hT X
  obtain ⟨v', st₀, t, T', L2, h0, X', hL2, e1, e2, ⟨hv, hvr, hz, hP1, hR1, hsc1, hF⟩, stp⟩ := hrun T hT X
  cases hv
  obtain ⟨h2, h3, h4, h5, h6, h7, h8⟩ := hH
  have hH1 : zH cA D base b Lx xs s σ1 T'.heap (locs ++ L2) (cells + (σ1.2.2.2 - σ.2.2.2)) := by
    refine ⟨Nat.le_trans h2 h1, by rw [e1]; exact hz, by rw [e1]; exact hP1, hR1, hsc1, ⟨?_, ?_, ?_⟩, by omega⟩
    · rw [e1, hz]; have := h7.1; omega
    · intro q g1 g2
      rw [e1, hF.2 q (by rw [h0]; exact Nat.lt_of_lt_of_le g1 h7.1) g2, h0]
      exact h7.2.1 q g1 g2
    · intro q hq
      rcases List.mem_append.mp hq with h | h
      · exact h7.2.2 q h
      · exact hL2 q h
  have hS1 : ∀ w ∈ v.toList ++ rest, zvr w := by
    intro w hw
    rcases List.mem_append.mp hw with h | h
    · exact hvr w (Option.mem_toList.mp h)
    · exact hS w h
  obtain ⟨t2, a1, b1⟩ := kk T'.heap (locs ++ L2) hH1 hS1 T' rfl X'
  refine ⟨t2, ?_, b1⟩
  have e5 : (v.toList ++ rest).map (zcv base b) = (v.map (zcv base b)).toList ++ rest.map (zcv base b) := by cases v <;> rfl
  rw [e5] at a1
  exact stp t2 a1
theorem zvl_spec {o i a n : Nat} (h : zvl.any (fun q => decide (q.1 = o ∧ q.2.1 = i ∧ q.2.2.1 = a ∧ q.2.2.2.1 = n)) = true) : Cond.methodLink (zR o) i (zname a) ∈ lw_tbl ∧ Cond.instanceMethod (zname a) ∈ lw_tbl ∧ Cond.selects (zname a).cls (zname a) (zname a) ∈ lw_tbl ∧ Cond.initialized (zname a).cls ∈ lw_tbl ∧ ((zname a).cls ≠ "java/lang/invoke/MethodHandle" ∧ (zname a).cls ≠ "java/lang/invoke/VarHandle" ∧ (parseMethodDescriptor (zname a).desc).map (fun d => d.parameters.length) = some n) := by
  obtain ⟨q, hq, hd⟩ := List.any_eq_true.mp h
  have h1 := List.all_eq_true.mp zvl_ok q hq
  simp only [Bool.and_eq_true, decide_eq_true_eq] at h1 hd
  obtain ⟨rfl, rfl, rfl, rfl⟩ := hd
  exact ⟨List.mem_of_getElem? h1.1.1.1.1, List.mem_of_getElem? h1.1.1.1.2, List.mem_of_getElem? h1.1.1.2, List.mem_of_getElem? h1.1.2, h1.2⟩
theorem zsl_spec {o i a n : Nat} (h : zsl.any (fun q => decide (q.1 = o ∧ q.2.1 = i ∧ q.2.2.1 = a ∧ q.2.2.2.1 = n)) = true) : Cond.methodLink (zR o) i (zname a) ∈ lw_tbl ∧ Cond.static (zname a) ∈ lw_tbl ∧ Cond.initialized (zname a).cls ∈ lw_tbl ∧ ((zname a).cls ≠ "java/lang/invoke/MethodHandle" ∧ (zname a).cls ≠ "java/lang/invoke/VarHandle" ∧ (parseMethodDescriptor (zname a).desc).map (fun d => d.parameters.length) = some n) := by
  obtain ⟨q, hq, hd⟩ := List.any_eq_true.mp h
  have h1 := List.all_eq_true.mp zsl_ok q hq
  simp only [Bool.and_eq_true, decide_eq_true_eq] at h1 hd
  obtain ⟨rfl, rfl, rfl, rfl⟩ := hd
  exact ⟨List.mem_of_getElem? h1.1.1.1, List.mem_of_getElem? h1.1.1.2, List.mem_of_getElem? h1.1.2, h1.2⟩
theorem zil_spec {o i a n : Nat} (h : zil.any (fun q => decide (q.1 = o ∧ q.2.1 = i ∧ q.2.2.1 = a ∧ q.2.2.2.1 = n)) = true) : Cond.methodLink (zR o) i (zname a) ∈ lw_tbl ∧ Cond.instanceMethod (zname a) ∈ lw_tbl ∧ Cond.initialized (zname a).cls ∈ lw_tbl ∧ (zname a).name = "<init>" ∧ zrt a = none ∧ ((zname a).cls ≠ "java/lang/invoke/MethodHandle" ∧ (zname a).cls ≠ "java/lang/invoke/VarHandle" ∧ (parseMethodDescriptor (zname a).desc).map (fun d => d.parameters.length) = some n) := by
  obtain ⟨q, hq, hd⟩ := List.any_eq_true.mp h
  have h1 := List.all_eq_true.mp zil_ok q hq
  simp only [Bool.and_eq_true, decide_eq_true_eq] at h1 hd
  obtain ⟨rfl, rfl, rfl, rfl⟩ := hd
  exact ⟨List.mem_of_getElem? h1.1.1.1.1.1, List.mem_of_getElem? h1.1.1.1.1.2, List.mem_of_getElem? h1.1.1.1.2, h1.1.1.2, h1.1.2, h1.2⟩
theorem znl_spec {o i a n : Nat} (h : znl.any (fun q => decide (q.1 = o ∧ q.2.1 = i ∧ q.2.2.1 = a ∧ q.2.2.2.1 = n)) = true) : Cond.methodLinkNest (zR o) i (zname a) "BumpsChart" ∈ lw_tbl ∧ Cond.instanceMethod (zname a) ∈ lw_tbl ∧ Cond.initialized (zname a).cls ∈ lw_tbl ∧ (zname a).name = "<init>" ∧ zrt a = none ∧ ((zname a).cls ≠ "java/lang/invoke/MethodHandle" ∧ (zname a).cls ≠ "java/lang/invoke/VarHandle" ∧ (parseMethodDescriptor (zname a).desc).map (fun d => d.parameters.length) = some n) := by
  obtain ⟨q, hq, hd⟩ := List.any_eq_true.mp h
  have h1 := List.all_eq_true.mp znl_ok q hq
  simp only [Bool.and_eq_true, decide_eq_true_eq] at h1 hd
  obtain ⟨rfl, rfl, rfl, rfl⟩ := hd
  exact ⟨List.mem_of_getElem? h1.1.1.1.1.1, List.mem_of_getElem? h1.1.1.1.1.2, List.mem_of_getElem? h1.1.1.1.2, h1.1.1.2, h1.1.2, h1.2⟩
set_option maxHeartbeats 4000000 in
theorem zcl_sound {p : Program} {l : Launch} {e : Env} {R : Room} {s : State} {m : MethodId} {args : Array Value} {below : List Frame} {meth : Method} {c : Code} {cA : Nat → ClassId} {D : va_G} {base b Lx : Nat} {xs : Nat → Int32} {y : Nat} {H : Heap} {locs : List Loc} {cells slots : Nat} {Q : State → Prop} {ls : Array Slot} {pc a : Nat} {L : zL} {st As rest : List zV} {σ σ1 : zS} {v : Option zV} (C : zCx p R s m args meth c cA D base b Lx xs y) (hH : zH cA D base b Lx xs s σ H locs cells) (hL : ∀ q ∈ L, zvr q.2) (hS : ∀ v ∈ st, zvr v) (hl : lv_has ls (zml y) (L.map (zcq base b))) (h : zcl y pc st σ = some (a, As, rest)) (hX : zSnd l a 0 (zargs 0 As) [] σ v σ1) (hrc : cells + (σ1.2.2.2 - σ.2.2.2) ≤ R.cells) (hrs : slots + (zsz σ1.2.2.2 - zsz σ.2.2.2) ≤ R.slots)
    (kk : ∀ (H1 : Heap) (locs1 : List Loc), zH cA D base b Lx xs s σ1 H1 locs1 (cells + (σ1.2.2.2 - σ.2.2.2)) → (∀ w ∈ v.toList ++ rest, zvr w) → zW p l e R s m args below meth c base b H1 locs1 (cells + (σ1.2.2.2 - σ.2.2.2)) (slots + (zsz σ1.2.2.2 - zsz σ.2.2.2)) Q (pc + 3) ls (v.toList ++ rest)) : zW p l e R s m args below meth c base b H locs cells slots Q pc ls st := by
  have hLx := C.2.2.2.2.2.2.2.2.2.2.2.1
  unfold zcl at h
  split at h
  · next idx len a' n hi =>
    obtain ⟨hd, ha⟩ := zchk_spec (zck y C.2.2.2.2.2.2.2.2.2.2.1) hi
    simp only [zaux, Bool.and_eq_true, decide_eq_true_eq] at ha
    obtain ⟨⟨⟨ha3, ha9⟩, hrm⟩, hany⟩ := ha
    split at h
    · next q r hdrop =>
      obtain ⟨hb, h⟩ := zbif h
      simp only [Prod.mk.injEq] at h
      obtain ⟨rfl, rfl, rfl⟩ := h
      simp only [Bool.and_eq_true] at hb
      obtain ⟨⟨⟨hob, hr8⟩, hlen⟩, hml⟩ := hb
      have hr8 := Nat.le_of_ble_eq_true hr8
      have hlen := Nat.eq_of_beq_eq_true hlen
      have hml := Nat.le_of_ble_eq_true hml
      simp only [zrm, Bool.and_eq_true, decide_eq_true_eq] at hrm
      obtain ⟨e1, e2, e3, e4⟩ := zob_spec hob (by omega)
      obtain ⟨w1, w2, w3, w4, w5⟩ := zvl_spec hany
      have hst : st = st.take n ++ vr q :: r := by rw [← hdrop]; exact (List.take_append_drop n st).symm
      have hsm : st.map (zcv base b) = ((st.take n).reverse.map (zcv base b)).reverse ++ Value.ref (base + (q - 1)) :: r.map (zcv base b) := by
        conv => lhs; rw [hst]
        rw [List.map_append, List.map_cons, zcv_o e3 e4, List.map_reverse, List.reverse_reverse]
      have hSr : ∀ v ∈ r, zvr v := fun v hv => hS v (by rw [hst]; exact List.mem_append_right _ (List.mem_cons_of_mem _ hv))
      have hSA : ∀ v ∈ vr q :: (st.take n).reverse, zvr v := zcons trivial (fun v hv => hS v (List.mem_of_mem_take (List.mem_reverse.mp hv)))
      have hM := zmet (cA := cA) (D := D) (base := base) (b := b) (Lx := Lx) (xs := xs) hX hrm.1.2 hrm.2 (by simpa [zcats, List.sum_reverse, zcat] using hml) hSA hH.1 hH.2.2.2.1 hH.2.2.2.2.1 hLx
      have hcls := (zcls_ok a' (Nat.lt_trans hrm.1.2 (by decide))).1
      refine zback (qa := (Value.ref (base + (q - 1)) :: (st.take n).reverse.map (zcv base b)).toArray) C hH hL hSr hl hX.1 hH.1 (va_runV (b := base + (q - 1)) (As := (st.take n).reverse.map (zcv base b)) (C := (zname a').cls) ⟨C.1, C.2.1, C.2.2.1, C.2.2.2.1, C.2.2.2.2.1⟩ hM (cwV n C.2.2.2.2.1 (zGI (fun w hw => ?_)) rfl rfl rfl ⟨rfl, w5⟩ ⟨Nat.le_trans hrm.1.1.1 C.2.2.2.2.2.2.2.1, Nat.le_trans hrm.1.1.2 C.2.2.2.2.2.2.2.2.1⟩) ⟨zblind, ?_, fun U hU hW => ?_⟩ rfl (by simpa using hlen) hl.1 hsm (by rw [zcats_map]; show 2 * 0 + _ ≤ 8; omega) (zlen hd ha3) ⟨hrc, hrs⟩) kk
      · rcases List.mem_append.mp hw with hw | hw
        · simp only [List.mem_cons, List.mem_nil_iff, or_false] at hw
          rcases hw with rfl | rfl | rfl | rfl
          · exact zgood w1 rfl
          · exact zgood w2 rfl
          · exact zgood w3 rfl
          · exact zgood w4 rfl
        · exact zwsy_in hrm.1.2 w hw
      · have := va_recv (q := (zR (zown a'), zT (zown a'), znf (zown a'))) C.2.2.2.2.2.2.1 hH.2.2.1 (zvw (zown a') ha9) (by rw [zws_get e3 e2, zE_obj e1 ha9])
        rw [hcls]
        exact this
      · refine ⟨?_, by rw [hU]; exact hH.2.1, by rw [hU]; exact hH.2.2.1, va_K.moved hW.alike C.2.2.2.2.2.2.1, fun w hw hg => zwarm hw hg hW (C.2.2.2.2.2.2.2.2.2.1 w hw hg)⟩
        simp only [List.map_cons, zcv_o e3 e4]
    · cases h
  · next idx len a' n hi =>
    obtain ⟨hd, ha⟩ := zchk_spec (zck y C.2.2.2.2.2.2.2.2.2.2.1) hi
    obtain ⟨hb, h⟩ := zbif h
    simp only [Prod.mk.injEq] at h
    obtain ⟨rfl, rfl, rfl⟩ := h
    simp only [Bool.and_eq_true] at hb
    obtain ⟨⟨⟨hlt, hr8⟩, hlen⟩, hml⟩ := hb
    have hlt : a' < 1000 := by simpa using hlt
    have hr8 := Nat.le_of_ble_eq_true hr8
    have hlen := Nat.eq_of_beq_eq_true hlen
    have hml := Nat.le_of_ble_eq_true hml
    have n1 : Nat.beq a' 1000 = false := zbeq_f (by omega)
    have n2 : Nat.beq a' 1001 = false := zbeq_f (by omega)
    simp only [zaux, n1, n2, cond_false, Bool.and_eq_true] at ha
    obtain ⟨ha3, hrm, hany⟩ := ha
    simp only [zrm, Bool.and_eq_true, decide_eq_true_eq] at hrm
    obtain ⟨w1, w2, w4, w5⟩ := zsl_spec hany
    have hst : st = st.take n ++ st.drop n := (List.take_append_drop n st).symm
    have hsm : st.map (zcv base b) = ((st.take n).reverse.map (zcv base b)).reverse ++ (st.drop n).map (zcv base b) := by
      conv => lhs; rw [hst]
      rw [List.map_append, List.map_reverse, List.reverse_reverse]
    have hSr : ∀ v ∈ st.drop n, zvr v := fun v hv => hS v (List.mem_of_mem_drop hv)
    have hSA : ∀ v ∈ (st.take n).reverse, zvr v := fun v hv => hS v (List.mem_of_mem_take (List.mem_reverse.mp hv))
    have hM := zmet (cA := cA) (D := D) (base := base) (b := b) (Lx := Lx) (xs := xs) hX hrm.1.2 hrm.2 (by simpa [zcats, List.sum_reverse] using hml) hSA hH.1 hH.2.2.2.1 hH.2.2.2.2.1 hLx
    refine zback (qa := ((st.take n).reverse.map (zcv base b)).toArray) C hH hL hSr hl hX.1 hH.1 (va_runS (As := (st.take n).reverse.map (zcv base b)) ⟨C.1, C.2.1, C.2.2.1, C.2.2.2.1, C.2.2.2.2.1⟩ hM ⟨callB_of n C.2.2.2.2.1 (zGI (zwsy_in hrm.1.2)) rfl rfl rfl (C.2.2.2.2.1 _ (zgood w4 rfl)) (C.2.2.2.2.1 _ (zgood w1 rfl)) w5 ⟨Nat.le_trans hrm.1.1.1 C.2.2.2.2.2.2.2.1, Nat.le_trans hrm.1.1.2 C.2.2.2.2.2.2.2.2.1⟩, C.2.2.2.2.1 _ (zgood w2 rfl)⟩ ⟨zblind, fun U hU hW => ⟨rfl, by rw [hU]; exact hH.2.1, by rw [hU]; exact hH.2.2.1, va_K.moved hW.alike C.2.2.2.2.2.2.1, fun w hw hg => zwarm hw hg hW (C.2.2.2.2.2.2.2.2.2.1 w hw hg)⟩⟩ rfl (by simpa using hlen) hl.1 hsm (by rw [zcats_map]; show 2 * 0 + _ ≤ 8; omega) (zlen hd ha3) ⟨hrc, hrs⟩) kk
  · next idx len a' n hi =>
    obtain ⟨hd, ha⟩ := zchk_spec (zck y C.2.2.2.2.2.2.2.2.2.2.1) hi
    split at h
    · next q r hdrop =>
      obtain ⟨hb, h⟩ := zbif h
      simp only [Prod.mk.injEq] at h
      obtain ⟨rfl, rfl, rfl⟩ := h
      simp only [Bool.and_eq_true] at hb
      obtain ⟨⟨⟨⟨hlt, hob⟩, hr8⟩, hlen⟩, hml⟩ := hb
      have hlt : a' < 1000 := by simpa using hlt
      have hr8 := Nat.le_of_ble_eq_true hr8
      have hlen := Nat.eq_of_beq_eq_true hlen
      have hml := Nat.le_of_ble_eq_true hml
      have n1 : Nat.beq a' 1002 = false := zbeq_f (by omega)
      simp only [zaux, n1, cond_false, Bool.and_eq_true, decide_eq_true_eq, Bool.or_eq_true] at ha
      obtain ⟨ha3, ⟨ha9, hrm⟩, hany⟩ := ha
      simp only [zrm, Bool.and_eq_true, decide_eq_true_eq] at hrm
      obtain ⟨e1, e2, e3, e4⟩ := zob_spec hob (by omega)
      have hst : st = st.take n ++ vr q :: r := by rw [← hdrop]; exact (List.take_append_drop n st).symm
      have hsm : st.map (zcv base b) = ((st.take n).reverse.map (zcv base b)).reverse ++ Value.ref (base + (q - 1)) :: r.map (zcv base b) := by
        conv => lhs; rw [hst]
        rw [List.map_append, List.map_cons, zcv_o e3 e4, List.map_reverse, List.reverse_reverse]
      have hSr : ∀ v ∈ r, zvr v := fun v hv => hS v (by rw [hst]; exact List.mem_append_right _ (List.mem_cons_of_mem _ hv))
      have hSA : ∀ v ∈ vr q :: (st.take n).reverse, zvr v := zcons trivial (fun v hv => hS v (List.mem_of_mem_take (List.mem_reverse.mp hv)))
      have hM := zmet (cA := cA) (D := D) (base := base) (b := b) (Lx := Lx) (xs := xs) hX hrm.1.2 hrm.2 (by simpa [zcats, List.sum_reverse, zcat] using hml) hSA hH.1 hH.2.2.2.1 hH.2.2.2.2.1 hLx
      have hpre : ∀ U : State, U.heap = H → s.WarmedH U.vm → zPc cA D base b (vr q :: (st.take n).reverse) σ (Value.ref (base + (q - 1)) :: (st.take n).reverse.map (zcv base b)).toArray U := by
        intro U hU hW
        refine ⟨?_, by rw [hU]; exact hH.2.1, by rw [hU]; exact hH.2.2.1, va_K.moved hW.alike C.2.2.2.2.2.2.1, fun w hw hg => zwarm hw hg hW (C.2.2.2.2.2.2.2.2.2.1 w hw hg)⟩
        simp only [List.map_cons, zcv_o e3 e4]
      rcases hany with hany | hany
      · obtain ⟨w1, w2, w4, w6, w7, w5⟩ := zil_spec hany
        rw [show zwsy a' = Cond.code (zname a') (zb a') (zml a') none :: lw_good by rw [zwsy, w7]] at hM
        refine zback (qa := (Value.ref (base + (q - 1)) :: (st.take n).reverse.map (zcv base b)).toArray) C hH hL hSr hl hX.1 hH.1 (va_runI (b := base + (q - 1)) (As := (st.take n).reverse.map (zcv base b)) ⟨C.1, C.2.1, C.2.2.1, C.2.2.2.1, C.2.2.2.2.1⟩ hM (cwI n C.2.2.2.2.1 (zGI (by rw [← w7]; exact zwsy_in hrm.1.2)) rfl rfl rfl (C.2.2.2.2.1 _ (zgood w4 rfl)) (C.2.2.2.2.1 _ (zgood w1 rfl)) (C.2.2.2.2.1 _ (zgood w2 rfl)) w6 w5 ⟨Nat.le_trans hrm.1.1.1 C.2.2.2.2.2.2.2.1, Nat.le_trans hrm.1.1.2 C.2.2.2.2.2.2.2.2.1⟩) ⟨zblind, hpre⟩ rfl (by simpa using hlen) hl.1 hsm (by rw [zcats_map]; show 2 * 0 + _ ≤ 8; omega) (zlen hd ha3) ⟨hrc, hrs⟩) kk
      · obtain ⟨w1, w2, w4, w6, w7, w5⟩ := znl_spec hany
        rw [show zwsy a' = Cond.code (zname a') (zb a') (zml a') none :: lw_good by rw [zwsy, w7]] at hM
        refine zback (qa := (Value.ref (base + (q - 1)) :: (st.take n).reverse.map (zcv base b)).toArray) C hH hL hSr hl hX.1 hH.1 (va_runIN (b := base + (q - 1)) (As := (st.take n).reverse.map (zcv base b)) ⟨C.1, C.2.1, C.2.2.1, C.2.2.2.1, C.2.2.2.2.1⟩ hM ⟨va_cnB n C.2.2.2.2.1 (zGI (by rw [← w7]; exact zwsy_in hrm.1.2)) rfl rfl rfl (C.2.2.2.2.2.2.2.2.2.1 _ w1 rfl) (C.2.2.2.2.1 _ (zgood w4 rfl)) w5 ⟨Nat.le_trans hrm.1.1.1 C.2.2.2.2.2.2.2.1, Nat.le_trans hrm.1.1.2 C.2.2.2.2.2.2.2.2.1⟩, w6, C.2.2.2.2.1 _ (zgood w2 rfl)⟩ ⟨zblind, hpre⟩ rfl (by simpa using hlen) hl.1 hsm (by rw [zcats_map]; show 2 * 0 + _ ≤ 8; omega) (zlen hd ha3) ⟨hrc, hrs⟩) kk
    · cases h
  · cases h
theorem zbr_r {y pc t f : Nat} {st st1 : List zV} {P : Prop} (h : zbr y pc st = some (P, t, f, st1)) (hS : ∀ v ∈ st, zvr v) : ∀ v ∈ st1, zvr v := by
  unfold zbr at h
  repeat' split at h
  all_goals first
    | (cases h; done)
    | (cases h; exact zct (zct hS))
    | (cases h; exact zct hS)
theorem zarrV_congr {c : ClassId} {n : Nat} {f g : Nat → Value} (h : ∀ j, j < n → f j = g j) : arrV c n f = arrV c n g := by
  unfold arrV
  congr 1
  apply congrArg
  funext j
  exact h j.val j.isLt
theorem zat_congr {cA : Nat → ClassId} {D : va_G} {base b q r : Nat} {σ τ : zS} {H : Heap} (h : ∀ j : Nat, j < (zsh r).2 → τ.1 r j = σ.1 r j ∧ τ.2.1 r j = σ.2.1 r j ∧ τ.2.2.1 r j = σ.2.2.1 r j) (hA : va_at D vwCl (q, zE cA base b σ r) H) : va_at D vwCl (q, zE cA base b τ r) H := by
  by_cases h9 : (zsh r).1 < 9
  · have e : zE cA base b τ r = zE cA base b σ r := by
      rw [zE_obj rfl h9, zE_obj rfl h9]
      congr 2
      apply List.map_congr_left
      intro j hj
      have hj := List.mem_range.mp hj
      obtain ⟨a1, a2, -⟩ := h j (by rw [zshn r h9]; exact hj)
      simp only [zfv, a1, a2]
    rw [e]; exact hA
  · by_cases h13 : (zsh r).1 = 13
    · rw [zE_dbl h13] at hA ⊢
      refine Eq.trans hA (congrArg some ?_)
      exact zarrV_congr (c := cA 13) (f := fun j => .double (σ.2.2.1 r j)) (g := fun j => .double (τ.2.2.1 r j)) (fun j hj => by rw [(h j hj).2.2])
    · by_cases h14 : (zsh r).1 = 14
      · rw [zE_ref h14] at hA ⊢
        refine Eq.trans hA (congrArg some ?_)
        exact zarrV_congr (c := cA 14) (f := fun j => va_rf (zrf base b (σ.2.1 r j))) (g := fun j => va_rf (zrf base b (τ.2.1 r j))) (fun j hj => by rw [(h j hj).2.1])
      · rw [zE_int rfl h9 h13 h14] at hA ⊢
        refine Eq.trans hA (congrArg some ?_)
        exact zarrV_congr (c := cA (zsh r).1) (f := fun j => .int (Int32.ofInt (σ.1 r j))) (g := fun j => .int (Int32.ofInt (τ.1 r j))) (fun j hj => by rw [(h j hj).1])
/-- soundness -/
theorem zSnd_cl (l : Launch) : zCl (zSnd l) := by
  refine ⟨?_, ?_, ?_, ?_, ?_, ?_⟩
  · intro y pc L st σ g pc1 L1 st1 σ1 r τ h hg hX
    have hm := zst_mono h
    refine ⟨Nat.le_trans hm hX.1, ?_⟩
    intro p e R s m args below meth c cA D base b Lx xs H locs cells slots Q ls C hH hL hS hl hrc hrs K
    have z1 := zsz_mono hm
    have z2 := zsz_mono hX.1
    have h2 := hX.1
    refine zst_sound C hH hL hS hl h hg (by omega) (by omega) ?_
    intro ls1 H1 locs1 hH1 hL1 hS1 hl1
    refine hX.2 p e R s m args below meth c cA D base b Lx xs H1 locs1 _ _ Q ls1 C hH1 hL1 hS1 hl1 (by rw [zadd3 hm h2]; exact hrc) (by rw [zadd3 z1 z2]; exact hrs) ?_
    rw [zadd3 hm h2, zadd3 z1 z2]
    exact K
  · intro y pc L st σ P t f st1 r τ h ht hf
    by_cases hP : P
    · refine ⟨(ht hP).1, ?_⟩
      intro p e R s m args below meth c cA D base b Lx xs H locs cells slots Q ls C hH hL hS hl hrc hrs K
      exact zbr_sound C hH hL hS hl h (fun _ => (ht hP).2 p e R s m args below meth c cA D base b Lx xs H locs cells slots Q ls C hH hL (zbr_r h hS) hl hrc hrs K) (fun q => absurd hP q)
    · refine ⟨(hf hP).1, ?_⟩
      intro p e R s m args below meth c cA D base b Lx xs H locs cells slots Q ls C hH hL hS hl hrc hrs K
      exact zbr_sound C hH hL hS hl h (fun q => absurd q hP) (fun _ => (hf hP).2 p e R s m args below meth c cA D base b Lx xs H locs cells slots Q ls C hH hL (zbr_r h hS) hl hrc hrs K)
  · intro y pc L st σ a As rest v σ1 r τ h hX hY
    refine ⟨Nat.le_trans hX.1 hY.1, ?_⟩
    intro p e R s m args below meth c cA D base b Lx xs H locs cells slots Q ls C hH hL hS hl hrc hrs K
    have z1 := zsz_mono hX.1
    have z2 := zsz_mono hY.1
    have hm := hX.1
    have h2 := hY.1
    refine zcl_sound C hH hL hS hl h hX (by omega) (by omega) ?_
    intro H1 locs1 hH1 hS1
    refine hY.2 p e R s m args below meth c cA D base b Lx xs H1 locs1 _ _ Q ls C hH1 hL hS1 hl (by rw [zadd3 hm h2]; exact hrc) (by rw [zadd3 z1 z2]; exact hrs) ?_
    rw [zadd3 hm h2, zadd3 z1 z2]
    exact K
  · intro y pc L st σ r h
    refine ⟨Nat.le_refl _, ?_⟩
    intro p e R s m args below meth c cA D base b Lx xs H locs cells slots Q ls C hH hL hS hl hrc hrs K
    have k := K pc st ls H locs h hS (by simpa only [Nat.sub_self, Nat.add_zero] using hH)
    simpa only [Nat.sub_self, Nat.add_zero] using k
  · intro y pc L L1 st σ r τ hsub hX
    refine ⟨hX.1, ?_⟩
    intro p e R s m args below meth c cA D base b Lx xs H locs cells slots Q ls C hH hL hS hl hrc hrs K
    refine hX.2 p e R s m args below meth c cA D base b Lx xs H locs cells slots Q ls C hH (fun q hq => hL q (hsub q hq)) hS ⟨hl.1, hl.2.1, fun q hq => ?_⟩ hrc hrs K
    obtain ⟨z, hz, rfl⟩ := List.mem_map.mp hq
    exact hl.2.2 _ (List.mem_map.mpr ⟨z, hsub z hz, rfl⟩)
  · intro y pc L st σ σ1 r τ he hX
    obtain ⟨e1, e3, e4⟩ := he
    refine ⟨by rw [e1]; exact hX.1, ?_⟩
    intro p e R s m args below meth c cA D base b Lx xs H locs cells slots Q ls C hH hL hS hl hrc hrs K
    rw [e1] at hrc hrs K
    refine hX.2 p e R s m args below meth c cA D base b Lx xs H locs cells slots Q ls C ?_ hL hS hl hrc hrs K
    obtain ⟨h2, h3, h4, h5, h6, h7, h8⟩ := hH
    refine ⟨by rw [← e1]; exact h2, by rw [← e1]; exact h3, ?_, fun r hr j hj => by rw [(e4 r (by rw [e1]; exact hr) j hj).1]; exact h5 r (by rw [e1]; exact hr) j hj, ⟨by rw [e3]; exact h6.1, fun j hj => by rw [e3]; exact h6.2 j hj⟩, h7, by rw [← e1]; exact h8⟩
    intro k q hq
    obtain ⟨hk, rfl⟩ := zws_at hq
    have h9 := h4 k _ (show (zws cA base b σ)[k]? = some (base + k, zE cA base b σ (k + 1)) from zws_get (cA := cA) (base := base) (b := b) (σ := σ) (r := k + 1) (by omega) (by omega))
    exact zat_congr (fun j hj => e4 (k + 1) (by omega) j hj) h9
end
section
-- ===== end of PART A; then your names; then what follows =====
/-! THE CLAIM OUT OF ONE WALK OF THE LAW'S BODY. Your part is whole_start (and what it stands on); all else here is the same for every law, but numbers. -/
def R_law : String := "BumpsChartLaw"
def lw_P (b : Addr) (xs : List Int32) (args : Array Value) (s : State) : Prop := args = #[.ref b] ∧ s.IntsAt b xs ∧ xs.length ≤ 2048 ∧ (Jvm.Cond.and given_1 narrow_1).before args s = true
/-- what a walk over the start with the record d0 says of its end, said of the start itself -/
theorem lw_closed {s t : State} {o : Outcome} {d0 : Drawn} {L : List Loc} {k n : Nat} (hd0 : s.drawn.sameBut d0 lw_cs) (hv : ∃ v, o = .returned v) (hW : (s.setDrawn d0).WarmedH t.vm) (hs : (s.setDrawn d0).sameButNew ({ t with vm := s.vm } : State) L k n) : State.butDraws s t lw_cs (fun t1 => Framed s o t1 L k n) := by
  have h2 : t.drawn = d0 := congrArg State.drawn hs.1
  refine ⟨⟨hv, hW, State.sameButNew.setDrawn hs s.drawn⟩, ?_, by decide⟩
  rw [h2]
  exact hd0
def lw_Q (_ : Array Value) (s : State) (o : Outcome) (t : State) : Prop := o = .returned (some (.int 1)) ∧ State.butDraws s t lw_cs (fun t1 => Framed s o t1 [] 600000 7302250)
def lw_Z (below : List Frame) (a : Array Value) (s : State) : State → Prop := fun t => ∃ o, t.status = .running ∧ Ended t below o ∧ lw_Q a s o t
/-- the law's own end, with 1 on the stack, nothing written that was there before, its room as the claim has it; d0: the record of draws at this point (at the entry s.drawn: begin with 'refine W.base ?_' and 'have hd0 := Drawn.sameBut.refl s.drawn lw_cs') -/
theorem lw_ret {p : Program} {l : Launch} {e : Env} {s : State} {m : MethodId} {below : List Frame} {meth : Method} {c : Code} {b : Nat} {d0 : Drawn} (hd0 : s.drawn.sameBut d0 lw_cs) (hx : p.tables.exec = Jvm.exec) (hb : c.code = code) (hr : meth.sig.returnType = ret) (hlocks : meth.locks = false) {pc : Nat} {H : Heap} {ls : Array Slot} (hdg : decode code pc = .ok (.ireturn, 1)) : W p l e room_1 (s.setDrawn d0) m #[Value.ref b] below meth c H [] 600000 7302250 (lw_Z below #[Value.ref b] s) (F0 m pc ls [.int 1]) := by
  intro T hT X
  obtain ⟨fs, hret, hrun, hended, hW, hframe⟩ := X.leave (v := some (.int 1)) (hlocks := hlocks) (fun h => by rw [hr] at h; cases h)
  have hmeth' : T.vm.method? m = some meth := X.method'
  refine ⟨T.setFrames fs, ?_, .returned (some (.int 1)), hrun, hended, rfl, lw_closed hd0 ⟨_, rfl⟩ hW hframe⟩
  jvm_step X.here [X.here.top, hx, hb, hdg, hmeth', hr, ret, narrow_b1]
  (try refine ⟨rfl, ?_⟩); (try refine ⟨rfl, ?_⟩)
  first | (intro acts; rw [hret _ acts rfl rfl rfl]) | rw [hret _ _ rfl rfl rfl]
  exact Steps.refl _
/-- what holds at the law's entry: the machine, the code, the tables' words (any of lw_tbl by 'hts w (by decide +kernel)'), the script of L ints xs at the cell b, what the Statement gives of the start (any of its parts by flat_of_before) -/
def lw_At (p : Program) (s : State) (m : MethodId) (meth : Method) (c : Code) (b L : Nat) (xs : Nat → Int32) : Prop :=
  p.tables.exec = Jvm.exec ∧ c.code = code ∧ meth.sig.returnType = ret ∧ c.maxLocals = 4 ∧ s.vm.findClass R_law = some m.cls ∧ (∀ w ∈ lw_tbl, w.before #[Value.ref b] s = true) ∧ va_X b L xs s s.heap ∧ b < s.heap.size ∧ meth.locks = false ∧ (Jvm.Cond.and given_1 narrow_1).before #[Value.ref b] s = true

/-- the state at the law's entry: the script alone -/
def zσ0 (L : Nat) (xs : Nat → Int32) : zS := (fun r j => if r = 1000 then (if j < 0 then (L : Int) else (xs j.toNat).toInt) else 0, fun _ _ => 0, fun _ _ => 0, 1)
set_option maxHeartbeats 4000000 in
theorem zstart {p : Program} {e : Env} {s : State} {m : MethodId} {below : List Frame} {meth : Method} {c : Code} (l : Launch) {b L : Nat} {xs : Nat → Int32} (hL : L ≤ 2048) (C0 : lw_At p s m meth c b L xs) {τ : zS} (hrun : zMet zlaw [vr 1000] (zσ0 L xs) (some (vi 1)) τ) (hc : τ.2.2.2 ≤ 1000) (hz : zsz τ.2.2.2 ≤ 100000) : W p l e room_1 s m #[Value.ref b] below meth c s.heap [] 0 0 (lw_Z below #[Value.ref b] s) (entryFrame m ([Value.ref b] : List Value).toArray 4) := by
  obtain ⟨hx, hb, hr, hml, hown, hts, hX, hbl, hlocks, hgv⟩ := id C0
  have hK0 : ∀ ci, ci < 9 → ∃ (cC : ClassId) (iS : Nat → Nat), u_Kn s (zR ci) (zT ci) (znf ci) cC iS := by
    intro ci hci
    have hi : Cond.instantiable (zR ci) (znf ci) ∈ lw_tbl := by
      have h0 : (List.range 9).all (fun ci => decide (Cond.instantiable (zR ci) (znf ci) ∈ lw_tbl)) = true := by decide +kernel
      exact of_decide_eq_true (List.all_eq_true.mp h0 ci (List.mem_range.mpr hci))
    exact u_known hts (zlay ci hci) (hts _ hi)
  obtain ⟨D, hD⟩ : ∃ D : va_G, ∀ ci, ci < 9 → u_Kn s (zR ci) (zT ci) (znf ci) (D.1 ci) (D.2 ci) := by
    refine ⟨(fun ci => if h : ci < 9 then Classical.choose (hK0 ci h) else 0, fun ci => if h : ci < 9 then Classical.choose (Classical.choose_spec (hK0 ci h)) else fun _ => 0), ?_⟩
    intro ci hci
    simp only [dif_pos hci]
    exact Classical.choose_spec (Classical.choose_spec (hK0 ci hci))
  have hA : ∀ {i : Nat} {ty : FieldType}, lw_tbl[i]? = some (.arrayClass ty) → (∀ C0, ty ≠ .object C0) → ∃ cA, ArrOfT s cA ty ∧ va_RA s cA ty := by
    intro i ty hi hne
    obtain ⟨cA, kA, comp, h1, h2, h3⟩ := Cond.arrayClass_spec (hts _ (List.mem_of_getElem? hi))
    refine ⟨cA, fun n z => ⟨fun k h => (by cases h), kA, h2, comp, h3⟩, ?_⟩
    cases ty <;> first | exact h1 | exact absurd rfl (hne _)
  obtain ⟨a10, h10⟩ := hA zs_arrInt (fun _ h => by cases h)
  obtain ⟨a11, h11⟩ := hA zs_arrChar (fun _ h => by cases h)
  obtain ⟨a12, h12⟩ := hA zs_arrBool (fun _ h => by cases h)
  obtain ⟨a13, h13⟩ := hA zs_arrDouble (fun _ h => by cases h)
  obtain ⟨a14, h14⟩ : ∃ cA, ArrOfT s cA (.object RX1) ∧ va_RA s cA (.object RX1) := by
    obtain ⟨comp, cA, kA, h1, h2, h3, h4, h5⟩ := Cond.arrayOver_spec (hts _ (List.mem_of_getElem? zs_over))
    exact ⟨cA, fun n z => ⟨fun k h => (by cases h), kA, h3, comp, h4⟩, kA, comp, h3, h4, h1, h5⟩
  obtain ⟨cA, e10, e11, e12, e13, e14⟩ : ∃ cA : Nat → ClassId, cA 10 = a10 ∧ cA 11 = a11 ∧ cA 12 = a12 ∧ cA 13 = a13 ∧ cA 14 = a14 := ⟨fun k => if k = 10 then a10 else if k = 11 then a11 else if k = 12 then a12 else if k = 13 then a13 else a14, rfl, rfl, rfl, rfl, rfl⟩
  subst e10; subst e11; subst e12; subst e13; subst e14
  have hK : va_K D vwCl (ztys cA) s := by
    refine ⟨fun k q hq => ?_, fun k q hq => ?_⟩
    · have hk : k < 9 := (List.getElem?_eq_some_iff.mp hq).1
      rw [zvw k hk] at hq
      cases hq
      exact hD k hk
    · match k, hq with
      | 0, hq => cases hq; exact h10
      | 1, hq => cases hq; exact h11
      | 2, hq => cases hq; exact h12
      | 3, hq => cases hq; exact h13
      | 4, hq => cases hq; exact h14
      | k + 5, hq => simp [ztys] at hq
  have hN : ∀ w ∈ lw_tbl, zisn w = true → va_Nw w s := by
    intro w hw hg
    have h := hts w hw
    cases w <;> first
      | (cases hg; done)
      | exact va_Nw.of rfl h
      | exact h
  have C : zCx p room_1 s m #[Value.ref b] meth c cA D s.heap.size b L xs zlaw :=
    ⟨hx, hb, hml, hown, fun w hw => hts w (List.mem_filter.mp hw).1, fun h => absurd h (by decide), hK, by decide, by decide, hN, by decide, hL, fun _ => ⟨hbl, hX⟩, Nat.le_refl _⟩
  have hH : zH cA D s.heap.size b L xs s (zσ0 L xs) s.heap [] 0 := by
    refine ⟨Nat.le_refl _, rfl, fun k q hq => by simp [zws, zσ0] at hq, ?_, ⟨rfl, ?_⟩, va_S.rf, rfl⟩
    · intro r hr j hj
      have hr0 : r < 1 := hr
      have : r = 0 := by omega
      subst this
      exact absurd hj (by have : (zsh 0).2 = 0 := rfl
                          omega)
    · intro j hj
      show (if (j : Int) < 0 then (L : Int) else (xs ((j : Int)).toNat).toInt) = _
      rw [if_neg (by omega)]
      rfl
  have hl := lv_entry ([.ref b]) (n := 4) (Nat.le_of_ble_eq_true rfl)
  rw [lg_entry_eq]
  generalize (lg_sl ([.ref b]) ++ List.replicate (4 - (lg_sl ([.ref b])).length) Slot.unset).toArray = ls at hl ⊢
  have hS := hrun (zSnd l) (zSnd_cl l)
  refine hS.2 p e room_1 s m #[Value.ref b] below meth c cA D s.heap.size b L xs s.heap [] 0 0 _ ls C hH (fun q hq => ?_) (fun v hv => by cases hv) ?_ ?_ ?_ ?_
  · rcases List.mem_cons.mp hq with rfl | hq
    · trivial
    · cases hq
  · exact hl
  · show 0 + (τ.2.2.2 - 1) ≤ 600000
    omega
  · show 0 + (zsz τ.2.2.2 - zsz 1) ≤ 7302250
    omega
  · intro pcq stq lsq Hq locsq hre hSq hHq
    have hd : stq = [vi 1] ∧ decode code pcq = .ok (.ireturn, 1) := by
      unfold zre at hre
      split at hre
      · next x hi =>
        obtain ⟨len, a, b'⟩ := x
        obtain ⟨hd, ha⟩ := zchk_spec (zck zlaw (by decide)) hi
        have hd := zlen hd ha
        split at hre
        · next x =>
          refine ⟨?_, hd⟩
          have e9 : zrt zlaw = some .boolean := by decide
          rw [e9] at hre
          simp only at hre
          obtain ⟨-, h⟩ := zbif hre
          cases h
          rfl
        · cases hre
      · split at hre
        · split at hre
          · cases hre
          · cases hre
        · cases hre
      · split at hre
        · split at hre
          · cases hre
          · cases hre
        · cases hre
      · split at hre
        · split at hre
          · cases hre
          · cases hre
        · cases hre
      · cases hre
    obtain ⟨rfl, hd⟩ := hd
    refine W.widen (k := 600000) (n := 7302250) (by show 0 + (τ.2.2.2 - 1) ≤ 600000; omega) (by show 0 + (zsz τ.2.2.2 - zsz 1) ≤ 7302250; omega) ?_
    refine W.base ?_
    refine va_forget (fun q hq => hHq.2.2.2.2.2.1.2.2 q hq) ?_
    exact lw_ret (Drawn.sameBut.refl s.drawn lw_cs) hx hb hr hlocks hd
end
section
/-! ===== rows of the pure machine ===== -/
theorem zRuns_cl : zCl zRuns := by
  refine ⟨?_, ?_, ?_, ?_, ?_, ?_⟩
  · intro y pc L st σ g pc1 L1 st1 σ1 r τ h hg k X hX
    exact hX.1 y pc L st σ g pc1 L1 st1 σ1 r τ h hg (k X hX)
  · intro y pc L st σ c t f st1 r τ h k1 k2 X hX
    exact hX.2.1 y pc L st σ c t f st1 r τ h (fun q => k1 q X hX) (fun q => k2 q X hX)
  · intro y pc L st σ a As rest v σ1 r τ h k1 k2 X hX
    exact hX.2.2.1 y pc L st σ a As rest v σ1 r τ h (k1 X hX) (k2 X hX)
  · intro y pc L st σ r h X hX
    exact hX.2.2.2.1 y pc L st σ r h
  · intro y pc L L1 st σ r τ h k X hX
    exact hX.2.2.2.2.1 y pc L L1 st σ r τ h (k X hX)
  · intro y pc L st σ σ1 r τ h k X hX
    exact hX.2.2.2.2.2 y pc L st σ σ1 r τ h (k X hX)
section ZR
variable {y pc : Nat} {L : zL} {st : List zV} {σ τ : zS} {r : Option zV}
theorem z_s {g : Option Prop} {pc1 : Nat} {L1 : zL} {st1 : List zV} {σ1 : zS} (h : zst y pc L st σ = some (g, pc1, L1, st1, σ1)) (hg : ∀ P, g = some P → P) (kk : zRuns y pc1 L1 st1 σ1 r τ) : zRuns y pc L st σ r τ := zRuns_cl.1 y pc L st σ g pc1 L1 st1 σ1 r τ h hg kk
abbrev zQ : Type := Nat × (zL × (List zV × zS))
/-- several steps at once; what must hold on the way -/
def zmul (y : Nat) : Nat → zQ → Option (Prop × zQ)
  | 0, q => some (True, q)
  | k + 1, q => match zst y q.1 q.2.1 q.2.2.1 q.2.2.2 with
    | none => none
    | some (none, q1) => zmul y k q1
    | some (some P, q1) => match zmul y k q1 with
      | none => none
      | some (G, q2) => some (P ∧ G, q2)
theorem zmul_ok : ∀ (k : Nat) (q q2 : zQ) (G : Prop), zmul y k q = some (G, q2) → G → zRuns y q2.1 q2.2.1 q2.2.2.1 q2.2.2.2 r τ → zRuns y q.1 q.2.1 q.2.2.1 q.2.2.2 r τ
  | 0, q, q2, G, h, hG, kk => by
    simp only [zmul, Option.some.injEq, Prod.mk.injEq] at h
    rw [← h.2] at kk
    exact kk
  | k + 1, q, q2, G, h, hG, kk => by
    unfold zmul at h
    split at h
    · cases h
    · next q1 hq => exact z_s hq (fun P hP => by cases hP) (zmul_ok k q1 q2 G h hG kk)
    · next P q1 hq =>
      split at h
      · cases h
      · next G1 q3 h3 =>
        simp only [Option.some.injEq, Prod.mk.injEq] at h
        obtain ⟨rfl, rfl⟩ := h
        exact z_s hq (fun P' hP => by cases hP; exact hG.1) (zmul_ok k q1 q3 G1 h3 hG.2 kk)
/-- k steps, to the frame q -/
theorem z_n (k : Nat) (q : zQ) {G : Prop} (h : zmul y k (pc, L, st, σ) = some (G, q)) (hG : G) (kk : zRuns y q.1 q.2.1 q.2.2.1 q.2.2.2 r τ) : zRuns y pc L st σ r τ := zmul_ok k (pc, L, st, σ) q G h hG kk
theorem z_br (c : Prop) (t f : Nat) (st1 : List zV) (h : zbr y pc st = some (c, t, f, st1)) (kt : c → zRuns y t L st1 σ r τ) (kf : ¬ c → zRuns y f L st1 σ r τ) : zRuns y pc L st σ r τ := zRuns_cl.2.1 y pc L st σ c t f st1 r τ h kt kf
theorem z_ci (a : Nat) (As rest : List zV) {v : zV} {σ1 : zS} (h : zcl y pc st σ = some (a, As, rest)) (hm : zMet a As σ (some v) σ1) (kk : zRuns y (pc + 3) L (v :: rest) σ1 r τ) : zRuns y pc L st σ r τ := zRuns_cl.2.2.1 y pc L st σ a As rest (some v) σ1 r τ h hm kk
theorem z_cv (a : Nat) (As rest : List zV) {σ1 : zS} (h : zcl y pc st σ = some (a, As, rest)) (hm : zMet a As σ none σ1) (kk : zRuns y (pc + 3) L rest σ1 r τ) : zRuns y pc L st σ r τ := zRuns_cl.2.2.1 y pc L st σ a As rest none σ1 r τ h hm kk
theorem z_ret {r' : Option zV} (h : zre y pc st = some r') (h1 : r' = r) (h2 : σ = τ) : zRuns y pc L st σ r τ := by
  subst h1; subst h2
  exact zRuns_cl.2.2.2.1 y pc L st σ r' h
theorem zpk {L1 : zL} (ks : List Nat) (h : ks.filterMap (fun k => L[k]?) = L1) : ∀ q ∈ L1, q ∈ L := by
  intro q hq
  rw [← h] at hq
  obtain ⟨k, -, hk⟩ := List.mem_filterMap.mp hq
  exact List.mem_of_getElem? hk
theorem z_sub (L1 : zL) (ks : List Nat) (h : ks.filterMap (fun k => L[k]?) = L1) (kk : zRuns y pc L1 st σ r τ) : zRuns y pc L st σ r τ := zRuns_cl.2.2.2.2.1 y pc L L1 st σ r τ (zpk ks h) kk
theorem z_eqs {σ1 : zS} (h : zeq σ σ1) (kk : zRuns y pc L st σ1 r τ) : zRuns y pc L st σ r τ := zRuns_cl.2.2.2.2.2 y pc L st σ σ1 r τ h kk
/-- the same state, written otherwise -/
theorem z_st {σ1 : zS} (h : σ = σ1) (kk : zRuns y pc L st σ1 r τ) : zRuns y pc L st σ r τ := by subst h; exact kk
theorem z_sk {st1 : List zV} (h : st = st1) (kk : zRuns y pc L st1 σ r τ) : zRuns y pc L st σ r τ := by subst h; exact kk
theorem z_lk {L1 : zL} (h : L = L1) (kk : zRuns y pc L1 st σ r τ) : zRuns y pc L st σ r τ := by subst h; exact kk
theorem zv1 {a b : Int} (h : a = b) : (some (vi a) : Option zV) = some (vi b) := by rw [h]
/-! objects whose number is a variable -/
theorem z_getr {k a b q w : Nat} (hi : zi y pc = some (.getfield k, 3, a, b)) (ho : zob q a σ.2.2.2 = true) (hf : zfr a b = true) (hw : σ.2.1 q b = w) (kk : zRuns y (pc + 3) L (vr w :: st) σ r τ) : zRuns y pc L (vr q :: st) σ r τ := by
  refine z_s (g := none) (σ1 := σ) (L1 := L) (pc1 := pc + 3) (st1 := vr w :: st) ?_ (fun P hP => by cases hP) kk
  simp only [zst, hi, zx, ho, hf, cond_true, hw]
theorem z_geti {k a b q : Nat} {w : Int} (hi : zi y pc = some (.getfield k, 3, a, b)) (ho : zob q a σ.2.2.2 = true) (hf : zfr a b = false) (hw : σ.1 q b = w) (kk : zRuns y (pc + 3) L (vi w :: st) σ r τ) : zRuns y pc L (vr q :: st) σ r τ := by
  refine z_s (g := none) (σ1 := σ) (L1 := L) (pc1 := pc + 3) (st1 := vi w :: st) ?_ (fun P hP => by cases hP) kk
  simp only [zst, hi, zx, ho, hf, cond_true, cond_false, hw]
theorem z_len {a b q n : Nat} (hy : Nat.beq y zlaw = false) (hi : zi y pc = some (.arraylength, 1, a, b)) (ho : zob q 10 σ.2.2.2 = true) (hn : (zsh q).2 = n) (kk : zRuns y (pc + 1) L (vi (n : Nat) :: st) σ r τ) : zRuns y pc L (vr q :: st) σ r τ := by
  refine z_s (g := none) (σ1 := σ) (L1 := L) (pc1 := pc + 1) (st1 := vi (n : Nat) :: st) ?_ (fun P hP => by cases hP) kk
  obtain ⟨e1, e2, -, -⟩ := zob_spec ho (by decide)
  have e3 : Nat.blt q σ.2.2.2 = true := by simpa using e2
  have h1 : Nat.ble 10 (zsh q).1 = true := by rw [e1]; rfl
  have h2 : Nat.ble (zsh q).1 14 = true := by rw [e1]; rfl
  simp only [zst, hi, zx, hy, Bool.and_false, cond_false, h1, h2, e3, Bool.and_self, cond_true, hn]
theorem z_ild {a b q n : Nat} {j : Int} (hy : Nat.beq y zlaw = false) (hi : zi y pc = some (.iaload, 1, a, b)) (ho : zob q 10 σ.2.2.2 = true) (hn : (zsh q).2 = n) (h0 : 0 ≤ j) (h1 : j < n) (kk : zRuns y (pc + 1) L (vi (σ.1 q j) :: st) σ r τ) : zRuns y pc L (vi j :: vr q :: st) σ r τ := by
  refine z_s (g := some (0 ≤ j ∧ j < ((zsh q).2 : Nat))) (σ1 := σ) (L1 := L) (pc1 := pc + 1) (st1 := vi (σ.1 q j) :: st) ?_ (fun P hP => by cases hP; rw [hn]; exact ⟨h0, h1⟩) kk
  simp only [zst, hi, zx, hy, Bool.and_false, cond_false, ho, cond_true]
theorem z_ist {a b q n : Nat} {j x : Int} (hi : zi y pc = some (.iastore, 1, a, b)) (ho : zob q 10 σ.2.2.2 = true) (hn : (zsh q).2 = n) (h0 : 0 ≤ j) (h1 : j < n) (kk : zRuns y (pc + 1) L st (zup σ.1 q j x, σ.2) r τ) : zRuns y pc L (vi x :: vi j :: vr q :: st) σ r τ := by
  refine z_s (g := some (0 ≤ j ∧ j < ((zsh q).2 : Nat))) (σ1 := (zup σ.1 q j x, σ.2)) (L1 := L) (pc1 := pc + 1) (st1 := st) ?_ (fun P hP => by cases hP; rw [hn]; exact ⟨h0, h1⟩) kk
  simp only [zst, hi, zx, ho, cond_true]
end ZR
/-- a Cells object with its row of n numbers -/
abbrev zCel (P : zP) (c r n : Nat) : Prop := zob r 0 c = true ∧ zob (r + 1) 10 c = true ∧ (zsh (r + 1)).2 = n ∧ P r 0 = r + 1
theorem m_get {I : zI} {P : zP} {D : zD} {c r n : Nat} (h : zCel P c r n) {i : Int} (h0 : 0 ≤ i) (h1 : i < n) : zMet 1 [vr r, vi i] (I, P, D, c) (some (vi (I (r + 1) i))) (I, P, D, c) := by
  obtain ⟨a1, a2, a3, a4⟩ := h
  refine z_n 1 (1, [(0, vr r), (1, vi i)], [vi i], (I, P, D, c)) rfl trivial ?_
  refine z_br (i < 0) 22 4 [] rfl (fun h => absurd h0 (by omega)) (fun _ => ?_)
  refine z_n 2 (6, [(0, vr r), (1, vi i)], [vr r, vi i], (I, P, D, c)) rfl trivial ?_
  refine z_getr rfl a1 rfl a4 ?_
  refine z_len rfl rfl a2 a3 ?_
  refine z_br ((n : Int) ≤ i) 22 13 [] rfl (fun h => absurd h1 (by omega)) (fun _ => ?_)
  refine z_n 1 (14, [(0, vr r), (1, vi i)], [vr r], (I, P, D, c)) rfl trivial ?_
  refine z_getr rfl a1 rfl a4 ?_
  refine z_n 1 (18, [(0, vr r), (1, vi i)], [vi i, vr (r + 1)], (I, P, D, c)) rfl trivial ?_
  refine z_ild rfl rfl a2 a3 h0 h1 ?_
  refine z_n 1 (23, [(0, vr r), (1, vi i)], [vi (I (r + 1) i)], (I, P, D, c)) rfl trivial ?_
  exact z_ret rfl rfl rfl
theorem m_get0 {I : zI} {P : zP} {D : zD} {c r n : Nat} (h : zCel P c r n) {i : Int} (h1 : i < 0 ∨ n ≤ i) : zMet 1 [vr r, vi i] (I, P, D, c) (some (vi 0)) (I, P, D, c) := by
  obtain ⟨a1, a2, a3, a4⟩ := h
  refine z_n 1 (1, [(0, vr r), (1, vi i)], [vi i], (I, P, D, c)) rfl trivial ?_
  refine z_br (i < 0) 22 4 [] rfl (fun h => ?_) (fun _ => ?_)
  · exact z_n 1 (23, [(0, vr r), (1, vi i)], [vi 0], (I, P, D, c)) rfl trivial (z_ret rfl rfl rfl)
  refine z_n 2 (6, [(0, vr r), (1, vi i)], [vr r, vi i], (I, P, D, c)) rfl trivial ?_
  refine z_getr rfl a1 rfl a4 ?_
  refine z_len rfl rfl a2 a3 ?_
  refine z_br ((n : Int) ≤ i) 22 13 [] rfl (fun _ => ?_) (fun h => absurd h (by omega))
  exact z_n 1 (23, [(0, vr r), (1, vi i)], [vi 0], (I, P, D, c)) rfl trivial (z_ret rfl rfl rfl)
theorem m_put {I : zI} {P : zP} {D : zD} {c r n : Nat} (h : zCel P c r n) {i x : Int} (h0 : 0 ≤ i) (h1 : i < n) : zMet 2 [vr r, vi i, vi x] (I, P, D, c) none (zup I (r + 1) i x, P, D, c) := by
  obtain ⟨a1, a2, a3, a4⟩ := h
  refine z_n 1 (1, [(0, vr r), (1, vi i), (2, vi x)], [vi i], (I, P, D, c)) rfl trivial ?_
  refine z_br (i < 0) 20 4 [] rfl (fun h => absurd h0 (by omega)) (fun _ => ?_)
  refine z_n 2 (6, [(0, vr r), (1, vi i), (2, vi x)], [vr r, vi i], (I, P, D, c)) rfl trivial ?_
  refine z_getr rfl a1 rfl a4 ?_
  refine z_len rfl rfl a2 a3 ?_
  refine z_br ((n : Int) ≤ i) 20 13 [] rfl (fun h => absurd h1 (by omega)) (fun _ => ?_)
  refine z_n 1 (14, [(0, vr r), (1, vi i), (2, vi x)], [vr r], (I, P, D, c)) rfl trivial ?_
  refine z_getr rfl a1 rfl a4 ?_
  refine z_n 2 (19, [(0, vr r), (1, vi i), (2, vi x)], [vi x, vi i, vr (r + 1)], (I, P, D, c)) rfl trivial ?_
  refine z_ist rfl a2 a3 h0 h1 ?_
  exact z_ret rfl rfl rfl
theorem m_min {σ : zS} {a b : Int} : zMet 142 [vi a, vi b] σ (some (vi (if a ≤ b then a else b))) σ := by
  refine z_n 2 (2, [(0, vi a), (1, vi b)], [vi b, vi a], σ) rfl trivial ?_
  refine z_br (b < a) 9 5 [] rfl (fun h => ?_) (fun h => ?_)
  · exact z_n 1 (10, [(0, vi a), (1, vi b)], [vi b], σ) rfl trivial (z_ret rfl (zv1 (by omega)) rfl)
  · exact z_n 2 (10, [(0, vi a), (1, vi b)], [vi a], σ) rfl trivial (z_ret rfl (zv1 (by omega)) rfl)
end
section
def zpt : List (List Nat) := [[], [2, 25, 119, 129], [3, 5, 7, 9, 14, 0, 0, 0, 0, 0, 0, 0, 23], [4], [], [6], [], [8], [], [10, 12, 0], [11], [], [13], [], [15, 17, 19, 21, 0], [16], [], [18], [], [20], [], [22], [], [24], [], [26, 0], [], [28, 30, 32, 34, 39, 0, 0, 0, 0, 0, 0, 0, 48], [29], [], [31], [], [33], [], [35, 37, 0], [36], [], [38], [], [40, 42, 44, 46, 0], [41], [], [43], [], [45], [], [47], [], [49], [], [51, 53, 55, 57, 62, 0, 0, 0, 0, 0, 0, 0, 71], [52], [], [54], [], [56], [], [58, 60, 0], [59], [], [61], [], [63, 65, 67, 69, 0], [64], [], [66], [], [68], [], [70], [], [72], [], [74, 76, 78, 80, 85, 0, 0, 0, 0, 0, 0, 0, 94], [75], [], [77], [], [79], [], [81, 83, 0], [82], [], [84], [], [86, 88, 90, 92, 0], [87], [], [89], [], [91], [], [93], [], [95], [], [97, 99, 101, 103, 108, 0, 0, 0, 0, 0, 0, 0, 117], [98], [], [100], [], [102], [], [104, 106, 0], [105], [], [107], [], [109, 111, 113, 115, 0], [110], [], [112], [], [114], [], [116], [], [118], [], [120, 122, 0, 124, 125, 127, 0], [121], [], [123], [], [], [126], [], [128], [], [0, 0, 0, 0, 130, 135, 0, 0, 0], [131, 133, 0], [132], [], [134], [], [136], [], [138, 139, 0, 140, 0, 0, 0, 0, 0, 141, 0, 142, 143, 144, 145, 0, 146], [], [], [], [], [], [], [], [], []]
/-- the references as they stand once everything is made; the past charts' places apart -/
def zPp (π : Int → Nat) : zP := fun r j => bif Nat.beq r 26 then π j else (zpt.getD r []).getD j.toNat 0

/-- how often c stands among the first n -/
def zcnt (f : Int → Int) (c : Int) : Nat → Int
  | 0 => 0
  | n + 1 => zcnt f c n + (if f n = c then 1 else 0)
theorem zcnt_s {f : Int → Int} {c k : Int} (h : 0 ≤ k) : zcnt f c (k + 1).toNat = zcnt f c k.toNat + (if f k = c then 1 else 0) := by
  obtain ⟨j, rfl⟩ : ∃ j : Nat, k = j := ⟨k.toNat, by omega⟩
  rfl
theorem zcnt_b {f : Int → Int} {c : Int} : ∀ n : Nat, 0 ≤ zcnt f c n ∧ zcnt f c n ≤ n
  | 0 => ⟨by simp [zcnt], by simp [zcnt]⟩
  | n + 1 => by
    have := zcnt_b (f := f) (c := c) n
    unfold zcnt
    split <;> omega
/-- days of a rise, of a fall: g the place after each day -/
def zris (g : Int → Int) : Nat → Int
  | 0 => 0
  | n + 1 => zris g n + (if g (n + 1) < g n then 1 else 0)
def zfal (g : Int → Int) : Nat → Int
  | 0 => 0
  | n + 1 => zfal g n + (if g n < g (n + 1) then 1 else 0)
theorem zris_s {g : Int → Int} {k : Int} (h : 0 ≤ k) : zris g (k + 1).toNat = zris g k.toNat + (if g (k + 1) < g k then 1 else 0) := by
  obtain ⟨j, rfl⟩ : ∃ j : Nat, k = j := ⟨k.toNat, by omega⟩
  rfl
theorem zfal_s {g : Int → Int} {k : Int} (h : 0 ≤ k) : zfal g (k + 1).toNat = zfal g k.toNat + (if g k < g (k + 1) then 1 else 0) := by
  obtain ⟨j, rfl⟩ : ∃ j : Nat, k = j := ⟨k.toNat, by omega⟩
  rfl
theorem zris_b {g : Int → Int} : ∀ n : Nat, 0 ≤ zris g n ∧ zris g n ≤ n
  | 0 => ⟨by simp [zris], by simp [zris]⟩
  | n + 1 => by
    have := zris_b (g := g) n
    unfold zris
    split <;> omega
theorem zfal_b {g : Int → Int} : ∀ n : Nat, 0 ≤ zfal g n ∧ zfal g n ≤ n
  | 0 => ⟨by simp [zfal], by simp [zfal]⟩
  | n + 1 => by
    have := zfal_b (g := g) n
    unfold zfal
    split <;> omega
/-- a crew's place by its bumps alone -/
def zfol (u d s : Int → Int) (c : Int) : Nat → Int
  | 0 => c
  | n + 1 => if u n = c then zfol u d s c n - s n else if d n = c then zfol u d s c n + s n else zfol u d s c n
theorem zfol_s {u d s : Int → Int} {c k : Int} (h : 0 ≤ k) : zfol u d s c (k + 1).toNat = if u k = c then zfol u d s c k.toNat - s k else if d k = c then zfol u d s c k.toNat + s k else zfol u d s c k.toNat := by
  obtain ⟨j, rfl⟩ : ∃ j : Nat, k = j := ⟨k.toNat, by omega⟩
  rfl
/-- the one that rose most among the first n places -/
def zbst (ri Or : Int → Int) : Nat → Int
  | 0 => -1
  | n + 1 => if n = 0 then Or 0 else if ri (zbst ri Or n) < ri (Or n) then Or n else zbst ri Or n
theorem zbst_s {ri Or : Int → Int} {k : Int} (h : 0 ≤ k) : zbst ri Or (k + 1).toNat = if k = 0 then Or 0 else if ri (zbst ri Or k.toNat) < ri (Or k) then Or k else zbst ri Or k.toNat := by
  obtain ⟨j, rfl⟩ : ∃ j : Nat, k = j := ⟨k.toNat, by omega⟩
  show zbst ri Or (j + 1) = if (j : Int) = 0 then Or 0 else if ri (zbst ri Or j) < ri (Or j) then Or j else zbst ri Or j
  by_cases h0 : j = 0
  · subst h0; rfl
  · rw [if_neg (show ¬ (j : Int) = 0 by omega)]
    conv => lhs; unfold zbst
    rw [if_neg h0]
theorem zbst_in {ri Or : Int → Int} {N : Int} (ho : ∀ q, 0 ≤ q → q < N → 0 ≤ Or q ∧ Or q < N) : ∀ n : Nat, 0 < n → (n : Int) ≤ N → 0 ≤ zbst ri Or n ∧ zbst ri Or n < N
  | 0, h, _ => absurd h (by omega)
  | n + 1, _, hn => by
    unfold zbst
    by_cases h0 : n = 0
    · rw [if_pos h0]; exact ho 0 (by omega) (by omega)
    · rw [if_neg h0]
      split
      · exact ho n (by omega) (by omega)
      · exact zbst_in ho n (by omega) (by omega)

/-- numbers of a chart: F its fields -/
def zW1 (F : Int → Int) : Prop := (2 ≤ F 5 ∧ F 5 ≤ 24) ∧ (3 ≤ F 6 ∧ F 6 ≤ 8) ∧ (1 ≤ F 7 ∧ F 7 ≤ 6) ∧ (0 ≤ F 8 ∧ F 8 ≤ F 7) ∧ (-1 ≤ F 9 ∧ F 9 ≤ 7) ∧ (F 9 = -1 ↔ F 8 = F 7) ∧ ((-8 ≤ F 9 * F 6 ∧ F 9 * F 6 < F 5) ∧ (F 9 = -1 ∨ 0 ≤ F 9 * F 6)) ∧ (100 ≤ F 10 ∧ F 10 ≤ 5000) ∧ (1 ≤ F 11 ∧ F 11 ≤ 1000)
/-- how many start -/
def zns (F : Int → Int) : Int := if F 9 = -1 then 0 else if F 6 + 1 ≤ F 5 - F 9 * F 6 then F 6 + 1 else F 5 - F 9 * F 6
/-- places and order -/
def zW2 (F Pl Or : Int → Int) : Prop := (∀ c, 0 ≤ c → c < F 5 → 0 ≤ Pl c ∧ Pl c < F 5 ∧ Or (Pl c) = c) ∧ (∀ q, 0 ≤ q → q < F 5 → 0 ≤ Or q ∧ Or q < F 5 ∧ Pl (Or q) = q) ∧ (∀ c, 0 ≤ c → c < 24 → 0 ≤ Pl c ∧ Pl c < 24)
/-- c starts -/
def zIs (F Pl : Int → Int) (c : Int) : Prop := (0 ≤ c ∧ c < F 5) ∧ F 9 * F 6 ≤ Pl c ∧ Pl c < F 9 * F 6 + zns F
def zOut (M : Int) (Up Dn : Int → Int) (c : Int) : Prop := ∃ k, 0 ≤ k ∧ k < M ∧ (Up k = c ∨ Dn k = c)
/-- why a can't bump b, 0 if it can -/
def zReas (F Pl Or : Int → Int) (M : Int) (Up Dn : Int → Int) (a b res : Int) : Prop :=
  (res = 2 ∧ ¬ (zIs F Pl a ∧ zIs F Pl b)) ∨ (zIs F Pl a ∧ zIs F Pl b ∧ ((res = 3 ∧ (zOut M Up Dn a ∨ zOut M Up Dn b)) ∨ (¬ zOut M Up Dn a ∧ ¬ zOut M Up Dn b ∧
    ((res = 4 ∧ Pl a ≤ Pl b) ∨ (Pl b < Pl a ∧ ((res = 5 ∧ ∃ q, Pl b < q ∧ q < Pl a ∧ ¬ zOut M Up Dn (Or q)) ∨ (res = 0 ∧ ∀ q, Pl b < q → q < Pl a → zOut M Up Dn (Or q))))))))
end
section
set_option maxRecDepth 20000 in
theorem m_hasCrew1 {I : zI} {π : Int → Nat} {D : zD} {i : Int} (h : 0 ≤ i ∧ i < I 2 5) : zMet 6 [vr 2, vi i] (I, zPp π, D, 147) (some (vi 1)) (I, zPp π, D, 147) := by
  refine z_n 1 (1, [(0, vr 2), (1, vi i)], [vi i], (I, zPp π, D, 147)) rfl trivial ?_
  refine z_br (i < 0) 16 4 [] rfl (fun h => absurd h (show ¬ (i < 0) from by omega)) (fun hx1 => ?_)
  refine z_n 3 (9, [(0, vr 2), (1, vi i)], [vi (I 2 5), vi i], (I, zPp π, D, 147)) rfl trivial ?_
  refine z_br ((I 2 5) ≤ i) 16 12 [] rfl (fun hx2 => ?_) (fun hx2 => ?_)
  · refine z_n 1 (17, [(0, vr 2), (1, vi i)], [vi 0], (I, zPp π, D, 147)) rfl trivial ?_
    first | exact z_ret rfl rfl rfl | exact z_ret rfl (zv1 (by omega)) rfl | (exfalso; omega)
  · refine z_n 2 (17, [(0, vr 2), (1, vi i)], [vi 1], (I, zPp π, D, 147)) rfl trivial ?_
    first | exact z_ret rfl rfl rfl | exact z_ret rfl (zv1 (by omega)) rfl | (exfalso; omega)
set_option maxRecDepth 20000 in
theorem m_hasCrew0 {I : zI} {π : Int → Nat} {D : zD} {i : Int} (h : ¬ (0 ≤ i ∧ i < I 2 5)) : zMet 6 [vr 2, vi i] (I, zPp π, D, 147) (some (vi 0)) (I, zPp π, D, 147) := by
  refine z_n 1 (1, [(0, vr 2), (1, vi i)], [vi i], (I, zPp π, D, 147)) rfl trivial ?_
  refine z_br (i < 0) 16 4 [] rfl (fun hx1 => ?_) (fun hx1 => ?_)
  · refine z_n 1 (17, [(0, vr 2), (1, vi i)], [vi 0], (I, zPp π, D, 147)) rfl trivial ?_
    first | exact z_ret rfl rfl rfl | exact z_ret rfl (zv1 (by omega)) rfl | (exfalso; omega)
  · refine z_n 3 (9, [(0, vr 2), (1, vi i)], [vi (I 2 5), vi i], (I, zPp π, D, 147)) rfl trivial ?_
    refine z_br ((I 2 5) ≤ i) 16 12 [] rfl (fun hx2 => ?_) (fun hx2 => ?_)
    · refine z_n 1 (17, [(0, vr 2), (1, vi i)], [vi 0], (I, zPp π, D, 147)) rfl trivial ?_
      first | exact z_ret rfl rfl rfl | exact z_ret rfl (zv1 (by omega)) rfl | (exfalso; omega)
    · refine z_n 2 (17, [(0, vr 2), (1, vi i)], [vi 1], (I, zPp π, D, 147)) rfl trivial ?_
      first | exact z_ret rfl rfl rfl | exact z_ret rfl (zv1 (by omega)) rfl | (exfalso; omega)
set_option maxRecDepth 20000 in
theorem m_hasDay1 {I : zI} {π : Int → Nat} {D : zD} {i : Int} (h : 0 ≤ i ∧ i ≤ I 2 8) : zMet 7 [vr 2, vi i] (I, zPp π, D, 147) (some (vi 1)) (I, zPp π, D, 147) := by
  refine z_n 1 (1, [(0, vr 2), (1, vi i)], [vi i], (I, zPp π, D, 147)) rfl trivial ?_
  refine z_br (i < 0) 16 4 [] rfl (fun h => absurd h (show ¬ (i < 0) from by omega)) (fun hx1 => ?_)
  refine z_n 3 (9, [(0, vr 2), (1, vi i)], [vi (I 2 8), vi i], (I, zPp π, D, 147)) rfl trivial ?_
  refine z_br ((I 2 8) < i) 16 12 [] rfl (fun hx2 => ?_) (fun hx2 => ?_)
  · refine z_n 1 (17, [(0, vr 2), (1, vi i)], [vi 0], (I, zPp π, D, 147)) rfl trivial ?_
    first | exact z_ret rfl rfl rfl | exact z_ret rfl (zv1 (by omega)) rfl | (exfalso; omega)
  · refine z_n 2 (17, [(0, vr 2), (1, vi i)], [vi 1], (I, zPp π, D, 147)) rfl trivial ?_
    first | exact z_ret rfl rfl rfl | exact z_ret rfl (zv1 (by omega)) rfl | (exfalso; omega)
set_option maxRecDepth 20000 in
theorem m_hasDay0 {I : zI} {π : Int → Nat} {D : zD} {i : Int} (h : ¬ (0 ≤ i ∧ i ≤ I 2 8)) : zMet 7 [vr 2, vi i] (I, zPp π, D, 147) (some (vi 0)) (I, zPp π, D, 147) := by
  refine z_n 1 (1, [(0, vr 2), (1, vi i)], [vi i], (I, zPp π, D, 147)) rfl trivial ?_
  refine z_br (i < 0) 16 4 [] rfl (fun hx1 => ?_) (fun hx1 => ?_)
  · refine z_n 1 (17, [(0, vr 2), (1, vi i)], [vi 0], (I, zPp π, D, 147)) rfl trivial ?_
    first | exact z_ret rfl rfl rfl | exact z_ret rfl (zv1 (by omega)) rfl | (exfalso; omega)
  · refine z_n 3 (9, [(0, vr 2), (1, vi i)], [vi (I 2 8), vi i], (I, zPp π, D, 147)) rfl trivial ?_
    refine z_br ((I 2 8) < i) 16 12 [] rfl (fun hx2 => ?_) (fun hx2 => ?_)
    · refine z_n 1 (17, [(0, vr 2), (1, vi i)], [vi 0], (I, zPp π, D, 147)) rfl trivial ?_
      first | exact z_ret rfl rfl rfl | exact z_ret rfl (zv1 (by omega)) rfl | (exfalso; omega)
    · refine z_n 2 (17, [(0, vr 2), (1, vi i)], [vi 1], (I, zPp π, D, 147)) rfl trivial ?_
      first | exact z_ret rfl rfl rfl | exact z_ret rfl (zv1 (by omega)) rfl | (exfalso; omega)
set_option maxRecDepth 20000 in
theorem m_hasRace1 {I : zI} {π : Int → Nat} {D : zD}  (h : ¬ I 2 9 = -1) : zMet 8 [vr 2] (I, zPp π, D, 147) (some (vi 1)) (I, zPp π, D, 147) := by
  refine z_n 3 (5, [(0, vr 2)], [vi (-1), vi (I 2 9)], (I, zPp π, D, 147)) rfl trivial ?_
  refine z_br ((I 2 9) = (-1)) 12 8 [] rfl (fun hx1 => ?_) (fun hx1 => ?_)
  · refine z_n 1 (13, [(0, vr 2)], [vi 0], (I, zPp π, D, 147)) rfl trivial ?_
    first | exact z_ret rfl rfl rfl | exact z_ret rfl (zv1 (by omega)) rfl | (exfalso; omega)
  · refine z_n 2 (13, [(0, vr 2)], [vi 1], (I, zPp π, D, 147)) rfl trivial ?_
    first | exact z_ret rfl rfl rfl | exact z_ret rfl (zv1 (by omega)) rfl | (exfalso; omega)
set_option maxRecDepth 20000 in
theorem m_hasRace0 {I : zI} {π : Int → Nat} {D : zD}  (h : ¬ (¬ I 2 9 = -1)) : zMet 8 [vr 2] (I, zPp π, D, 147) (some (vi 0)) (I, zPp π, D, 147) := by
  refine z_n 3 (5, [(0, vr 2)], [vi (-1), vi (I 2 9)], (I, zPp π, D, 147)) rfl trivial ?_
  refine z_br ((I 2 9) = (-1)) 12 8 [] rfl (fun hx1 => ?_) (fun hx1 => ?_)
  · refine z_n 1 (13, [(0, vr 2)], [vi 0], (I, zPp π, D, 147)) rfl trivial ?_
    first | exact z_ret rfl rfl rfl | exact z_ret rfl (zv1 (by omega)) rfl | (exfalso; omega)
  · refine z_n 2 (13, [(0, vr 2)], [vi 1], (I, zPp π, D, 147)) rfl trivial ?_
    first | exact z_ret rfl rfl rfl | exact z_ret rfl (zv1 (by omega)) rfl | (exfalso; omega)
set_option maxRecDepth 20000 in
theorem m_divisions {I : zI} {π : Int → Nat} {D : zD}  (w : zW1 (I 2)) : zMet 9 [vr 2] (I, zPp π, D, 147) (some (vi ((I 2 5 + I 2 6 - 1) / I 2 6))) (I, zPp π, D, 147) := by
  obtain ⟨⟨w1, w2⟩, ⟨w3, w4⟩, ⟨w5, w6⟩, ⟨w7, w8⟩, ⟨w9, w10⟩, w11, ⟨⟨w12, w12b⟩, w12c⟩, ⟨w13, w14⟩, ⟨w15, w16⟩⟩ := id w
  refine z_n 2 (4, [(0, vr 2)], [vi (I 2 6)], (I, zPp π, D, 147)) rfl trivial ?_
  refine z_br ((I 2 6) ≤ 0) 26 7 [] rfl (fun h => absurd h (show ¬ ((I 2 6) ≤ 0) from by omega)) (fun hx1 => ?_)
  refine z_n 11 (27, [(0, vr 2)], [vi ((((I 2 5) + (I 2 6)) - 1) / (I 2 6))], (I, zPp π, D, 147)) (G := (zr ((I 2 5) + (I 2 6))) ∧ (zr (((I 2 5) + (I 2 6)) - 1)) ∧ (0 ≤ (((I 2 5) + (I 2 6)) - 1) ∧ 0 < (I 2 6)) ∧ True) rfl ⟨by omega, by omega, by omega, trivial⟩ ?_
  first | exact z_ret rfl rfl rfl | exact z_ret rfl (zv1 (by omega)) rfl | (exfalso; omega)
set_option maxRecDepth 20000 in
theorem m_divisionOf {I : zI} {π : Int → Nat} {D : zD} {i : Int} (w : zW1 (I 2)) (h0 : 0 ≤ i) (h1 : i < 24) (h2 : 0 ≤ I 6 i) : zMet 10 [vr 2, vi i] (I, zPp π, D, 147) (some (vi (I 6 i / I 2 6))) (I, zPp π, D, 147) := by
  obtain ⟨⟨w1, w2⟩, ⟨w3, w4⟩, ⟨w5, w6⟩, ⟨w7, w8⟩, ⟨w9, w10⟩, w11, ⟨⟨w12, w12b⟩, w12c⟩, ⟨w13, w14⟩, ⟨w15, w16⟩⟩ := id w
  refine z_n 2 (4, [(0, vr 2), (1, vi i)], [vi (I 2 6)], (I, zPp π, D, 147)) rfl trivial ?_
  refine z_br ((I 2 6) ≤ 0) 23 7 [] rfl (fun h => absurd h (show ¬ ((I 2 6) ≤ 0) from by omega)) (fun hx1 => ?_)
  refine z_n 3 (12, [(0, vr 2), (1, vi i)], [vi i, vr 5], (I, zPp π, D, 147)) rfl trivial ?_
  refine z_ci 1 [vr 5, vi i] [] rfl (m_get (n := 24) ⟨rfl, rfl, rfl, rfl⟩ (by omega) (by omega)) ?_
  refine z_n 4 (24, [(0, vr 2), (1, vi i)], [vi ((I 6 i) / (I 2 6))], (I, zPp π, D, 147)) (G := (0 ≤ (I 6 i) ∧ 0 < (I 2 6)) ∧ True) rfl ⟨by omega, trivial⟩ ?_
  first | exact z_ret rfl rfl rfl | exact z_ret rfl (zv1 (by omega)) rfl | (exfalso; omega)
set_option maxRecDepth 20000 in
theorem m_putAt {I : zI} {π : Int → Nat} {D : zD} {p k : Int} (h0 : 0 ≤ p) (h1 : p < 24) (h2 : 0 ≤ k) (h3 : k < 24) : zMet 11 [vr 2, vi p, vi k] (I, zPp π, D, 147) none ((zup (zup I 8 p k) 6 k p), zPp π, D, 147) := by
  refine z_n 4 (6, [(0, vr 2), (1, vi p), (2, vi k)], [vi k, vi p, vr 7], (I, zPp π, D, 147)) rfl trivial ?_
  refine z_cv 2 [vr 7, vi p, vi k] [] rfl (m_put (n := 24) ⟨rfl, rfl, rfl, rfl⟩ (by omega) (by omega)) ?_
  refine z_n 4 (15, [(0, vr 2), (1, vi p), (2, vi k)], [vi p, vi k, vr 5], ((zup I 8 p k), zPp π, D, 147)) rfl trivial ?_
  refine z_cv 2 [vr 5, vi k, vi p] [] rfl (m_put (n := 24) ⟨rfl, rfl, rfl, rfl⟩ (by omega) (by omega)) ?_
  first | exact z_ret rfl rfl rfl | exact z_ret rfl (zv1 (by omega)) rfl | (exfalso; omega)
set_option maxRecDepth 20000 in
theorem m_starters {I : zI} {π : Int → Nat} {D : zD}  (w : zW1 (I 2)) : zMet 12 [vr 2] (I, zPp π, D, 147) (some (vi (zns (I 2)))) (I, zPp π, D, 147) := by
  obtain ⟨⟨w1, w2⟩, ⟨w3, w4⟩, ⟨w5, w6⟩, ⟨w7, w8⟩, ⟨w9, w10⟩, w11, ⟨⟨w12, w12b⟩, w12c⟩, ⟨w13, w14⟩, ⟨w15, w16⟩⟩ := id w
  refine z_n 1 (1, [(0, vr 2)], [vr 2], (I, zPp π, D, 147)) rfl trivial ?_
  by_cases hx1 : ¬ I 2 9 = -1
  · refine z_ci 8 [vr 2] [] rfl (m_hasRace1 hx1) ?_
    refine z_br ((1 : Int) = 0) 33 7 [] rfl (fun h => absurd h (show ¬ ((1 : Int) = 0) from by decide)) (fun hx2 => ?_)
    refine z_n 12 (27, [(0, vr 2)], [vi ((I 2 5) - ((I 2 9) * (I 2 6))), vi ((I 2 6) + 1)], (I, zPp π, D, 147)) (G := (zr ((I 2 6) + 1)) ∧ (zr ((I 2 9) * (I 2 6))) ∧ (zr ((I 2 5) - ((I 2 9) * (I 2 6)))) ∧ True) rfl ⟨by omega, by omega, by omega, trivial⟩ ?_
    refine z_ci 142 [vi ((I 2 6) + 1), vi ((I 2 5) - ((I 2 9) * (I 2 6)))] [] rfl (m_min) ?_
    refine z_n 1 (34, [(0, vr 2)], [vi (if ((I 2 6) + 1) ≤ ((I 2 5) - ((I 2 9) * (I 2 6))) then ((I 2 6) + 1) else ((I 2 5) - ((I 2 9) * (I 2 6))))], (I, zPp π, D, 147)) rfl trivial ?_
    exact z_ret rfl (zv1 (by unfold zns; omega)) rfl
  · refine z_ci 8 [vr 2] [] rfl (m_hasRace0 hx1) ?_
    refine z_br ((0 : Int) = 0) 33 7 [] rfl (fun hx3 => ?_) (fun h => absurd (show (0 : Int) = 0 from by decide) h)
    refine z_n 1 (34, [(0, vr 2)], [vi 0], (I, zPp π, D, 147)) rfl trivial ?_
    exact z_ret rfl (zv1 (by unfold zns; omega)) rfl
set_option maxRecDepth 20000 in
theorem m_starterAt {I : zI} {π : Int → Nat} {D : zD} {i : Int} (w : zW1 (I 2)) (h0 : 0 ≤ I 2 9 * I 2 6 + i) (h1 : I 2 9 * I 2 6 + i < 24) : zMet 13 [vr 2, vi i] (I, zPp π, D, 147) (some (vi (I 8 (I 2 9 * I 2 6 + i)))) (I, zPp π, D, 147) := by
  obtain ⟨⟨w1, w2⟩, ⟨w3, w4⟩, ⟨w5, w6⟩, ⟨w7, w8⟩, ⟨w9, w10⟩, w11, ⟨⟨w12, w12b⟩, w12c⟩, ⟨w13, w14⟩, ⟨w15, w16⟩⟩ := id w
  refine z_n 9 (15, [(0, vr 2), (1, vi i)], [vi (((I 2 9) * (I 2 6)) + i), vr 7], (I, zPp π, D, 147)) (G := (zr ((I 2 9) * (I 2 6))) ∧ (zr (((I 2 9) * (I 2 6)) + i)) ∧ True) rfl ⟨by omega, by omega, trivial⟩ ?_
  refine z_ci 1 [vr 7, vi (((I 2 9) * (I 2 6)) + i)] [] rfl (m_get (n := 24) ⟨rfl, rfl, rfl, rfl⟩ (by omega) (by omega)) ?_
  first | exact z_ret rfl rfl rfl | exact z_ret rfl (zv1 (by omega)) rfl | (exfalso; omega)
end
section
set_option maxRecDepth 20000 in
theorem m_startNumber1 {I : zI} {π : Int → Nat} {D : zD} {i : Int} (w : zW1 (I 2)) (v : zW2 (I 2) (I 6) (I 8)) (h : zIs (I 2) (I 6) i) : zMet 14 [vr 2, vi i] (I, zPp π, D, 147) (some (vi (I 6 i - I 2 9 * I 2 6))) (I, zPp π, D, 147) := by
  obtain ⟨⟨w1, w2⟩, ⟨w3, w4⟩, ⟨w5, w6⟩, ⟨w7, w8⟩, ⟨w9, w10⟩, w11, ⟨⟨w12, w12b⟩, w12c⟩, ⟨w13, w14⟩, ⟨w15, w16⟩⟩ := id w
  have v1 := v.2.2 i
  have hz : zns (I 2) = zns (I 2) := rfl
  unfold zIs at h
  refine z_n 3 (5, [(0, vr 2), (1, vi i)], [vi i, vr 5], (I, zPp π, D, 147)) rfl trivial ?_
  refine z_ci 1 [vr 5, vi i] [] rfl (m_get (n := 24) ⟨rfl, rfl, rfl, rfl⟩ (by omega) (by omega)) ?_
  refine z_n 9 (21, [(2, vi ((I 6 i) - ((I 2 9) * (I 2 6)))), (0, vr 2), (1, vi i)], [vi i, vr 2], (I, zPp π, D, 147)) (G := (zr ((I 2 9) * (I 2 6))) ∧ (zr ((I 6 i) - ((I 2 9) * (I 2 6)))) ∧ True) rfl ⟨by omega, by omega, trivial⟩ ?_
  refine z_ci 6 [vr 2, vi i] [] rfl (m_hasCrew1 h.1) ?_
  refine z_br ((1 : Int) = 0) 43 27 [] rfl (fun h => absurd h (show ¬ ((1 : Int) = 0) from by decide)) (fun hx1 => ?_)
  refine z_n 1 (28, [(2, vi ((I 6 i) - ((I 2 9) * (I 2 6)))), (0, vr 2), (1, vi i)], [vi ((I 6 i) - ((I 2 9) * (I 2 6)))], (I, zPp π, D, 147)) rfl trivial ?_
  refine z_br (((I 6 i) - ((I 2 9) * (I 2 6))) < 0) 43 31 [] rfl (fun h => absurd h (show ¬ (((I 6 i) - ((I 2 9) * (I 2 6))) < 0) from by omega)) (fun hx2 => ?_)
  refine z_n 2 (33, [(2, vi ((I 6 i) - ((I 2 9) * (I 2 6)))), (0, vr 2), (1, vi i)], [vr 2, vi ((I 6 i) - ((I 2 9) * (I 2 6)))], (I, zPp π, D, 147)) rfl trivial ?_
  refine z_ci 12 [vr 2] [vi ((I 6 i) - ((I 2 9) * (I 2 6)))] rfl (m_starters w) ?_
  refine z_br ((zns (I 2)) ≤ ((I 6 i) - ((I 2 9) * (I 2 6)))) 43 39 [] rfl (fun h => absurd h (show ¬ ((zns (I 2)) ≤ ((I 6 i) - ((I 2 9) * (I 2 6)))) from by omega)) (fun hx3 => ?_)
  refine z_n 2 (44, [(2, vi ((I 6 i) - ((I 2 9) * (I 2 6)))), (0, vr 2), (1, vi i)], [vi ((I 6 i) - ((I 2 9) * (I 2 6)))], (I, zPp π, D, 147)) rfl trivial ?_
  first | exact z_ret rfl rfl rfl | exact z_ret rfl (zv1 (by omega)) rfl | (exfalso; omega)
set_option maxRecDepth 20000 in
theorem m_startNumber0 {I : zI} {π : Int → Nat} {D : zD} {i : Int} (w : zW1 (I 2)) (v : zW2 (I 2) (I 6) (I 8)) (h : ¬ zIs (I 2) (I 6) i) : zMet 14 [vr 2, vi i] (I, zPp π, D, 147) (some (vi (-1))) (I, zPp π, D, 147) := by
  obtain ⟨⟨w1, w2⟩, ⟨w3, w4⟩, ⟨w5, w6⟩, ⟨w7, w8⟩, ⟨w9, w10⟩, w11, ⟨⟨w12, w12b⟩, w12c⟩, ⟨w13, w14⟩, ⟨w15, w16⟩⟩ := id w
  have v1 := v.2.2 i
  unfold zIs at h
  refine z_n 3 (5, [(0, vr 2), (1, vi i)], [vi i, vr 5], (I, zPp π, D, 147)) rfl trivial ?_
  by_cases hx1 : 0 ≤ i ∧ i < 24
  · refine z_ci 1 [vr 5, vi i] [] rfl (m_get (n := 24) ⟨rfl, rfl, rfl, rfl⟩ hx1.1 hx1.2) ?_
    refine z_n 9 (21, [(2, vi ((I 6 i) - ((I 2 9) * (I 2 6)))), (0, vr 2), (1, vi i)], [vi i, vr 2], (I, zPp π, D, 147)) (G := (zr ((I 2 9) * (I 2 6))) ∧ (zr ((I 6 i) - ((I 2 9) * (I 2 6)))) ∧ True) rfl ⟨by omega, by omega, trivial⟩ ?_
    by_cases hx2 : 0 ≤ i ∧ i < I 2 5
    · refine z_ci 6 [vr 2, vi i] [] rfl (m_hasCrew1 hx2) ?_
      refine z_br ((1 : Int) = 0) 43 27 [] rfl (fun h => absurd h (show ¬ ((1 : Int) = 0) from by decide)) (fun hx3 => ?_)
      refine z_n 1 (28, [(2, vi ((I 6 i) - ((I 2 9) * (I 2 6)))), (0, vr 2), (1, vi i)], [vi ((I 6 i) - ((I 2 9) * (I 2 6)))], (I, zPp π, D, 147)) rfl trivial ?_
      refine z_br (((I 6 i) - ((I 2 9) * (I 2 6))) < 0) 43 31 [] rfl (fun hx4 => ?_) (fun hx4 => ?_)
      · refine z_n 1 (44, [(2, vi ((I 6 i) - ((I 2 9) * (I 2 6)))), (0, vr 2), (1, vi i)], [vi (-1)], (I, zPp π, D, 147)) rfl trivial ?_
        first | exact z_ret rfl rfl rfl | exact z_ret rfl (zv1 (by omega)) rfl | (exfalso; omega)
      · refine z_n 2 (33, [(2, vi ((I 6 i) - ((I 2 9) * (I 2 6)))), (0, vr 2), (1, vi i)], [vr 2, vi ((I 6 i) - ((I 2 9) * (I 2 6)))], (I, zPp π, D, 147)) rfl trivial ?_
        refine z_ci 12 [vr 2] [vi ((I 6 i) - ((I 2 9) * (I 2 6)))] rfl (m_starters w) ?_
        refine z_br ((zns (I 2)) ≤ ((I 6 i) - ((I 2 9) * (I 2 6)))) 43 39 [] rfl (fun hx5 => ?_) (fun hx5 => ?_)
        · refine z_n 1 (44, [(2, vi ((I 6 i) - ((I 2 9) * (I 2 6)))), (0, vr 2), (1, vi i)], [vi (-1)], (I, zPp π, D, 147)) rfl trivial ?_
          first | exact z_ret rfl rfl rfl | exact z_ret rfl (zv1 (by omega)) rfl | (exfalso; omega)
        · refine z_n 2 (44, [(2, vi ((I 6 i) - ((I 2 9) * (I 2 6)))), (0, vr 2), (1, vi i)], [vi ((I 6 i) - ((I 2 9) * (I 2 6)))], (I, zPp π, D, 147)) rfl trivial ?_
          first | exact z_ret rfl rfl rfl | exact z_ret rfl (zv1 (by omega)) rfl | (exfalso; omega)
    · refine z_ci 6 [vr 2, vi i] [] rfl (m_hasCrew0 hx2) ?_
      refine z_br ((0 : Int) = 0) 43 27 [] rfl (fun hx6 => ?_) (fun h => absurd (show (0 : Int) = 0 from by decide) h)
      refine z_n 1 (44, [(2, vi ((I 6 i) - ((I 2 9) * (I 2 6)))), (0, vr 2), (1, vi i)], [vi (-1)], (I, zPp π, D, 147)) rfl trivial ?_
      first | exact z_ret rfl rfl rfl | exact z_ret rfl (zv1 (by omega)) rfl | (exfalso; omega)
  · refine z_ci 1 [vr 5, vi i] [] rfl (m_get0 (n := 24) ⟨rfl, rfl, rfl, rfl⟩ (by omega)) ?_
    refine z_n 9 (21, [(2, vi (0 - ((I 2 9) * (I 2 6)))), (0, vr 2), (1, vi i)], [vi i, vr 2], (I, zPp π, D, 147)) (G := (zr ((I 2 9) * (I 2 6))) ∧ (zr (0 - ((I 2 9) * (I 2 6)))) ∧ True) rfl ⟨by omega, by omega, trivial⟩ ?_
    by_cases hx7 : 0 ≤ i ∧ i < I 2 5
    · refine z_ci 6 [vr 2, vi i] [] rfl (m_hasCrew1 hx7) ?_
      refine z_br ((1 : Int) = 0) 43 27 [] rfl (fun h => absurd h (show ¬ ((1 : Int) = 0) from by decide)) (fun hx8 => ?_)
      refine z_n 1 (28, [(2, vi (0 - ((I 2 9) * (I 2 6)))), (0, vr 2), (1, vi i)], [vi (0 - ((I 2 9) * (I 2 6)))], (I, zPp π, D, 147)) rfl trivial ?_
      refine z_br ((0 - ((I 2 9) * (I 2 6))) < 0) 43 31 [] rfl (fun hx9 => ?_) (fun hx9 => ?_)
      · refine z_n 1 (44, [(2, vi (0 - ((I 2 9) * (I 2 6)))), (0, vr 2), (1, vi i)], [vi (-1)], (I, zPp π, D, 147)) rfl trivial ?_
        first | exact z_ret rfl rfl rfl | exact z_ret rfl (zv1 (by omega)) rfl | (exfalso; omega)
      · refine z_n 2 (33, [(2, vi (0 - ((I 2 9) * (I 2 6)))), (0, vr 2), (1, vi i)], [vr 2, vi (0 - ((I 2 9) * (I 2 6)))], (I, zPp π, D, 147)) rfl trivial ?_
        refine z_ci 12 [vr 2] [vi (0 - ((I 2 9) * (I 2 6)))] rfl (m_starters w) ?_
        refine z_br ((zns (I 2)) ≤ (0 - ((I 2 9) * (I 2 6)))) 43 39 [] rfl (fun hx10 => ?_) (fun hx10 => ?_)
        · refine z_n 1 (44, [(2, vi (0 - ((I 2 9) * (I 2 6)))), (0, vr 2), (1, vi i)], [vi (-1)], (I, zPp π, D, 147)) rfl trivial ?_
          first | exact z_ret rfl rfl rfl | exact z_ret rfl (zv1 (by omega)) rfl | (exfalso; omega)
        · refine z_n 2 (44, [(2, vi (0 - ((I 2 9) * (I 2 6)))), (0, vr 2), (1, vi i)], [vi (0 - ((I 2 9) * (I 2 6)))], (I, zPp π, D, 147)) rfl trivial ?_
          first | exact z_ret rfl rfl rfl | exact z_ret rfl (zv1 (by omega)) rfl | (exfalso; omega)
    · refine z_ci 6 [vr 2, vi i] [] rfl (m_hasCrew0 hx7) ?_
      refine z_br ((0 : Int) = 0) 43 27 [] rfl (fun hx11 => ?_) (fun h => absurd (show (0 : Int) = 0 from by decide) h)
      refine z_n 1 (44, [(2, vi (0 - ((I 2 9) * (I 2 6)))), (0, vr 2), (1, vi i)], [vi (-1)], (I, zPp π, D, 147)) rfl trivial ?_
      first | exact z_ret rfl rfl rfl | exact z_ret rfl (zv1 (by omega)) rfl | (exfalso; omega)
set_option maxRecDepth 20000 in
theorem m_isStarter1 {I : zI} {π : Int → Nat} {D : zD} {i : Int} (w : zW1 (I 2)) (v : zW2 (I 2) (I 6) (I 8)) (h : zIs (I 2) (I 6) i) : zMet 15 [vr 2, vi i] (I, zPp π, D, 147) (some (vi 1)) (I, zPp π, D, 147) := by
  have h2 := h.2.1
  refine z_n 2 (2, [(0, vr 2), (1, vi i)], [vi i, vr 2], (I, zPp π, D, 147)) rfl trivial ?_
  refine z_ci 14 [vr 2, vi i] [] rfl (m_startNumber1 w v h) ?_
  refine z_n 1 (6, [(0, vr 2), (1, vi i)], [vi (-1), vi (I 6 i - I 2 9 * I 2 6)], (I, zPp π, D, 147)) rfl trivial ?_
  refine z_br ((I 6 i - I 2 9 * I 2 6) = (-1)) 13 9 [] rfl (fun hx1 => ?_) (fun hx1 => ?_)
  · refine z_n 1 (14, [(0, vr 2), (1, vi i)], [vi 0], (I, zPp π, D, 147)) rfl trivial ?_
    first | exact z_ret rfl rfl rfl | exact z_ret rfl (zv1 (by omega)) rfl | (exfalso; omega)
  · refine z_n 2 (14, [(0, vr 2), (1, vi i)], [vi 1], (I, zPp π, D, 147)) rfl trivial ?_
    first | exact z_ret rfl rfl rfl | exact z_ret rfl (zv1 (by omega)) rfl | (exfalso; omega)
set_option maxRecDepth 20000 in
theorem m_isStarter0 {I : zI} {π : Int → Nat} {D : zD} {i : Int} (w : zW1 (I 2)) (v : zW2 (I 2) (I 6) (I 8)) (h : ¬ zIs (I 2) (I 6) i) : zMet 15 [vr 2, vi i] (I, zPp π, D, 147) (some (vi 0)) (I, zPp π, D, 147) := by
  refine z_n 2 (2, [(0, vr 2), (1, vi i)], [vi i, vr 2], (I, zPp π, D, 147)) rfl trivial ?_
  refine z_ci 14 [vr 2, vi i] [] rfl (m_startNumber0 w v h) ?_
  refine z_n 1 (6, [(0, vr 2), (1, vi i)], [vi (-1), vi (-1)], (I, zPp π, D, 147)) rfl trivial ?_
  refine z_br ((-1 : Int) = (-1)) 13 9 [] rfl (fun hx1 => ?_) (fun h => absurd (show (-1 : Int) = (-1) from by decide) h)
  refine z_n 1 (14, [(0, vr 2), (1, vi i)], [vi 0], (I, zPp π, D, 147)) rfl trivial ?_
  first | exact z_ret rfl rfl rfl | exact z_ret rfl (zv1 (by omega)) rfl | (exfalso; omega)
set_option maxRecDepth 20000 in
theorem m_span {I : zI} {π : Int → Nat} {D : zD} {i : Int} (h0 : 0 ≤ i) (h1 : i < 4) (h2 : 0 ≤ I 11 i ∧ I 11 i < 24) (h3 : 0 ≤ I 13 i ∧ I 13 i < 24) (h4 : 0 ≤ I 6 (I 11 i) ∧ I 6 (I 11 i) < 24) (h5 : 0 ≤ I 6 (I 13 i) ∧ I 6 (I 13 i) < 24) : zMet 17 [vr 2, vi i] (I, zPp π, D, 147) (some (vi (I 6 (I 11 i) - I 6 (I 13 i)))) (I, zPp π, D, 147) := by
  refine z_n 6 (12, [(0, vr 2), (1, vi i)], [vi i, vr 10, vr 5], (I, zPp π, D, 147)) rfl trivial ?_
  refine z_ci 1 [vr 10, vi i] [vr 5] rfl (m_get (n := 4) ⟨rfl, rfl, rfl, rfl⟩ (by omega) (by omega)) ?_
  refine z_ci 1 [vr 5, vi (I 11 i)] [] rfl (m_get (n := 24) ⟨rfl, rfl, rfl, rfl⟩ (by omega) (by omega)) ?_
  refine z_n 6 (30, [(0, vr 2), (1, vi i)], [vi i, vr 12, vr 5, vi (I 6 (I 11 i))], (I, zPp π, D, 147)) rfl trivial ?_
  refine z_ci 1 [vr 12, vi i] [vr 5, vi (I 6 (I 11 i))] rfl (m_get (n := 4) ⟨rfl, rfl, rfl, rfl⟩ (by omega) (by omega)) ?_
  refine z_ci 1 [vr 5, vi (I 13 i)] [vi (I 6 (I 11 i))] rfl (m_get (n := 24) ⟨rfl, rfl, rfl, rfl⟩ (by omega) (by omega)) ?_
  refine z_n 1 (37, [(0, vr 2), (1, vi i)], [vi ((I 6 (I 11 i)) - (I 6 (I 13 i)))], (I, zPp π, D, 147)) (G := (zr ((I 6 (I 11 i)) - (I 6 (I 13 i)))) ∧ True) rfl ⟨by omega, trivial⟩ ?_
  first | exact z_ret rfl rfl rfl | exact z_ret rfl (zv1 (by omega)) rfl | (exfalso; omega)
set_option maxRecDepth 20000 in
theorem m_placeAfter {I : zI} {π : Int → Nat} {D : zD} {i d : Int} (h0 : 0 ≤ i) (h1 : i < 24) (h2 : 0 ≤ d) (h3 : d ≤ 6) : zMet 26 [vr 2, vi i, vi d] (I, zPp π, D, 147) (some (vi (I 24 (d * 24 + i)))) (I, zPp π, D, 147) := by
  refine z_n 7 (10, [(0, vr 2), (1, vi i), (2, vi d)], [vi ((d * 24) + i), vr 23], (I, zPp π, D, 147)) (G := (zr (d * 24)) ∧ (zr ((d * 24) + i)) ∧ True) rfl ⟨by omega, by omega, trivial⟩ ?_
  refine z_ci 1 [vr 23, vi ((d * 24) + i)] [] rfl (m_get (n := 168) ⟨rfl, rfl, rfl, rfl⟩ (by omega) (by omega)) ?_
  first | exact z_ret rfl rfl rfl | exact z_ret rfl (zv1 (by omega)) rfl | (exfalso; omega)
set_option maxRecDepth 20000 in
theorem m_isOut9_l1 {I : zI} {π : Int → Nat} {D : zD} {c : Int} (hM : 0 ≤ I 9 2 ∧ I 9 2 ≤ 4) : ∀ (n : Nat) (k : Int), 0 ≤ k → k + n = I 9 2 → (∃ j, k ≤ j ∧ j < I 9 2 ∧ (I 11 j = c ∨ I 13 j = c)) → zRuns 55 2 [(2, vi k), (0, vr 9), (1, vi c)] [] (I, zPp π, D, 147) (some (vi 1)) (I, zPp π, D, 147) := by
  intro n
  induction n with
  | zero => intro k h0 hn hj; obtain ⟨j, a1, a2, a3⟩ := hj; exfalso; omega
  | succ n ih =>
  intro k h0 hn hj
  refine z_n 3 (7, [(2, vi k), (0, vr 9), (1, vi c)], [vi (I 9 2), vi k], (I, zPp π, D, 147)) rfl trivial ?_
  refine z_br ((I 9 2) ≤ k) 42 10 [] rfl (fun h => absurd h (show ¬ ((I 9 2) ≤ k) from by omega)) (fun hx1 => ?_)
  refine z_n 3 (15, [(2, vi k), (0, vr 9), (1, vi c)], [vi k, vr 10], (I, zPp π, D, 147)) rfl trivial ?_
  refine z_ci 1 [vr 10, vi k] [] rfl (m_get (n := 4) ⟨rfl, rfl, rfl, rfl⟩ (by omega) (by omega)) ?_
  refine z_n 1 (19, [(2, vi k), (0, vr 9), (1, vi c)], [vi c, vi (I 11 k)], (I, zPp π, D, 147)) rfl trivial ?_
  refine z_br ((I 11 k) = c) 34 22 [] rfl (fun hx2 => ?_) (fun hx2 => ?_)
  · refine z_n 1 (35, [(2, vi k), (0, vr 9), (1, vi c)], [vi 1], (I, zPp π, D, 147)) rfl trivial ?_
    first | exact z_ret rfl rfl rfl | exact z_ret rfl (zv1 (by omega)) rfl | (exfalso; omega)
  · refine z_n 3 (27, [(2, vi k), (0, vr 9), (1, vi c)], [vi k, vr 12], (I, zPp π, D, 147)) rfl trivial ?_
    refine z_ci 1 [vr 12, vi k] [] rfl (m_get (n := 4) ⟨rfl, rfl, rfl, rfl⟩ (by omega) (by omega)) ?_
    refine z_n 1 (31, [(2, vi k), (0, vr 9), (1, vi c)], [vi c, vi (I 13 k)], (I, zPp π, D, 147)) rfl trivial ?_
    refine z_br (¬ (I 13 k) = c) 36 34 [] rfl (fun hx3 => ?_) (fun hx3 => ?_)
    · refine z_n 2 (2, [(2, vi (k + 1)), (0, vr 9), (1, vi c)], [], (I, zPp π, D, 147)) (G := (zr (k + 1)) ∧ True) rfl ⟨by omega, trivial⟩ ?_
      refine z_sub [(2, vi (k + 1)), (0, vr 9), (1, vi c)] [0, 1, 2] rfl ?_
      exact ih (k + 1) (by omega) (by omega) (by obtain ⟨j, a1, a2, a3⟩ := hj; refine ⟨j, ?_, a2, a3⟩; rcases Int.lt_or_lt_of_ne (show j ≠ k by rintro rfl; rcases a3 with a3 | a3 <;> contradiction) with a | a <;> omega)
    · refine z_n 1 (35, [(2, vi k), (0, vr 9), (1, vi c)], [vi 1], (I, zPp π, D, 147)) rfl trivial ?_
      first | exact z_ret rfl rfl rfl | exact z_ret rfl (zv1 (by omega)) rfl | (exfalso; omega)
set_option maxRecDepth 20000 in
theorem m_isOut9_l0 {I : zI} {π : Int → Nat} {D : zD} {c : Int} (hM : 0 ≤ I 9 2 ∧ I 9 2 ≤ 4) : ∀ (n : Nat) (k : Int), 0 ≤ k → k + n = I 9 2 → (¬ ∃ j, 0 ≤ j ∧ j < I 9 2 ∧ (I 11 j = c ∨ I 13 j = c)) → zRuns 55 2 [(2, vi k), (0, vr 9), (1, vi c)] [] (I, zPp π, D, 147) (some (vi 0)) (I, zPp π, D, 147) := by
  intro n
  induction n with
  | zero =>
    intro k h0 hn hj
    refine z_n 3 (7, [(2, vi k), (0, vr 9), (1, vi c)], [vi (I 9 2), vi k], (I, zPp π, D, 147)) rfl trivial ?_
    refine z_br ((I 9 2) ≤ k) 42 10 [] rfl (fun hx1 => ?_) (fun h => absurd (show (I 9 2) ≤ k from by omega) h)
    refine z_n 1 (43, [(2, vi k), (0, vr 9), (1, vi c)], [vi 0], (I, zPp π, D, 147)) rfl trivial ?_
    first | exact z_ret rfl rfl rfl | exact z_ret rfl (zv1 (by omega)) rfl | (exfalso; omega)
  | succ n ih =>
  intro k h0 hn hj
  refine z_n 3 (7, [(2, vi k), (0, vr 9), (1, vi c)], [vi (I 9 2), vi k], (I, zPp π, D, 147)) rfl trivial ?_
  refine z_br ((I 9 2) ≤ k) 42 10 [] rfl (fun h => absurd h (show ¬ ((I 9 2) ≤ k) from by omega)) (fun hx1 => ?_)
  refine z_n 3 (15, [(2, vi k), (0, vr 9), (1, vi c)], [vi k, vr 10], (I, zPp π, D, 147)) rfl trivial ?_
  refine z_ci 1 [vr 10, vi k] [] rfl (m_get (n := 4) ⟨rfl, rfl, rfl, rfl⟩ (by omega) (by omega)) ?_
  refine z_n 1 (19, [(2, vi k), (0, vr 9), (1, vi c)], [vi c, vi (I 11 k)], (I, zPp π, D, 147)) rfl trivial ?_
  refine z_br ((I 11 k) = c) 34 22 [] rfl (fun h => absurd h (show ¬ ((I 11 k) = c) from fun e => hj ⟨k, h0, by omega, Or.inl e⟩)) (fun hx2 => ?_)
  refine z_n 3 (27, [(2, vi k), (0, vr 9), (1, vi c)], [vi k, vr 12], (I, zPp π, D, 147)) rfl trivial ?_
  refine z_ci 1 [vr 12, vi k] [] rfl (m_get (n := 4) ⟨rfl, rfl, rfl, rfl⟩ (by omega) (by omega)) ?_
  refine z_n 1 (31, [(2, vi k), (0, vr 9), (1, vi c)], [vi c, vi (I 13 k)], (I, zPp π, D, 147)) rfl trivial ?_
  refine z_br (¬ (I 13 k) = c) 36 34 [] rfl (fun hx3 => ?_) (fun h => absurd (show ¬ (I 13 k) = c from fun e => hj ⟨k, h0, by omega, Or.inr e⟩) h)
  refine z_n 2 (2, [(2, vi (k + 1)), (0, vr 9), (1, vi c)], [], (I, zPp π, D, 147)) (G := (zr (k + 1)) ∧ True) rfl ⟨by omega, trivial⟩ ?_
  refine z_sub [(2, vi (k + 1)), (0, vr 9), (1, vi c)] [0, 1, 2] rfl ?_
  exact ih (k + 1) (by omega) (by omega) hj
set_option maxRecDepth 20000 in
theorem m_isOut9_1 {I : zI} {π : Int → Nat} {D : zD} {c : Int} (hM : 0 ≤ I 9 2 ∧ I 9 2 ≤ 4) (h : zOut (I 9 2) (I 11) (I 13) c) : zMet 55 [vr 9, vi c] (I, zPp π, D, 147) (some (vi 1)) (I, zPp π, D, 147) := by
  refine z_n 2 (2, [(2, vi 0), (0, vr 9), (1, vi c)], [], (I, zPp π, D, 147)) rfl trivial ?_
  refine z_sub [(2, vi 0), (0, vr 9), (1, vi c)] [0, 1, 2] rfl ?_
  exact m_isOut9_l1 hM (I 9 2).toNat 0 (by omega) (by omega) h
set_option maxRecDepth 20000 in
theorem m_isOut9_0 {I : zI} {π : Int → Nat} {D : zD} {c : Int} (hM : 0 ≤ I 9 2 ∧ I 9 2 ≤ 4) (h : ¬ zOut (I 9 2) (I 11) (I 13) c) : zMet 55 [vr 9, vi c] (I, zPp π, D, 147) (some (vi 0)) (I, zPp π, D, 147) := by
  refine z_n 2 (2, [(2, vi 0), (0, vr 9), (1, vi c)], [], (I, zPp π, D, 147)) rfl trivial ?_
  refine z_sub [(2, vi 0), (0, vr 9), (1, vi c)] [0, 1, 2] rfl ?_
  exact m_isOut9_l0 hM (I 9 2).toNat 0 (by omega) (by omega) h
set_option maxRecDepth 20000 in
theorem m_isOut130_l1 {I : zI} {π : Int → Nat} {D : zD} {c : Int} (hM : 0 ≤ I 130 2 ∧ I 130 2 ≤ 4) : ∀ (n : Nat) (k : Int), 0 ≤ k → k + n = I 130 2 → (∃ j, k ≤ j ∧ j < I 130 2 ∧ (I 132 j = c ∨ I 134 j = c)) → zRuns 55 2 [(2, vi k), (0, vr 130), (1, vi c)] [] (I, zPp π, D, 147) (some (vi 1)) (I, zPp π, D, 147) := by
  intro n
  induction n with
  | zero => intro k h0 hn hj; obtain ⟨j, a1, a2, a3⟩ := hj; exfalso; omega
  | succ n ih =>
  intro k h0 hn hj
  refine z_n 3 (7, [(2, vi k), (0, vr 130), (1, vi c)], [vi (I 130 2), vi k], (I, zPp π, D, 147)) rfl trivial ?_
  refine z_br ((I 130 2) ≤ k) 42 10 [] rfl (fun h => absurd h (show ¬ ((I 130 2) ≤ k) from by omega)) (fun hx1 => ?_)
  refine z_n 3 (15, [(2, vi k), (0, vr 130), (1, vi c)], [vi k, vr 131], (I, zPp π, D, 147)) rfl trivial ?_
  refine z_ci 1 [vr 131, vi k] [] rfl (m_get (n := 4) ⟨rfl, rfl, rfl, rfl⟩ (by omega) (by omega)) ?_
  refine z_n 1 (19, [(2, vi k), (0, vr 130), (1, vi c)], [vi c, vi (I 132 k)], (I, zPp π, D, 147)) rfl trivial ?_
  refine z_br ((I 132 k) = c) 34 22 [] rfl (fun hx2 => ?_) (fun hx2 => ?_)
  · refine z_n 1 (35, [(2, vi k), (0, vr 130), (1, vi c)], [vi 1], (I, zPp π, D, 147)) rfl trivial ?_
    first | exact z_ret rfl rfl rfl | exact z_ret rfl (zv1 (by omega)) rfl | (exfalso; omega)
  · refine z_n 3 (27, [(2, vi k), (0, vr 130), (1, vi c)], [vi k, vr 133], (I, zPp π, D, 147)) rfl trivial ?_
    refine z_ci 1 [vr 133, vi k] [] rfl (m_get (n := 4) ⟨rfl, rfl, rfl, rfl⟩ (by omega) (by omega)) ?_
    refine z_n 1 (31, [(2, vi k), (0, vr 130), (1, vi c)], [vi c, vi (I 134 k)], (I, zPp π, D, 147)) rfl trivial ?_
    refine z_br (¬ (I 134 k) = c) 36 34 [] rfl (fun hx3 => ?_) (fun hx3 => ?_)
    · refine z_n 2 (2, [(2, vi (k + 1)), (0, vr 130), (1, vi c)], [], (I, zPp π, D, 147)) (G := (zr (k + 1)) ∧ True) rfl ⟨by omega, trivial⟩ ?_
      refine z_sub [(2, vi (k + 1)), (0, vr 130), (1, vi c)] [0, 1, 2] rfl ?_
      exact ih (k + 1) (by omega) (by omega) (by obtain ⟨j, a1, a2, a3⟩ := hj; refine ⟨j, ?_, a2, a3⟩; rcases Int.lt_or_lt_of_ne (show j ≠ k by rintro rfl; rcases a3 with a3 | a3 <;> contradiction) with a | a <;> omega)
    · refine z_n 1 (35, [(2, vi k), (0, vr 130), (1, vi c)], [vi 1], (I, zPp π, D, 147)) rfl trivial ?_
      first | exact z_ret rfl rfl rfl | exact z_ret rfl (zv1 (by omega)) rfl | (exfalso; omega)
set_option maxRecDepth 20000 in
theorem m_isOut130_l0 {I : zI} {π : Int → Nat} {D : zD} {c : Int} (hM : 0 ≤ I 130 2 ∧ I 130 2 ≤ 4) : ∀ (n : Nat) (k : Int), 0 ≤ k → k + n = I 130 2 → (¬ ∃ j, 0 ≤ j ∧ j < I 130 2 ∧ (I 132 j = c ∨ I 134 j = c)) → zRuns 55 2 [(2, vi k), (0, vr 130), (1, vi c)] [] (I, zPp π, D, 147) (some (vi 0)) (I, zPp π, D, 147) := by
  intro n
  induction n with
  | zero =>
    intro k h0 hn hj
    refine z_n 3 (7, [(2, vi k), (0, vr 130), (1, vi c)], [vi (I 130 2), vi k], (I, zPp π, D, 147)) rfl trivial ?_
    refine z_br ((I 130 2) ≤ k) 42 10 [] rfl (fun hx1 => ?_) (fun h => absurd (show (I 130 2) ≤ k from by omega) h)
    refine z_n 1 (43, [(2, vi k), (0, vr 130), (1, vi c)], [vi 0], (I, zPp π, D, 147)) rfl trivial ?_
    first | exact z_ret rfl rfl rfl | exact z_ret rfl (zv1 (by omega)) rfl | (exfalso; omega)
  | succ n ih =>
  intro k h0 hn hj
  refine z_n 3 (7, [(2, vi k), (0, vr 130), (1, vi c)], [vi (I 130 2), vi k], (I, zPp π, D, 147)) rfl trivial ?_
  refine z_br ((I 130 2) ≤ k) 42 10 [] rfl (fun h => absurd h (show ¬ ((I 130 2) ≤ k) from by omega)) (fun hx1 => ?_)
  refine z_n 3 (15, [(2, vi k), (0, vr 130), (1, vi c)], [vi k, vr 131], (I, zPp π, D, 147)) rfl trivial ?_
  refine z_ci 1 [vr 131, vi k] [] rfl (m_get (n := 4) ⟨rfl, rfl, rfl, rfl⟩ (by omega) (by omega)) ?_
  refine z_n 1 (19, [(2, vi k), (0, vr 130), (1, vi c)], [vi c, vi (I 132 k)], (I, zPp π, D, 147)) rfl trivial ?_
  refine z_br ((I 132 k) = c) 34 22 [] rfl (fun h => absurd h (show ¬ ((I 132 k) = c) from fun e => hj ⟨k, h0, by omega, Or.inl e⟩)) (fun hx2 => ?_)
  refine z_n 3 (27, [(2, vi k), (0, vr 130), (1, vi c)], [vi k, vr 133], (I, zPp π, D, 147)) rfl trivial ?_
  refine z_ci 1 [vr 133, vi k] [] rfl (m_get (n := 4) ⟨rfl, rfl, rfl, rfl⟩ (by omega) (by omega)) ?_
  refine z_n 1 (31, [(2, vi k), (0, vr 130), (1, vi c)], [vi c, vi (I 134 k)], (I, zPp π, D, 147)) rfl trivial ?_
  refine z_br (¬ (I 134 k) = c) 36 34 [] rfl (fun hx3 => ?_) (fun h => absurd (show ¬ (I 134 k) = c from fun e => hj ⟨k, h0, by omega, Or.inr e⟩) h)
  refine z_n 2 (2, [(2, vi (k + 1)), (0, vr 130), (1, vi c)], [], (I, zPp π, D, 147)) (G := (zr (k + 1)) ∧ True) rfl ⟨by omega, trivial⟩ ?_
  refine z_sub [(2, vi (k + 1)), (0, vr 130), (1, vi c)] [0, 1, 2] rfl ?_
  exact ih (k + 1) (by omega) (by omega) hj
set_option maxRecDepth 20000 in
theorem m_isOut130_1 {I : zI} {π : Int → Nat} {D : zD} {c : Int} (hM : 0 ≤ I 130 2 ∧ I 130 2 ≤ 4) (h : zOut (I 130 2) (I 132) (I 134) c) : zMet 55 [vr 130, vi c] (I, zPp π, D, 147) (some (vi 1)) (I, zPp π, D, 147) := by
  refine z_n 2 (2, [(2, vi 0), (0, vr 130), (1, vi c)], [], (I, zPp π, D, 147)) rfl trivial ?_
  refine z_sub [(2, vi 0), (0, vr 130), (1, vi c)] [0, 1, 2] rfl ?_
  exact m_isOut130_l1 hM (I 130 2).toNat 0 (by omega) (by omega) h
set_option maxRecDepth 20000 in
theorem m_isOut130_0 {I : zI} {π : Int → Nat} {D : zD} {c : Int} (hM : 0 ≤ I 130 2 ∧ I 130 2 ≤ 4) (h : ¬ zOut (I 130 2) (I 132) (I 134) c) : zMet 55 [vr 130, vi c] (I, zPp π, D, 147) (some (vi 0)) (I, zPp π, D, 147) := by
  refine z_n 2 (2, [(2, vi 0), (0, vr 130), (1, vi c)], [], (I, zPp π, D, 147)) rfl trivial ?_
  refine z_sub [(2, vi 0), (0, vr 130), (1, vi c)] [0, 1, 2] rfl ?_
  exact m_isOut130_l0 hM (I 130 2).toNat 0 (by omega) (by omega) h
set_option maxRecDepth 20000 in
theorem m_rea9_2a {I : zI} {π : Int → Nat} {D : zD} {a b : Int} (w : zW1 (I 2)) (v : zW2 (I 2) (I 6) (I 8)) (ha : ¬ zIs (I 2) (I 6) a) : zMet 16 [vr 2, vr 9, vi a, vi b] (I, zPp π, D, 147) (some (vi 2)) (I, zPp π, D, 147) := by
  obtain ⟨⟨w1, w2⟩, ⟨w3, w4⟩, ⟨w5, w6⟩, ⟨w7, w8⟩, ⟨w9, w10⟩, w11, ⟨⟨w12, w12b⟩, w12c⟩, ⟨w13, w14⟩, ⟨w15, w16⟩⟩ := id w
  refine z_n 2 (2, [(0, vr 2), (1, vr 9), (2, vi a), (3, vi b)], [vi a, vr 2], (I, zPp π, D, 147)) rfl trivial ?_
  refine z_ci 14 [vr 2, vi a] [] rfl (m_startNumber0 w v ha) ?_
  refine z_n 3 (9, [(4, vi (-1)), (0, vr 2), (1, vr 9), (2, vi a), (3, vi b)], [vi b, vr 2], (I, zPp π, D, 147)) rfl trivial ?_
  by_cases hx1 : zIs (I 2) (I 6) b
  · refine z_ci 14 [vr 2, vi b] [] rfl (m_startNumber1 w v hx1) ?_
    refine z_n 3 (17, [(5, vi (I 6 b - I 2 9 * I 2 6)), (4, vi (-1)), (0, vr 2), (1, vr 9), (2, vi a), (3, vi b)], [vi (-1), vi (-1)], (I, zPp π, D, 147)) rfl trivial ?_
    refine z_br ((-1 : Int) = (-1)) 26 20 [] rfl (fun hx2 => ?_) (fun h => absurd (show (-1 : Int) = (-1) from by decide) h)
    refine z_n 1 (27, [(5, vi (I 6 b - I 2 9 * I 2 6)), (4, vi (-1)), (0, vr 2), (1, vr 9), (2, vi a), (3, vi b)], [vi 2], (I, zPp π, D, 147)) rfl trivial ?_
    first | exact z_ret rfl rfl rfl | exact z_ret rfl (zv1 (by omega)) rfl | (exfalso; omega)
  · refine z_ci 14 [vr 2, vi b] [] rfl (m_startNumber0 w v hx1) ?_
    refine z_n 3 (17, [(5, vi (-1)), (4, vi (-1)), (0, vr 2), (1, vr 9), (2, vi a), (3, vi b)], [vi (-1), vi (-1)], (I, zPp π, D, 147)) rfl trivial ?_
    refine z_br ((-1 : Int) = (-1)) 26 20 [] rfl (fun hx3 => ?_) (fun h => absurd (show (-1 : Int) = (-1) from by decide) h)
    refine z_n 1 (27, [(5, vi (-1)), (4, vi (-1)), (0, vr 2), (1, vr 9), (2, vi a), (3, vi b)], [vi 2], (I, zPp π, D, 147)) rfl trivial ?_
    first | exact z_ret rfl rfl rfl | exact z_ret rfl (zv1 (by omega)) rfl | (exfalso; omega)
set_option maxRecDepth 20000 in
theorem m_rea9_2b {I : zI} {π : Int → Nat} {D : zD} {a b : Int} (w : zW1 (I 2)) (v : zW2 (I 2) (I 6) (I 8)) (ha : zIs (I 2) (I 6) a) (hb : ¬ zIs (I 2) (I 6) b) : zMet 16 [vr 2, vr 9, vi a, vi b] (I, zPp π, D, 147) (some (vi 2)) (I, zPp π, D, 147) := by
  obtain ⟨⟨w1, w2⟩, ⟨w3, w4⟩, ⟨w5, w6⟩, ⟨w7, w8⟩, ⟨w9, w10⟩, w11, ⟨⟨w12, w12b⟩, w12c⟩, ⟨w13, w14⟩, ⟨w15, w16⟩⟩ := id w
  refine z_n 2 (2, [(0, vr 2), (1, vr 9), (2, vi a), (3, vi b)], [vi a, vr 2], (I, zPp π, D, 147)) rfl trivial ?_
  refine z_ci 14 [vr 2, vi a] [] rfl (m_startNumber1 w v ha) ?_
  refine z_n 3 (9, [(4, vi (I 6 a - I 2 9 * I 2 6)), (0, vr 2), (1, vr 9), (2, vi a), (3, vi b)], [vi b, vr 2], (I, zPp π, D, 147)) rfl trivial ?_
  refine z_ci 14 [vr 2, vi b] [] rfl (m_startNumber0 w v hb) ?_
  refine z_n 3 (17, [(5, vi (-1)), (4, vi (I 6 a - I 2 9 * I 2 6)), (0, vr 2), (1, vr 9), (2, vi a), (3, vi b)], [vi (-1), vi (I 6 a - I 2 9 * I 2 6)], (I, zPp π, D, 147)) rfl trivial ?_
  refine z_br ((I 6 a - I 2 9 * I 2 6) = (-1)) 26 20 [] rfl (fun h => absurd h (show ¬ ((I 6 a - I 2 9 * I 2 6) = (-1)) from by have := ha.2.1; omega)) (fun hx1 => ?_)
  refine z_n 2 (23, [(5, vi (-1)), (4, vi (I 6 a - I 2 9 * I 2 6)), (0, vr 2), (1, vr 9), (2, vi a), (3, vi b)], [vi (-1), vi (-1)], (I, zPp π, D, 147)) rfl trivial ?_
  refine z_br (¬ (-1 : Int) = (-1)) 28 26 [] rfl (fun h => absurd h (show ¬ (¬ (-1 : Int) = (-1)) from by decide)) (fun hx2 => ?_)
  refine z_n 1 (27, [(5, vi (-1)), (4, vi (I 6 a - I 2 9 * I 2 6)), (0, vr 2), (1, vr 9), (2, vi a), (3, vi b)], [vi 2], (I, zPp π, D, 147)) rfl trivial ?_
  first | exact z_ret rfl rfl rfl | exact z_ret rfl (zv1 (by omega)) rfl | (exfalso; omega)
set_option maxRecDepth 20000 in
theorem m_rea9_3a {I : zI} {π : Int → Nat} {D : zD} {a b : Int} (w : zW1 (I 2)) (v : zW2 (I 2) (I 6) (I 8)) (hM : 0 ≤ I 9 2 ∧ I 9 2 ≤ 4) (ha : zIs (I 2) (I 6) a) (hb : zIs (I 2) (I 6) b) (oa : zOut (I 9 2) (I 11) (I 13) a) : zMet 16 [vr 2, vr 9, vi a, vi b] (I, zPp π, D, 147) (some (vi 3)) (I, zPp π, D, 147) := by
  have ha2 := ha.2
  have hb2 := hb.2
  have ha0 := ha.1
  have hb0 := hb.1
  refine z_n 2 (2, [(0, vr 2), (1, vr 9), (2, vi a), (3, vi b)], [vi a, vr 2], (I, zPp π, D, 147)) rfl trivial ?_
  refine z_ci 14 [vr 2, vi a] [] rfl (m_startNumber1 w v ha) ?_
  refine z_n 3 (9, [(4, vi (I 6 a - I 2 9 * I 2 6)), (0, vr 2), (1, vr 9), (2, vi a), (3, vi b)], [vi b, vr 2], (I, zPp π, D, 147)) rfl trivial ?_
  refine z_ci 14 [vr 2, vi b] [] rfl (m_startNumber1 w v hb) ?_
  refine z_n 3 (17, [(5, vi (I 6 b - I 2 9 * I 2 6)), (4, vi (I 6 a - I 2 9 * I 2 6)), (0, vr 2), (1, vr 9), (2, vi a), (3, vi b)], [vi (-1), vi (I 6 a - I 2 9 * I 2 6)], (I, zPp π, D, 147)) rfl trivial ?_
  refine z_br ((I 6 a - I 2 9 * I 2 6) = (-1)) 26 20 [] rfl (fun h => absurd h (show ¬ ((I 6 a - I 2 9 * I 2 6) = (-1)) from by omega)) (fun hx1 => ?_)
  refine z_n 2 (23, [(5, vi (I 6 b - I 2 9 * I 2 6)), (4, vi (I 6 a - I 2 9 * I 2 6)), (0, vr 2), (1, vr 9), (2, vi a), (3, vi b)], [vi (-1), vi (I 6 b - I 2 9 * I 2 6)], (I, zPp π, D, 147)) rfl trivial ?_
  refine z_br (¬ (I 6 b - I 2 9 * I 2 6) = (-1)) 28 26 [] rfl (fun hx2 => ?_) (fun h => absurd (show ¬ (I 6 b - I 2 9 * I 2 6) = (-1) from by omega) h)
  refine z_n 2 (30, [(5, vi (I 6 b - I 2 9 * I 2 6)), (4, vi (I 6 a - I 2 9 * I 2 6)), (0, vr 2), (1, vr 9), (2, vi a), (3, vi b)], [vi a, vr 9], (I, zPp π, D, 147)) rfl trivial ?_
  refine z_ci 55 [vr 9, vi a] [] rfl (m_isOut9_1 hM oa) ?_
  refine z_br (¬ (1 : Int) = 0) 44 36 [] rfl (fun hx3 => ?_) (fun h => absurd (show ¬ (1 : Int) = 0 from by decide) h)
  refine z_n 1 (45, [(5, vi (I 6 b - I 2 9 * I 2 6)), (4, vi (I 6 a - I 2 9 * I 2 6)), (0, vr 2), (1, vr 9), (2, vi a), (3, vi b)], [vi 3], (I, zPp π, D, 147)) rfl trivial ?_
  first | exact z_ret rfl rfl rfl | exact z_ret rfl (zv1 (by omega)) rfl | (exfalso; omega)
set_option maxRecDepth 20000 in
theorem m_rea9_3b {I : zI} {π : Int → Nat} {D : zD} {a b : Int} (w : zW1 (I 2)) (v : zW2 (I 2) (I 6) (I 8)) (hM : 0 ≤ I 9 2 ∧ I 9 2 ≤ 4) (ha : zIs (I 2) (I 6) a) (hb : zIs (I 2) (I 6) b) (oa : ¬ zOut (I 9 2) (I 11) (I 13) a) (ob : zOut (I 9 2) (I 11) (I 13) b) : zMet 16 [vr 2, vr 9, vi a, vi b] (I, zPp π, D, 147) (some (vi 3)) (I, zPp π, D, 147) := by
  have ha2 := ha.2
  have hb2 := hb.2
  have ha0 := ha.1
  have hb0 := hb.1
  refine z_n 2 (2, [(0, vr 2), (1, vr 9), (2, vi a), (3, vi b)], [vi a, vr 2], (I, zPp π, D, 147)) rfl trivial ?_
  refine z_ci 14 [vr 2, vi a] [] rfl (m_startNumber1 w v ha) ?_
  refine z_n 3 (9, [(4, vi (I 6 a - I 2 9 * I 2 6)), (0, vr 2), (1, vr 9), (2, vi a), (3, vi b)], [vi b, vr 2], (I, zPp π, D, 147)) rfl trivial ?_
  refine z_ci 14 [vr 2, vi b] [] rfl (m_startNumber1 w v hb) ?_
  refine z_n 3 (17, [(5, vi (I 6 b - I 2 9 * I 2 6)), (4, vi (I 6 a - I 2 9 * I 2 6)), (0, vr 2), (1, vr 9), (2, vi a), (3, vi b)], [vi (-1), vi (I 6 a - I 2 9 * I 2 6)], (I, zPp π, D, 147)) rfl trivial ?_
  refine z_br ((I 6 a - I 2 9 * I 2 6) = (-1)) 26 20 [] rfl (fun h => absurd h (show ¬ ((I 6 a - I 2 9 * I 2 6) = (-1)) from by omega)) (fun hx1 => ?_)
  refine z_n 2 (23, [(5, vi (I 6 b - I 2 9 * I 2 6)), (4, vi (I 6 a - I 2 9 * I 2 6)), (0, vr 2), (1, vr 9), (2, vi a), (3, vi b)], [vi (-1), vi (I 6 b - I 2 9 * I 2 6)], (I, zPp π, D, 147)) rfl trivial ?_
  refine z_br (¬ (I 6 b - I 2 9 * I 2 6) = (-1)) 28 26 [] rfl (fun hx2 => ?_) (fun h => absurd (show ¬ (I 6 b - I 2 9 * I 2 6) = (-1) from by omega) h)
  refine z_n 2 (30, [(5, vi (I 6 b - I 2 9 * I 2 6)), (4, vi (I 6 a - I 2 9 * I 2 6)), (0, vr 2), (1, vr 9), (2, vi a), (3, vi b)], [vi a, vr 9], (I, zPp π, D, 147)) rfl trivial ?_
  refine z_ci 55 [vr 9, vi a] [] rfl (m_isOut9_0 hM oa) ?_
  refine z_br (¬ (0 : Int) = 0) 44 36 [] rfl (fun h => absurd h (show ¬ (¬ (0 : Int) = 0) from by decide)) (fun hx3 => ?_)
  refine z_n 2 (38, [(5, vi (I 6 b - I 2 9 * I 2 6)), (4, vi (I 6 a - I 2 9 * I 2 6)), (0, vr 2), (1, vr 9), (2, vi a), (3, vi b)], [vi b, vr 9], (I, zPp π, D, 147)) rfl trivial ?_
  refine z_ci 55 [vr 9, vi b] [] rfl (m_isOut9_1 hM ob) ?_
  refine z_br ((1 : Int) = 0) 46 44 [] rfl (fun h => absurd h (show ¬ ((1 : Int) = 0) from by decide)) (fun hx4 => ?_)
  refine z_n 1 (45, [(5, vi (I 6 b - I 2 9 * I 2 6)), (4, vi (I 6 a - I 2 9 * I 2 6)), (0, vr 2), (1, vr 9), (2, vi a), (3, vi b)], [vi 3], (I, zPp π, D, 147)) rfl trivial ?_
  first | exact z_ret rfl rfl rfl | exact z_ret rfl (zv1 (by omega)) rfl | (exfalso; omega)
set_option maxRecDepth 20000 in
theorem m_rea9_4 {I : zI} {π : Int → Nat} {D : zD} {a b : Int} (w : zW1 (I 2)) (v : zW2 (I 2) (I 6) (I 8)) (hM : 0 ≤ I 9 2 ∧ I 9 2 ≤ 4) (ha : zIs (I 2) (I 6) a) (hb : zIs (I 2) (I 6) b) (oa : ¬ zOut (I 9 2) (I 11) (I 13) a) (ob : ¬ zOut (I 9 2) (I 11) (I 13) b) (hp : I 6 a ≤ I 6 b) : zMet 16 [vr 2, vr 9, vi a, vi b] (I, zPp π, D, 147) (some (vi 4)) (I, zPp π, D, 147) := by
  have ha2 := ha.2
  have hb2 := hb.2
  have ha0 := ha.1
  have hb0 := hb.1
  refine z_n 2 (2, [(0, vr 2), (1, vr 9), (2, vi a), (3, vi b)], [vi a, vr 2], (I, zPp π, D, 147)) rfl trivial ?_
  refine z_ci 14 [vr 2, vi a] [] rfl (m_startNumber1 w v ha) ?_
  refine z_n 3 (9, [(4, vi (I 6 a - I 2 9 * I 2 6)), (0, vr 2), (1, vr 9), (2, vi a), (3, vi b)], [vi b, vr 2], (I, zPp π, D, 147)) rfl trivial ?_
  refine z_ci 14 [vr 2, vi b] [] rfl (m_startNumber1 w v hb) ?_
  refine z_n 3 (17, [(5, vi (I 6 b - I 2 9 * I 2 6)), (4, vi (I 6 a - I 2 9 * I 2 6)), (0, vr 2), (1, vr 9), (2, vi a), (3, vi b)], [vi (-1), vi (I 6 a - I 2 9 * I 2 6)], (I, zPp π, D, 147)) rfl trivial ?_
  refine z_br ((I 6 a - I 2 9 * I 2 6) = (-1)) 26 20 [] rfl (fun h => absurd h (show ¬ ((I 6 a - I 2 9 * I 2 6) = (-1)) from by omega)) (fun hx1 => ?_)
  refine z_n 2 (23, [(5, vi (I 6 b - I 2 9 * I 2 6)), (4, vi (I 6 a - I 2 9 * I 2 6)), (0, vr 2), (1, vr 9), (2, vi a), (3, vi b)], [vi (-1), vi (I 6 b - I 2 9 * I 2 6)], (I, zPp π, D, 147)) rfl trivial ?_
  refine z_br (¬ (I 6 b - I 2 9 * I 2 6) = (-1)) 28 26 [] rfl (fun hx2 => ?_) (fun h => absurd (show ¬ (I 6 b - I 2 9 * I 2 6) = (-1) from by omega) h)
  refine z_n 2 (30, [(5, vi (I 6 b - I 2 9 * I 2 6)), (4, vi (I 6 a - I 2 9 * I 2 6)), (0, vr 2), (1, vr 9), (2, vi a), (3, vi b)], [vi a, vr 9], (I, zPp π, D, 147)) rfl trivial ?_
  refine z_ci 55 [vr 9, vi a] [] rfl (m_isOut9_0 hM oa) ?_
  refine z_br (¬ (0 : Int) = 0) 44 36 [] rfl (fun h => absurd h (show ¬ (¬ (0 : Int) = 0) from by decide)) (fun hx3 => ?_)
  refine z_n 2 (38, [(5, vi (I 6 b - I 2 9 * I 2 6)), (4, vi (I 6 a - I 2 9 * I 2 6)), (0, vr 2), (1, vr 9), (2, vi a), (3, vi b)], [vi b, vr 9], (I, zPp π, D, 147)) rfl trivial ?_
  refine z_ci 55 [vr 9, vi b] [] rfl (m_isOut9_0 hM ob) ?_
  refine z_br ((0 : Int) = 0) 46 44 [] rfl (fun hx4 => ?_) (fun h => absurd (show (0 : Int) = 0 from by decide) h)
  refine z_n 2 (50, [(5, vi (I 6 b - I 2 9 * I 2 6)), (4, vi (I 6 a - I 2 9 * I 2 6)), (0, vr 2), (1, vr 9), (2, vi a), (3, vi b)], [vi (I 6 b - I 2 9 * I 2 6), vi (I 6 a - I 2 9 * I 2 6)], (I, zPp π, D, 147)) rfl trivial ?_
  refine z_br ((I 6 b - I 2 9 * I 2 6) < (I 6 a - I 2 9 * I 2 6)) 55 53 [] rfl (fun h => absurd h (show ¬ ((I 6 b - I 2 9 * I 2 6) < (I 6 a - I 2 9 * I 2 6)) from by omega)) (fun hx5 => ?_)
  refine z_n 1 (54, [(5, vi (I 6 b - I 2 9 * I 2 6)), (4, vi (I 6 a - I 2 9 * I 2 6)), (0, vr 2), (1, vr 9), (2, vi a), (3, vi b)], [vi 4], (I, zPp π, D, 147)) rfl trivial ?_
  first | exact z_ret rfl rfl rfl | exact z_ret rfl (zv1 (by omega)) rfl | (exfalso; omega)
set_option maxRecDepth 20000 in
theorem m_rea9_l0 {I : zI} {π : Int → Nat} {D : zD} {a b : Int} (w : zW1 (I 2)) (v : zW2 (I 2) (I 6) (I 8)) (hM : 0 ≤ I 9 2 ∧ I 9 2 ≤ 4) (ha : zIs (I 2) (I 6) a) (hb : zIs (I 2) (I 6) b)  : ∀ (n : Nat) (m : Int), I 6 b - I 2 9 * I 2 6 < m → m + n = I 6 a - I 2 9 * I 2 6 → (∀ p, I 6 b < p → p < I 6 a → zOut (I 9 2) (I 11) (I 13) (I 8 p)) → zRuns 16 61 [(6, vi m), (5, vi (I 6 b - I 2 9 * I 2 6)), (4, vi (I 6 a - I 2 9 * I 2 6)), (0, vr 2), (1, vr 9), (2, vi a), (3, vi b)] [] (I, zPp π, D, 147) (some (vi 0)) (I, zPp π, D, 147) := by
  obtain ⟨⟨w1, w2⟩, ⟨w3, w4⟩, ⟨w5, w6⟩, ⟨w7, w8⟩, ⟨w9, w10⟩, w11, ⟨⟨w12, w12b⟩, w12c⟩, ⟨w13, w14⟩, ⟨w15, w16⟩⟩ := id w
  have hb2 := hb.2
  have ha2 := ha.2
  have ha0 := ha.1
  have hb0 := hb.1
  have ha1 := v.2.2 a
  have hb1 := v.2.2 b
  intro n
  induction n with
  | zero =>
    intro m h0 hn hj
    refine z_n 2 (65, [(6, vi m), (5, vi (I 6 b - I 2 9 * I 2 6)), (4, vi (I 6 a - I 2 9 * I 2 6)), (0, vr 2), (1, vr 9), (2, vi a), (3, vi b)], [vi (I 6 a - I 2 9 * I 2 6), vi m], (I, zPp π, D, 147)) rfl trivial ?_
    refine z_br ((I 6 a - I 2 9 * I 2 6) ≤ m) 89 68 [] rfl (fun hx1 => ?_) (fun h => absurd (show (I 6 a - I 2 9 * I 2 6) ≤ m from by omega) h)
    refine z_n 1 (90, [(6, vi m), (5, vi (I 6 b - I 2 9 * I 2 6)), (4, vi (I 6 a - I 2 9 * I 2 6)), (0, vr 2), (1, vr 9), (2, vi a), (3, vi b)], [vi 0], (I, zPp π, D, 147)) rfl trivial ?_
    first | exact z_ret rfl rfl rfl | exact z_ret rfl (zv1 (by omega)) rfl | (exfalso; omega)
  | succ n ih =>
  intro m h0 hn hj
  refine z_n 2 (65, [(6, vi m), (5, vi (I 6 b - I 2 9 * I 2 6)), (4, vi (I 6 a - I 2 9 * I 2 6)), (0, vr 2), (1, vr 9), (2, vi a), (3, vi b)], [vi (I 6 a - I 2 9 * I 2 6), vi m], (I, zPp π, D, 147)) rfl trivial ?_
  refine z_br ((I 6 a - I 2 9 * I 2 6) ≤ m) 89 68 [] rfl (fun h => absurd h (show ¬ ((I 6 a - I 2 9 * I 2 6) ≤ m) from by omega)) (fun hx1 => ?_)
  refine z_n 3 (72, [(6, vi m), (5, vi (I 6 b - I 2 9 * I 2 6)), (4, vi (I 6 a - I 2 9 * I 2 6)), (0, vr 2), (1, vr 9), (2, vi a), (3, vi b)], [vi m, vr 2, vr 9], (I, zPp π, D, 147)) rfl trivial ?_
  refine z_ci 13 [vr 2, vi m] [vr 9] rfl (m_starterAt w (by omega) (by omega)) ?_
  refine z_ci 55 [vr 9, vi (I 8 (I 2 9 * I 2 6 + m))] [] rfl (m_isOut9_1 hM (hj _ (by omega) (by omega))) ?_
  refine z_br (¬ (1 : Int) = 0) 83 81 [] rfl (fun hx2 => ?_) (fun h => absurd (show ¬ (1 : Int) = 0 from by decide) h)
  refine z_n 2 (61, [(6, vi (m + 1)), (5, vi (I 6 b - I 2 9 * I 2 6)), (4, vi (I 6 a - I 2 9 * I 2 6)), (0, vr 2), (1, vr 9), (2, vi a), (3, vi b)], [], (I, zPp π, D, 147)) (G := (zr (m + 1)) ∧ True) rfl ⟨by omega, trivial⟩ ?_
  refine z_sub [(6, vi (m + 1)), (5, vi (I 6 b - I 2 9 * I 2 6)), (4, vi (I 6 a - I 2 9 * I 2 6)), (0, vr 2), (1, vr 9), (2, vi a), (3, vi b)] [0, 1, 2, 3, 4, 5, 6] rfl ?_
  exact ih (m + 1) (by omega) (by omega) hj
set_option maxRecDepth 20000 in
theorem m_rea9_l5 {I : zI} {π : Int → Nat} {D : zD} {a b : Int} (w : zW1 (I 2)) (v : zW2 (I 2) (I 6) (I 8)) (hM : 0 ≤ I 9 2 ∧ I 9 2 ≤ 4) (ha : zIs (I 2) (I 6) a) (hb : zIs (I 2) (I 6) b)  : ∀ (n : Nat) (m : Int), I 6 b - I 2 9 * I 2 6 < m → m + n = I 6 a - I 2 9 * I 2 6 → (∃ p, I 2 9 * I 2 6 + m ≤ p ∧ p < I 6 a ∧ ¬ zOut (I 9 2) (I 11) (I 13) (I 8 p)) → zRuns 16 61 [(6, vi m), (5, vi (I 6 b - I 2 9 * I 2 6)), (4, vi (I 6 a - I 2 9 * I 2 6)), (0, vr 2), (1, vr 9), (2, vi a), (3, vi b)] [] (I, zPp π, D, 147) (some (vi 5)) (I, zPp π, D, 147) := by
  obtain ⟨⟨w1, w2⟩, ⟨w3, w4⟩, ⟨w5, w6⟩, ⟨w7, w8⟩, ⟨w9, w10⟩, w11, ⟨⟨w12, w12b⟩, w12c⟩, ⟨w13, w14⟩, ⟨w15, w16⟩⟩ := id w
  have hb2 := hb.2
  have ha2 := ha.2
  have ha0 := ha.1
  have hb0 := hb.1
  have ha1 := v.2.2 a
  have hb1 := v.2.2 b
  intro n
  induction n with
  | zero => intro m h0 hn hj; obtain ⟨j, a1, a2, a3⟩ := hj; exfalso; omega
  | succ n ih =>
  intro m h0 hn hj
  refine z_n 2 (65, [(6, vi m), (5, vi (I 6 b - I 2 9 * I 2 6)), (4, vi (I 6 a - I 2 9 * I 2 6)), (0, vr 2), (1, vr 9), (2, vi a), (3, vi b)], [vi (I 6 a - I 2 9 * I 2 6), vi m], (I, zPp π, D, 147)) rfl trivial ?_
  refine z_br ((I 6 a - I 2 9 * I 2 6) ≤ m) 89 68 [] rfl (fun h => absurd h (show ¬ ((I 6 a - I 2 9 * I 2 6) ≤ m) from by omega)) (fun hx1 => ?_)
  refine z_n 3 (72, [(6, vi m), (5, vi (I 6 b - I 2 9 * I 2 6)), (4, vi (I 6 a - I 2 9 * I 2 6)), (0, vr 2), (1, vr 9), (2, vi a), (3, vi b)], [vi m, vr 2, vr 9], (I, zPp π, D, 147)) rfl trivial ?_
  refine z_ci 13 [vr 2, vi m] [vr 9] rfl (m_starterAt w (by omega) (by omega)) ?_
  by_cases hx2 : zOut (I 9 2) (I 11) (I 13) (I 8 (I 2 9 * I 2 6 + m))
  · have h9 := hx2
    refine z_ci 55 [vr 9, vi (I 8 (I 2 9 * I 2 6 + m))] [] rfl (m_isOut9_1 hM hx2) ?_
    refine z_br (¬ (1 : Int) = 0) 83 81 [] rfl (fun hx3 => ?_) (fun h => absurd (show ¬ (1 : Int) = 0 from by decide) h)
    refine z_n 2 (61, [(6, vi (m + 1)), (5, vi (I 6 b - I 2 9 * I 2 6)), (4, vi (I 6 a - I 2 9 * I 2 6)), (0, vr 2), (1, vr 9), (2, vi a), (3, vi b)], [], (I, zPp π, D, 147)) (G := (zr (m + 1)) ∧ True) rfl ⟨by omega, trivial⟩ ?_
    refine z_sub [(6, vi (m + 1)), (5, vi (I 6 b - I 2 9 * I 2 6)), (4, vi (I 6 a - I 2 9 * I 2 6)), (0, vr 2), (1, vr 9), (2, vi a), (3, vi b)] [0, 1, 2, 3, 4, 5, 6] rfl ?_
    exact ih (m + 1) (by omega) (by omega) (by obtain ⟨j, a1, a2, a3⟩ := hj; refine ⟨j, ?_, a2, a3⟩; rcases Int.lt_or_lt_of_ne (show j ≠ I 2 9 * I 2 6 + m by rintro rfl; exact a3 h9) with a | a <;> omega)
  · refine z_ci 55 [vr 9, vi (I 8 (I 2 9 * I 2 6 + m))] [] rfl (m_isOut9_0 hM hx2) ?_
    refine z_br (¬ (0 : Int) = 0) 83 81 [] rfl (fun h => absurd h (show ¬ (¬ (0 : Int) = 0) from by decide)) (fun hx4 => ?_)
    refine z_n 1 (82, [(6, vi m), (5, vi (I 6 b - I 2 9 * I 2 6)), (4, vi (I 6 a - I 2 9 * I 2 6)), (0, vr 2), (1, vr 9), (2, vi a), (3, vi b)], [vi 5], (I, zPp π, D, 147)) rfl trivial ?_
    first | exact z_ret rfl rfl rfl | exact z_ret rfl (zv1 (by omega)) rfl | (exfalso; omega)
set_option maxRecDepth 20000 in
theorem m_rea9_5 {I : zI} {π : Int → Nat} {D : zD} {a b : Int} (w : zW1 (I 2)) (v : zW2 (I 2) (I 6) (I 8)) (hM : 0 ≤ I 9 2 ∧ I 9 2 ≤ 4) (ha : zIs (I 2) (I 6) a) (hb : zIs (I 2) (I 6) b) (oa : ¬ zOut (I 9 2) (I 11) (I 13) a) (ob : ¬ zOut (I 9 2) (I 11) (I 13) b) (hp : I 6 b < I 6 a) (hj : ∃ p, I 6 b < p ∧ p < I 6 a ∧ ¬ zOut (I 9 2) (I 11) (I 13) (I 8 p)) : zMet 16 [vr 2, vr 9, vi a, vi b] (I, zPp π, D, 147) (some (vi 5)) (I, zPp π, D, 147) := by
  have ha2 := ha.2
  have hb2 := hb.2
  have ha0 := ha.1
  have hb0 := hb.1
  obtain ⟨⟨w1, w2⟩, ⟨w3, w4⟩, ⟨w5, w6⟩, ⟨w7, w8⟩, ⟨w9, w10⟩, w11, ⟨⟨w12, w12b⟩, w12c⟩, ⟨w13, w14⟩, ⟨w15, w16⟩⟩ := id w
  have v1 := v.2.2 b hb.1.1 (by omega)
  refine z_n 2 (2, [(0, vr 2), (1, vr 9), (2, vi a), (3, vi b)], [vi a, vr 2], (I, zPp π, D, 147)) rfl trivial ?_
  refine z_ci 14 [vr 2, vi a] [] rfl (m_startNumber1 w v ha) ?_
  refine z_n 3 (9, [(4, vi (I 6 a - I 2 9 * I 2 6)), (0, vr 2), (1, vr 9), (2, vi a), (3, vi b)], [vi b, vr 2], (I, zPp π, D, 147)) rfl trivial ?_
  refine z_ci 14 [vr 2, vi b] [] rfl (m_startNumber1 w v hb) ?_
  refine z_n 3 (17, [(5, vi (I 6 b - I 2 9 * I 2 6)), (4, vi (I 6 a - I 2 9 * I 2 6)), (0, vr 2), (1, vr 9), (2, vi a), (3, vi b)], [vi (-1), vi (I 6 a - I 2 9 * I 2 6)], (I, zPp π, D, 147)) rfl trivial ?_
  refine z_br ((I 6 a - I 2 9 * I 2 6) = (-1)) 26 20 [] rfl (fun h => absurd h (show ¬ ((I 6 a - I 2 9 * I 2 6) = (-1)) from by omega)) (fun hx1 => ?_)
  refine z_n 2 (23, [(5, vi (I 6 b - I 2 9 * I 2 6)), (4, vi (I 6 a - I 2 9 * I 2 6)), (0, vr 2), (1, vr 9), (2, vi a), (3, vi b)], [vi (-1), vi (I 6 b - I 2 9 * I 2 6)], (I, zPp π, D, 147)) rfl trivial ?_
  refine z_br (¬ (I 6 b - I 2 9 * I 2 6) = (-1)) 28 26 [] rfl (fun hx2 => ?_) (fun h => absurd (show ¬ (I 6 b - I 2 9 * I 2 6) = (-1) from by omega) h)
  refine z_n 2 (30, [(5, vi (I 6 b - I 2 9 * I 2 6)), (4, vi (I 6 a - I 2 9 * I 2 6)), (0, vr 2), (1, vr 9), (2, vi a), (3, vi b)], [vi a, vr 9], (I, zPp π, D, 147)) rfl trivial ?_
  refine z_ci 55 [vr 9, vi a] [] rfl (m_isOut9_0 hM oa) ?_
  refine z_br (¬ (0 : Int) = 0) 44 36 [] rfl (fun h => absurd h (show ¬ (¬ (0 : Int) = 0) from by decide)) (fun hx3 => ?_)
  refine z_n 2 (38, [(5, vi (I 6 b - I 2 9 * I 2 6)), (4, vi (I 6 a - I 2 9 * I 2 6)), (0, vr 2), (1, vr 9), (2, vi a), (3, vi b)], [vi b, vr 9], (I, zPp π, D, 147)) rfl trivial ?_
  refine z_ci 55 [vr 9, vi b] [] rfl (m_isOut9_0 hM ob) ?_
  refine z_br ((0 : Int) = 0) 46 44 [] rfl (fun hx4 => ?_) (fun h => absurd (show (0 : Int) = 0 from by decide) h)
  refine z_n 2 (50, [(5, vi (I 6 b - I 2 9 * I 2 6)), (4, vi (I 6 a - I 2 9 * I 2 6)), (0, vr 2), (1, vr 9), (2, vi a), (3, vi b)], [vi (I 6 b - I 2 9 * I 2 6), vi (I 6 a - I 2 9 * I 2 6)], (I, zPp π, D, 147)) rfl trivial ?_
  refine z_br ((I 6 b - I 2 9 * I 2 6) < (I 6 a - I 2 9 * I 2 6)) 55 53 [] rfl (fun hx5 => ?_) (fun h => absurd (show (I 6 b - I 2 9 * I 2 6) < (I 6 a - I 2 9 * I 2 6) from by omega) h)
  refine z_n 4 (61, [(6, vi ((I 6 b - I 2 9 * I 2 6) + 1)), (5, vi (I 6 b - I 2 9 * I 2 6)), (4, vi (I 6 a - I 2 9 * I 2 6)), (0, vr 2), (1, vr 9), (2, vi a), (3, vi b)], [], (I, zPp π, D, 147)) (G := (zr ((I 6 b - I 2 9 * I 2 6) + 1)) ∧ True) rfl ⟨by omega, trivial⟩ ?_
  refine z_sub [(6, vi ((I 6 b - I 2 9 * I 2 6) + 1)), (5, vi (I 6 b - I 2 9 * I 2 6)), (4, vi (I 6 a - I 2 9 * I 2 6)), (0, vr 2), (1, vr 9), (2, vi a), (3, vi b)] [0, 1, 2, 3, 4, 5, 6] rfl ?_
  exact m_rea9_l5 w v hM ha hb (I 6 a - I 6 b - 1).toNat _ (by omega) (by omega) (by obtain ⟨j, a1, a2, a3⟩ := hj; exact ⟨j, by omega, a2, a3⟩)
set_option maxRecDepth 20000 in
theorem m_rea9_0 {I : zI} {π : Int → Nat} {D : zD} {a b : Int} (w : zW1 (I 2)) (v : zW2 (I 2) (I 6) (I 8)) (hM : 0 ≤ I 9 2 ∧ I 9 2 ≤ 4) (ha : zIs (I 2) (I 6) a) (hb : zIs (I 2) (I 6) b) (oa : ¬ zOut (I 9 2) (I 11) (I 13) a) (ob : ¬ zOut (I 9 2) (I 11) (I 13) b) (hp : I 6 b < I 6 a) (hj : ∀ p, I 6 b < p → p < I 6 a → zOut (I 9 2) (I 11) (I 13) (I 8 p)) : zMet 16 [vr 2, vr 9, vi a, vi b] (I, zPp π, D, 147) (some (vi 0)) (I, zPp π, D, 147) := by
  have ha2 := ha.2
  have hb2 := hb.2
  have ha0 := ha.1
  have hb0 := hb.1
  obtain ⟨⟨w1, w2⟩, ⟨w3, w4⟩, ⟨w5, w6⟩, ⟨w7, w8⟩, ⟨w9, w10⟩, w11, ⟨⟨w12, w12b⟩, w12c⟩, ⟨w13, w14⟩, ⟨w15, w16⟩⟩ := id w
  have v1 := v.2.2 b hb.1.1 (by omega)
  refine z_n 2 (2, [(0, vr 2), (1, vr 9), (2, vi a), (3, vi b)], [vi a, vr 2], (I, zPp π, D, 147)) rfl trivial ?_
  refine z_ci 14 [vr 2, vi a] [] rfl (m_startNumber1 w v ha) ?_
  refine z_n 3 (9, [(4, vi (I 6 a - I 2 9 * I 2 6)), (0, vr 2), (1, vr 9), (2, vi a), (3, vi b)], [vi b, vr 2], (I, zPp π, D, 147)) rfl trivial ?_
  refine z_ci 14 [vr 2, vi b] [] rfl (m_startNumber1 w v hb) ?_
  refine z_n 3 (17, [(5, vi (I 6 b - I 2 9 * I 2 6)), (4, vi (I 6 a - I 2 9 * I 2 6)), (0, vr 2), (1, vr 9), (2, vi a), (3, vi b)], [vi (-1), vi (I 6 a - I 2 9 * I 2 6)], (I, zPp π, D, 147)) rfl trivial ?_
  refine z_br ((I 6 a - I 2 9 * I 2 6) = (-1)) 26 20 [] rfl (fun h => absurd h (show ¬ ((I 6 a - I 2 9 * I 2 6) = (-1)) from by omega)) (fun hx1 => ?_)
  refine z_n 2 (23, [(5, vi (I 6 b - I 2 9 * I 2 6)), (4, vi (I 6 a - I 2 9 * I 2 6)), (0, vr 2), (1, vr 9), (2, vi a), (3, vi b)], [vi (-1), vi (I 6 b - I 2 9 * I 2 6)], (I, zPp π, D, 147)) rfl trivial ?_
  refine z_br (¬ (I 6 b - I 2 9 * I 2 6) = (-1)) 28 26 [] rfl (fun hx2 => ?_) (fun h => absurd (show ¬ (I 6 b - I 2 9 * I 2 6) = (-1) from by omega) h)
  refine z_n 2 (30, [(5, vi (I 6 b - I 2 9 * I 2 6)), (4, vi (I 6 a - I 2 9 * I 2 6)), (0, vr 2), (1, vr 9), (2, vi a), (3, vi b)], [vi a, vr 9], (I, zPp π, D, 147)) rfl trivial ?_
  refine z_ci 55 [vr 9, vi a] [] rfl (m_isOut9_0 hM oa) ?_
  refine z_br (¬ (0 : Int) = 0) 44 36 [] rfl (fun h => absurd h (show ¬ (¬ (0 : Int) = 0) from by decide)) (fun hx3 => ?_)
  refine z_n 2 (38, [(5, vi (I 6 b - I 2 9 * I 2 6)), (4, vi (I 6 a - I 2 9 * I 2 6)), (0, vr 2), (1, vr 9), (2, vi a), (3, vi b)], [vi b, vr 9], (I, zPp π, D, 147)) rfl trivial ?_
  refine z_ci 55 [vr 9, vi b] [] rfl (m_isOut9_0 hM ob) ?_
  refine z_br ((0 : Int) = 0) 46 44 [] rfl (fun hx4 => ?_) (fun h => absurd (show (0 : Int) = 0 from by decide) h)
  refine z_n 2 (50, [(5, vi (I 6 b - I 2 9 * I 2 6)), (4, vi (I 6 a - I 2 9 * I 2 6)), (0, vr 2), (1, vr 9), (2, vi a), (3, vi b)], [vi (I 6 b - I 2 9 * I 2 6), vi (I 6 a - I 2 9 * I 2 6)], (I, zPp π, D, 147)) rfl trivial ?_
  refine z_br ((I 6 b - I 2 9 * I 2 6) < (I 6 a - I 2 9 * I 2 6)) 55 53 [] rfl (fun hx5 => ?_) (fun h => absurd (show (I 6 b - I 2 9 * I 2 6) < (I 6 a - I 2 9 * I 2 6) from by omega) h)
  refine z_n 4 (61, [(6, vi ((I 6 b - I 2 9 * I 2 6) + 1)), (5, vi (I 6 b - I 2 9 * I 2 6)), (4, vi (I 6 a - I 2 9 * I 2 6)), (0, vr 2), (1, vr 9), (2, vi a), (3, vi b)], [], (I, zPp π, D, 147)) (G := (zr ((I 6 b - I 2 9 * I 2 6) + 1)) ∧ True) rfl ⟨by omega, trivial⟩ ?_
  refine z_sub [(6, vi ((I 6 b - I 2 9 * I 2 6) + 1)), (5, vi (I 6 b - I 2 9 * I 2 6)), (4, vi (I 6 a - I 2 9 * I 2 6)), (0, vr 2), (1, vr 9), (2, vi a), (3, vi b)] [0, 1, 2, 3, 4, 5, 6] rfl ?_
  exact m_rea9_l0 w v hM ha hb (I 6 a - I 6 b - 1).toNat _ (by omega) (by omega) hj
theorem m_rea9 {I : zI} {π : Int → Nat} {D : zD} {a b : Int} (w : zW1 (I 2)) (v : zW2 (I 2) (I 6) (I 8)) (hM : 0 ≤ I 9 2 ∧ I 9 2 ≤ 4) : ∃ res : Int, zMet 16 [vr 2, vr 9, vi a, vi b] (I, zPp π, D, 147) (some (vi res)) (I, zPp π, D, 147) ∧ zReas (I 2) (I 6) (I 8) (I 9 2) (I 11) (I 13) a b res := by
  by_cases ha : zIs (I 2) (I 6) a
  · by_cases hb : zIs (I 2) (I 6) b
    · by_cases oa : zOut (I 9 2) (I 11) (I 13) a
      · exact ⟨3, m_rea9_3a w v hM ha hb oa, Or.inr ⟨ha, hb, Or.inl ⟨rfl, Or.inl oa⟩⟩⟩
      · by_cases ob : zOut (I 9 2) (I 11) (I 13) b
        · exact ⟨3, m_rea9_3b w v hM ha hb oa ob, Or.inr ⟨ha, hb, Or.inl ⟨rfl, Or.inr ob⟩⟩⟩
        · by_cases hp : I 6 a ≤ I 6 b
          · exact ⟨4, m_rea9_4 w v hM ha hb oa ob hp, Or.inr ⟨ha, hb, Or.inr ⟨oa, ob, Or.inl ⟨rfl, hp⟩⟩⟩⟩
          · by_cases hj : ∃ p, I 6 b < p ∧ p < I 6 a ∧ ¬ zOut (I 9 2) (I 11) (I 13) (I 8 p)
            · exact ⟨5, m_rea9_5 w v hM ha hb oa ob (by omega) hj, Or.inr ⟨ha, hb, Or.inr ⟨oa, ob, Or.inr ⟨by omega, Or.inl ⟨rfl, hj⟩⟩⟩⟩⟩
            · have hk : ∀ p, I 6 b < p → p < I 6 a → zOut (I 9 2) (I 11) (I 13) (I 8 p) := fun p h1 h2 => Classical.byContradiction (fun h3 => hj ⟨p, h1, h2, h3⟩)
              exact ⟨0, m_rea9_0 w v hM ha hb oa ob (by omega) hk, Or.inr ⟨ha, hb, Or.inr ⟨oa, ob, Or.inr ⟨by omega, Or.inr ⟨rfl, hk⟩⟩⟩⟩⟩
    · exact ⟨2, m_rea9_2b w v ha hb, Or.inl ⟨rfl, fun h => hb h.2⟩⟩
  · exact ⟨2, m_rea9_2a w v ha, Or.inl ⟨rfl, fun h => ha h.1⟩⟩
set_option maxRecDepth 20000 in
theorem m_rea130_2a {I : zI} {π : Int → Nat} {D : zD} {a b : Int} (w : zW1 (I 2)) (v : zW2 (I 2) (I 6) (I 8)) (ha : ¬ zIs (I 2) (I 6) a) : zMet 16 [vr 2, vr 130, vi a, vi b] (I, zPp π, D, 147) (some (vi 2)) (I, zPp π, D, 147) := by
  obtain ⟨⟨w1, w2⟩, ⟨w3, w4⟩, ⟨w5, w6⟩, ⟨w7, w8⟩, ⟨w9, w10⟩, w11, ⟨⟨w12, w12b⟩, w12c⟩, ⟨w13, w14⟩, ⟨w15, w16⟩⟩ := id w
  refine z_n 2 (2, [(0, vr 2), (1, vr 130), (2, vi a), (3, vi b)], [vi a, vr 2], (I, zPp π, D, 147)) rfl trivial ?_
  refine z_ci 14 [vr 2, vi a] [] rfl (m_startNumber0 w v ha) ?_
  refine z_n 3 (9, [(4, vi (-1)), (0, vr 2), (1, vr 130), (2, vi a), (3, vi b)], [vi b, vr 2], (I, zPp π, D, 147)) rfl trivial ?_
  by_cases hx1 : zIs (I 2) (I 6) b
  · refine z_ci 14 [vr 2, vi b] [] rfl (m_startNumber1 w v hx1) ?_
    refine z_n 3 (17, [(5, vi (I 6 b - I 2 9 * I 2 6)), (4, vi (-1)), (0, vr 2), (1, vr 130), (2, vi a), (3, vi b)], [vi (-1), vi (-1)], (I, zPp π, D, 147)) rfl trivial ?_
    refine z_br ((-1 : Int) = (-1)) 26 20 [] rfl (fun hx2 => ?_) (fun h => absurd (show (-1 : Int) = (-1) from by decide) h)
    refine z_n 1 (27, [(5, vi (I 6 b - I 2 9 * I 2 6)), (4, vi (-1)), (0, vr 2), (1, vr 130), (2, vi a), (3, vi b)], [vi 2], (I, zPp π, D, 147)) rfl trivial ?_
    first | exact z_ret rfl rfl rfl | exact z_ret rfl (zv1 (by omega)) rfl | (exfalso; omega)
  · refine z_ci 14 [vr 2, vi b] [] rfl (m_startNumber0 w v hx1) ?_
    refine z_n 3 (17, [(5, vi (-1)), (4, vi (-1)), (0, vr 2), (1, vr 130), (2, vi a), (3, vi b)], [vi (-1), vi (-1)], (I, zPp π, D, 147)) rfl trivial ?_
    refine z_br ((-1 : Int) = (-1)) 26 20 [] rfl (fun hx3 => ?_) (fun h => absurd (show (-1 : Int) = (-1) from by decide) h)
    refine z_n 1 (27, [(5, vi (-1)), (4, vi (-1)), (0, vr 2), (1, vr 130), (2, vi a), (3, vi b)], [vi 2], (I, zPp π, D, 147)) rfl trivial ?_
    first | exact z_ret rfl rfl rfl | exact z_ret rfl (zv1 (by omega)) rfl | (exfalso; omega)
set_option maxRecDepth 20000 in
theorem m_rea130_2b {I : zI} {π : Int → Nat} {D : zD} {a b : Int} (w : zW1 (I 2)) (v : zW2 (I 2) (I 6) (I 8)) (ha : zIs (I 2) (I 6) a) (hb : ¬ zIs (I 2) (I 6) b) : zMet 16 [vr 2, vr 130, vi a, vi b] (I, zPp π, D, 147) (some (vi 2)) (I, zPp π, D, 147) := by
  obtain ⟨⟨w1, w2⟩, ⟨w3, w4⟩, ⟨w5, w6⟩, ⟨w7, w8⟩, ⟨w9, w10⟩, w11, ⟨⟨w12, w12b⟩, w12c⟩, ⟨w13, w14⟩, ⟨w15, w16⟩⟩ := id w
  refine z_n 2 (2, [(0, vr 2), (1, vr 130), (2, vi a), (3, vi b)], [vi a, vr 2], (I, zPp π, D, 147)) rfl trivial ?_
  refine z_ci 14 [vr 2, vi a] [] rfl (m_startNumber1 w v ha) ?_
  refine z_n 3 (9, [(4, vi (I 6 a - I 2 9 * I 2 6)), (0, vr 2), (1, vr 130), (2, vi a), (3, vi b)], [vi b, vr 2], (I, zPp π, D, 147)) rfl trivial ?_
  refine z_ci 14 [vr 2, vi b] [] rfl (m_startNumber0 w v hb) ?_
  refine z_n 3 (17, [(5, vi (-1)), (4, vi (I 6 a - I 2 9 * I 2 6)), (0, vr 2), (1, vr 130), (2, vi a), (3, vi b)], [vi (-1), vi (I 6 a - I 2 9 * I 2 6)], (I, zPp π, D, 147)) rfl trivial ?_
  refine z_br ((I 6 a - I 2 9 * I 2 6) = (-1)) 26 20 [] rfl (fun h => absurd h (show ¬ ((I 6 a - I 2 9 * I 2 6) = (-1)) from by have := ha.2.1; omega)) (fun hx1 => ?_)
  refine z_n 2 (23, [(5, vi (-1)), (4, vi (I 6 a - I 2 9 * I 2 6)), (0, vr 2), (1, vr 130), (2, vi a), (3, vi b)], [vi (-1), vi (-1)], (I, zPp π, D, 147)) rfl trivial ?_
  refine z_br (¬ (-1 : Int) = (-1)) 28 26 [] rfl (fun h => absurd h (show ¬ (¬ (-1 : Int) = (-1)) from by decide)) (fun hx2 => ?_)
  refine z_n 1 (27, [(5, vi (-1)), (4, vi (I 6 a - I 2 9 * I 2 6)), (0, vr 2), (1, vr 130), (2, vi a), (3, vi b)], [vi 2], (I, zPp π, D, 147)) rfl trivial ?_
  first | exact z_ret rfl rfl rfl | exact z_ret rfl (zv1 (by omega)) rfl | (exfalso; omega)
set_option maxRecDepth 20000 in
theorem m_rea130_3a {I : zI} {π : Int → Nat} {D : zD} {a b : Int} (w : zW1 (I 2)) (v : zW2 (I 2) (I 6) (I 8)) (hM : 0 ≤ I 130 2 ∧ I 130 2 ≤ 4) (ha : zIs (I 2) (I 6) a) (hb : zIs (I 2) (I 6) b) (oa : zOut (I 130 2) (I 132) (I 134) a) : zMet 16 [vr 2, vr 130, vi a, vi b] (I, zPp π, D, 147) (some (vi 3)) (I, zPp π, D, 147) := by
  have ha2 := ha.2
  have hb2 := hb.2
  have ha0 := ha.1
  have hb0 := hb.1
  refine z_n 2 (2, [(0, vr 2), (1, vr 130), (2, vi a), (3, vi b)], [vi a, vr 2], (I, zPp π, D, 147)) rfl trivial ?_
  refine z_ci 14 [vr 2, vi a] [] rfl (m_startNumber1 w v ha) ?_
  refine z_n 3 (9, [(4, vi (I 6 a - I 2 9 * I 2 6)), (0, vr 2), (1, vr 130), (2, vi a), (3, vi b)], [vi b, vr 2], (I, zPp π, D, 147)) rfl trivial ?_
  refine z_ci 14 [vr 2, vi b] [] rfl (m_startNumber1 w v hb) ?_
  refine z_n 3 (17, [(5, vi (I 6 b - I 2 9 * I 2 6)), (4, vi (I 6 a - I 2 9 * I 2 6)), (0, vr 2), (1, vr 130), (2, vi a), (3, vi b)], [vi (-1), vi (I 6 a - I 2 9 * I 2 6)], (I, zPp π, D, 147)) rfl trivial ?_
  refine z_br ((I 6 a - I 2 9 * I 2 6) = (-1)) 26 20 [] rfl (fun h => absurd h (show ¬ ((I 6 a - I 2 9 * I 2 6) = (-1)) from by omega)) (fun hx1 => ?_)
  refine z_n 2 (23, [(5, vi (I 6 b - I 2 9 * I 2 6)), (4, vi (I 6 a - I 2 9 * I 2 6)), (0, vr 2), (1, vr 130), (2, vi a), (3, vi b)], [vi (-1), vi (I 6 b - I 2 9 * I 2 6)], (I, zPp π, D, 147)) rfl trivial ?_
  refine z_br (¬ (I 6 b - I 2 9 * I 2 6) = (-1)) 28 26 [] rfl (fun hx2 => ?_) (fun h => absurd (show ¬ (I 6 b - I 2 9 * I 2 6) = (-1) from by omega) h)
  refine z_n 2 (30, [(5, vi (I 6 b - I 2 9 * I 2 6)), (4, vi (I 6 a - I 2 9 * I 2 6)), (0, vr 2), (1, vr 130), (2, vi a), (3, vi b)], [vi a, vr 130], (I, zPp π, D, 147)) rfl trivial ?_
  refine z_ci 55 [vr 130, vi a] [] rfl (m_isOut130_1 hM oa) ?_
  refine z_br (¬ (1 : Int) = 0) 44 36 [] rfl (fun hx3 => ?_) (fun h => absurd (show ¬ (1 : Int) = 0 from by decide) h)
  refine z_n 1 (45, [(5, vi (I 6 b - I 2 9 * I 2 6)), (4, vi (I 6 a - I 2 9 * I 2 6)), (0, vr 2), (1, vr 130), (2, vi a), (3, vi b)], [vi 3], (I, zPp π, D, 147)) rfl trivial ?_
  first | exact z_ret rfl rfl rfl | exact z_ret rfl (zv1 (by omega)) rfl | (exfalso; omega)
set_option maxRecDepth 20000 in
theorem m_rea130_3b {I : zI} {π : Int → Nat} {D : zD} {a b : Int} (w : zW1 (I 2)) (v : zW2 (I 2) (I 6) (I 8)) (hM : 0 ≤ I 130 2 ∧ I 130 2 ≤ 4) (ha : zIs (I 2) (I 6) a) (hb : zIs (I 2) (I 6) b) (oa : ¬ zOut (I 130 2) (I 132) (I 134) a) (ob : zOut (I 130 2) (I 132) (I 134) b) : zMet 16 [vr 2, vr 130, vi a, vi b] (I, zPp π, D, 147) (some (vi 3)) (I, zPp π, D, 147) := by
  have ha2 := ha.2
  have hb2 := hb.2
  have ha0 := ha.1
  have hb0 := hb.1
  refine z_n 2 (2, [(0, vr 2), (1, vr 130), (2, vi a), (3, vi b)], [vi a, vr 2], (I, zPp π, D, 147)) rfl trivial ?_
  refine z_ci 14 [vr 2, vi a] [] rfl (m_startNumber1 w v ha) ?_
  refine z_n 3 (9, [(4, vi (I 6 a - I 2 9 * I 2 6)), (0, vr 2), (1, vr 130), (2, vi a), (3, vi b)], [vi b, vr 2], (I, zPp π, D, 147)) rfl trivial ?_
  refine z_ci 14 [vr 2, vi b] [] rfl (m_startNumber1 w v hb) ?_
  refine z_n 3 (17, [(5, vi (I 6 b - I 2 9 * I 2 6)), (4, vi (I 6 a - I 2 9 * I 2 6)), (0, vr 2), (1, vr 130), (2, vi a), (3, vi b)], [vi (-1), vi (I 6 a - I 2 9 * I 2 6)], (I, zPp π, D, 147)) rfl trivial ?_
  refine z_br ((I 6 a - I 2 9 * I 2 6) = (-1)) 26 20 [] rfl (fun h => absurd h (show ¬ ((I 6 a - I 2 9 * I 2 6) = (-1)) from by omega)) (fun hx1 => ?_)
  refine z_n 2 (23, [(5, vi (I 6 b - I 2 9 * I 2 6)), (4, vi (I 6 a - I 2 9 * I 2 6)), (0, vr 2), (1, vr 130), (2, vi a), (3, vi b)], [vi (-1), vi (I 6 b - I 2 9 * I 2 6)], (I, zPp π, D, 147)) rfl trivial ?_
  refine z_br (¬ (I 6 b - I 2 9 * I 2 6) = (-1)) 28 26 [] rfl (fun hx2 => ?_) (fun h => absurd (show ¬ (I 6 b - I 2 9 * I 2 6) = (-1) from by omega) h)
  refine z_n 2 (30, [(5, vi (I 6 b - I 2 9 * I 2 6)), (4, vi (I 6 a - I 2 9 * I 2 6)), (0, vr 2), (1, vr 130), (2, vi a), (3, vi b)], [vi a, vr 130], (I, zPp π, D, 147)) rfl trivial ?_
  refine z_ci 55 [vr 130, vi a] [] rfl (m_isOut130_0 hM oa) ?_
  refine z_br (¬ (0 : Int) = 0) 44 36 [] rfl (fun h => absurd h (show ¬ (¬ (0 : Int) = 0) from by decide)) (fun hx3 => ?_)
  refine z_n 2 (38, [(5, vi (I 6 b - I 2 9 * I 2 6)), (4, vi (I 6 a - I 2 9 * I 2 6)), (0, vr 2), (1, vr 130), (2, vi a), (3, vi b)], [vi b, vr 130], (I, zPp π, D, 147)) rfl trivial ?_
  refine z_ci 55 [vr 130, vi b] [] rfl (m_isOut130_1 hM ob) ?_
  refine z_br ((1 : Int) = 0) 46 44 [] rfl (fun h => absurd h (show ¬ ((1 : Int) = 0) from by decide)) (fun hx4 => ?_)
  refine z_n 1 (45, [(5, vi (I 6 b - I 2 9 * I 2 6)), (4, vi (I 6 a - I 2 9 * I 2 6)), (0, vr 2), (1, vr 130), (2, vi a), (3, vi b)], [vi 3], (I, zPp π, D, 147)) rfl trivial ?_
  first | exact z_ret rfl rfl rfl | exact z_ret rfl (zv1 (by omega)) rfl | (exfalso; omega)
set_option maxRecDepth 20000 in
theorem m_rea130_4 {I : zI} {π : Int → Nat} {D : zD} {a b : Int} (w : zW1 (I 2)) (v : zW2 (I 2) (I 6) (I 8)) (hM : 0 ≤ I 130 2 ∧ I 130 2 ≤ 4) (ha : zIs (I 2) (I 6) a) (hb : zIs (I 2) (I 6) b) (oa : ¬ zOut (I 130 2) (I 132) (I 134) a) (ob : ¬ zOut (I 130 2) (I 132) (I 134) b) (hp : I 6 a ≤ I 6 b) : zMet 16 [vr 2, vr 130, vi a, vi b] (I, zPp π, D, 147) (some (vi 4)) (I, zPp π, D, 147) := by
  have ha2 := ha.2
  have hb2 := hb.2
  have ha0 := ha.1
  have hb0 := hb.1
  refine z_n 2 (2, [(0, vr 2), (1, vr 130), (2, vi a), (3, vi b)], [vi a, vr 2], (I, zPp π, D, 147)) rfl trivial ?_
  refine z_ci 14 [vr 2, vi a] [] rfl (m_startNumber1 w v ha) ?_
  refine z_n 3 (9, [(4, vi (I 6 a - I 2 9 * I 2 6)), (0, vr 2), (1, vr 130), (2, vi a), (3, vi b)], [vi b, vr 2], (I, zPp π, D, 147)) rfl trivial ?_
  refine z_ci 14 [vr 2, vi b] [] rfl (m_startNumber1 w v hb) ?_
  refine z_n 3 (17, [(5, vi (I 6 b - I 2 9 * I 2 6)), (4, vi (I 6 a - I 2 9 * I 2 6)), (0, vr 2), (1, vr 130), (2, vi a), (3, vi b)], [vi (-1), vi (I 6 a - I 2 9 * I 2 6)], (I, zPp π, D, 147)) rfl trivial ?_
  refine z_br ((I 6 a - I 2 9 * I 2 6) = (-1)) 26 20 [] rfl (fun h => absurd h (show ¬ ((I 6 a - I 2 9 * I 2 6) = (-1)) from by omega)) (fun hx1 => ?_)
  refine z_n 2 (23, [(5, vi (I 6 b - I 2 9 * I 2 6)), (4, vi (I 6 a - I 2 9 * I 2 6)), (0, vr 2), (1, vr 130), (2, vi a), (3, vi b)], [vi (-1), vi (I 6 b - I 2 9 * I 2 6)], (I, zPp π, D, 147)) rfl trivial ?_
  refine z_br (¬ (I 6 b - I 2 9 * I 2 6) = (-1)) 28 26 [] rfl (fun hx2 => ?_) (fun h => absurd (show ¬ (I 6 b - I 2 9 * I 2 6) = (-1) from by omega) h)
  refine z_n 2 (30, [(5, vi (I 6 b - I 2 9 * I 2 6)), (4, vi (I 6 a - I 2 9 * I 2 6)), (0, vr 2), (1, vr 130), (2, vi a), (3, vi b)], [vi a, vr 130], (I, zPp π, D, 147)) rfl trivial ?_
  refine z_ci 55 [vr 130, vi a] [] rfl (m_isOut130_0 hM oa) ?_
  refine z_br (¬ (0 : Int) = 0) 44 36 [] rfl (fun h => absurd h (show ¬ (¬ (0 : Int) = 0) from by decide)) (fun hx3 => ?_)
  refine z_n 2 (38, [(5, vi (I 6 b - I 2 9 * I 2 6)), (4, vi (I 6 a - I 2 9 * I 2 6)), (0, vr 2), (1, vr 130), (2, vi a), (3, vi b)], [vi b, vr 130], (I, zPp π, D, 147)) rfl trivial ?_
  refine z_ci 55 [vr 130, vi b] [] rfl (m_isOut130_0 hM ob) ?_
  refine z_br ((0 : Int) = 0) 46 44 [] rfl (fun hx4 => ?_) (fun h => absurd (show (0 : Int) = 0 from by decide) h)
  refine z_n 2 (50, [(5, vi (I 6 b - I 2 9 * I 2 6)), (4, vi (I 6 a - I 2 9 * I 2 6)), (0, vr 2), (1, vr 130), (2, vi a), (3, vi b)], [vi (I 6 b - I 2 9 * I 2 6), vi (I 6 a - I 2 9 * I 2 6)], (I, zPp π, D, 147)) rfl trivial ?_
  refine z_br ((I 6 b - I 2 9 * I 2 6) < (I 6 a - I 2 9 * I 2 6)) 55 53 [] rfl (fun h => absurd h (show ¬ ((I 6 b - I 2 9 * I 2 6) < (I 6 a - I 2 9 * I 2 6)) from by omega)) (fun hx5 => ?_)
  refine z_n 1 (54, [(5, vi (I 6 b - I 2 9 * I 2 6)), (4, vi (I 6 a - I 2 9 * I 2 6)), (0, vr 2), (1, vr 130), (2, vi a), (3, vi b)], [vi 4], (I, zPp π, D, 147)) rfl trivial ?_
  first | exact z_ret rfl rfl rfl | exact z_ret rfl (zv1 (by omega)) rfl | (exfalso; omega)
set_option maxRecDepth 20000 in
theorem m_rea130_l0 {I : zI} {π : Int → Nat} {D : zD} {a b : Int} (w : zW1 (I 2)) (v : zW2 (I 2) (I 6) (I 8)) (hM : 0 ≤ I 130 2 ∧ I 130 2 ≤ 4) (ha : zIs (I 2) (I 6) a) (hb : zIs (I 2) (I 6) b)  : ∀ (n : Nat) (m : Int), I 6 b - I 2 9 * I 2 6 < m → m + n = I 6 a - I 2 9 * I 2 6 → (∀ p, I 6 b < p → p < I 6 a → zOut (I 130 2) (I 132) (I 134) (I 8 p)) → zRuns 16 61 [(6, vi m), (5, vi (I 6 b - I 2 9 * I 2 6)), (4, vi (I 6 a - I 2 9 * I 2 6)), (0, vr 2), (1, vr 130), (2, vi a), (3, vi b)] [] (I, zPp π, D, 147) (some (vi 0)) (I, zPp π, D, 147) := by
  obtain ⟨⟨w1, w2⟩, ⟨w3, w4⟩, ⟨w5, w6⟩, ⟨w7, w8⟩, ⟨w9, w10⟩, w11, ⟨⟨w12, w12b⟩, w12c⟩, ⟨w13, w14⟩, ⟨w15, w16⟩⟩ := id w
  have hb2 := hb.2
  have ha2 := ha.2
  have ha0 := ha.1
  have hb0 := hb.1
  have ha1 := v.2.2 a
  have hb1 := v.2.2 b
  intro n
  induction n with
  | zero =>
    intro m h0 hn hj
    refine z_n 2 (65, [(6, vi m), (5, vi (I 6 b - I 2 9 * I 2 6)), (4, vi (I 6 a - I 2 9 * I 2 6)), (0, vr 2), (1, vr 130), (2, vi a), (3, vi b)], [vi (I 6 a - I 2 9 * I 2 6), vi m], (I, zPp π, D, 147)) rfl trivial ?_
    refine z_br ((I 6 a - I 2 9 * I 2 6) ≤ m) 89 68 [] rfl (fun hx1 => ?_) (fun h => absurd (show (I 6 a - I 2 9 * I 2 6) ≤ m from by omega) h)
    refine z_n 1 (90, [(6, vi m), (5, vi (I 6 b - I 2 9 * I 2 6)), (4, vi (I 6 a - I 2 9 * I 2 6)), (0, vr 2), (1, vr 130), (2, vi a), (3, vi b)], [vi 0], (I, zPp π, D, 147)) rfl trivial ?_
    first | exact z_ret rfl rfl rfl | exact z_ret rfl (zv1 (by omega)) rfl | (exfalso; omega)
  | succ n ih =>
  intro m h0 hn hj
  refine z_n 2 (65, [(6, vi m), (5, vi (I 6 b - I 2 9 * I 2 6)), (4, vi (I 6 a - I 2 9 * I 2 6)), (0, vr 2), (1, vr 130), (2, vi a), (3, vi b)], [vi (I 6 a - I 2 9 * I 2 6), vi m], (I, zPp π, D, 147)) rfl trivial ?_
  refine z_br ((I 6 a - I 2 9 * I 2 6) ≤ m) 89 68 [] rfl (fun h => absurd h (show ¬ ((I 6 a - I 2 9 * I 2 6) ≤ m) from by omega)) (fun hx1 => ?_)
  refine z_n 3 (72, [(6, vi m), (5, vi (I 6 b - I 2 9 * I 2 6)), (4, vi (I 6 a - I 2 9 * I 2 6)), (0, vr 2), (1, vr 130), (2, vi a), (3, vi b)], [vi m, vr 2, vr 130], (I, zPp π, D, 147)) rfl trivial ?_
  refine z_ci 13 [vr 2, vi m] [vr 130] rfl (m_starterAt w (by omega) (by omega)) ?_
  refine z_ci 55 [vr 130, vi (I 8 (I 2 9 * I 2 6 + m))] [] rfl (m_isOut130_1 hM (hj _ (by omega) (by omega))) ?_
  refine z_br (¬ (1 : Int) = 0) 83 81 [] rfl (fun hx2 => ?_) (fun h => absurd (show ¬ (1 : Int) = 0 from by decide) h)
  refine z_n 2 (61, [(6, vi (m + 1)), (5, vi (I 6 b - I 2 9 * I 2 6)), (4, vi (I 6 a - I 2 9 * I 2 6)), (0, vr 2), (1, vr 130), (2, vi a), (3, vi b)], [], (I, zPp π, D, 147)) (G := (zr (m + 1)) ∧ True) rfl ⟨by omega, trivial⟩ ?_
  refine z_sub [(6, vi (m + 1)), (5, vi (I 6 b - I 2 9 * I 2 6)), (4, vi (I 6 a - I 2 9 * I 2 6)), (0, vr 2), (1, vr 130), (2, vi a), (3, vi b)] [0, 1, 2, 3, 4, 5, 6] rfl ?_
  exact ih (m + 1) (by omega) (by omega) hj
set_option maxRecDepth 20000 in
theorem m_rea130_l5 {I : zI} {π : Int → Nat} {D : zD} {a b : Int} (w : zW1 (I 2)) (v : zW2 (I 2) (I 6) (I 8)) (hM : 0 ≤ I 130 2 ∧ I 130 2 ≤ 4) (ha : zIs (I 2) (I 6) a) (hb : zIs (I 2) (I 6) b)  : ∀ (n : Nat) (m : Int), I 6 b - I 2 9 * I 2 6 < m → m + n = I 6 a - I 2 9 * I 2 6 → (∃ p, I 2 9 * I 2 6 + m ≤ p ∧ p < I 6 a ∧ ¬ zOut (I 130 2) (I 132) (I 134) (I 8 p)) → zRuns 16 61 [(6, vi m), (5, vi (I 6 b - I 2 9 * I 2 6)), (4, vi (I 6 a - I 2 9 * I 2 6)), (0, vr 2), (1, vr 130), (2, vi a), (3, vi b)] [] (I, zPp π, D, 147) (some (vi 5)) (I, zPp π, D, 147) := by
  obtain ⟨⟨w1, w2⟩, ⟨w3, w4⟩, ⟨w5, w6⟩, ⟨w7, w8⟩, ⟨w9, w10⟩, w11, ⟨⟨w12, w12b⟩, w12c⟩, ⟨w13, w14⟩, ⟨w15, w16⟩⟩ := id w
  have hb2 := hb.2
  have ha2 := ha.2
  have ha0 := ha.1
  have hb0 := hb.1
  have ha1 := v.2.2 a
  have hb1 := v.2.2 b
  intro n
  induction n with
  | zero => intro m h0 hn hj; obtain ⟨j, a1, a2, a3⟩ := hj; exfalso; omega
  | succ n ih =>
  intro m h0 hn hj
  refine z_n 2 (65, [(6, vi m), (5, vi (I 6 b - I 2 9 * I 2 6)), (4, vi (I 6 a - I 2 9 * I 2 6)), (0, vr 2), (1, vr 130), (2, vi a), (3, vi b)], [vi (I 6 a - I 2 9 * I 2 6), vi m], (I, zPp π, D, 147)) rfl trivial ?_
  refine z_br ((I 6 a - I 2 9 * I 2 6) ≤ m) 89 68 [] rfl (fun h => absurd h (show ¬ ((I 6 a - I 2 9 * I 2 6) ≤ m) from by omega)) (fun hx1 => ?_)
  refine z_n 3 (72, [(6, vi m), (5, vi (I 6 b - I 2 9 * I 2 6)), (4, vi (I 6 a - I 2 9 * I 2 6)), (0, vr 2), (1, vr 130), (2, vi a), (3, vi b)], [vi m, vr 2, vr 130], (I, zPp π, D, 147)) rfl trivial ?_
  refine z_ci 13 [vr 2, vi m] [vr 130] rfl (m_starterAt w (by omega) (by omega)) ?_
  by_cases hx2 : zOut (I 130 2) (I 132) (I 134) (I 8 (I 2 9 * I 2 6 + m))
  · have h9 := hx2
    refine z_ci 55 [vr 130, vi (I 8 (I 2 9 * I 2 6 + m))] [] rfl (m_isOut130_1 hM hx2) ?_
    refine z_br (¬ (1 : Int) = 0) 83 81 [] rfl (fun hx3 => ?_) (fun h => absurd (show ¬ (1 : Int) = 0 from by decide) h)
    refine z_n 2 (61, [(6, vi (m + 1)), (5, vi (I 6 b - I 2 9 * I 2 6)), (4, vi (I 6 a - I 2 9 * I 2 6)), (0, vr 2), (1, vr 130), (2, vi a), (3, vi b)], [], (I, zPp π, D, 147)) (G := (zr (m + 1)) ∧ True) rfl ⟨by omega, trivial⟩ ?_
    refine z_sub [(6, vi (m + 1)), (5, vi (I 6 b - I 2 9 * I 2 6)), (4, vi (I 6 a - I 2 9 * I 2 6)), (0, vr 2), (1, vr 130), (2, vi a), (3, vi b)] [0, 1, 2, 3, 4, 5, 6] rfl ?_
    exact ih (m + 1) (by omega) (by omega) (by obtain ⟨j, a1, a2, a3⟩ := hj; refine ⟨j, ?_, a2, a3⟩; rcases Int.lt_or_lt_of_ne (show j ≠ I 2 9 * I 2 6 + m by rintro rfl; exact a3 h9) with a | a <;> omega)
  · refine z_ci 55 [vr 130, vi (I 8 (I 2 9 * I 2 6 + m))] [] rfl (m_isOut130_0 hM hx2) ?_
    refine z_br (¬ (0 : Int) = 0) 83 81 [] rfl (fun h => absurd h (show ¬ (¬ (0 : Int) = 0) from by decide)) (fun hx4 => ?_)
    refine z_n 1 (82, [(6, vi m), (5, vi (I 6 b - I 2 9 * I 2 6)), (4, vi (I 6 a - I 2 9 * I 2 6)), (0, vr 2), (1, vr 130), (2, vi a), (3, vi b)], [vi 5], (I, zPp π, D, 147)) rfl trivial ?_
    first | exact z_ret rfl rfl rfl | exact z_ret rfl (zv1 (by omega)) rfl | (exfalso; omega)
set_option maxRecDepth 20000 in
theorem m_rea130_5 {I : zI} {π : Int → Nat} {D : zD} {a b : Int} (w : zW1 (I 2)) (v : zW2 (I 2) (I 6) (I 8)) (hM : 0 ≤ I 130 2 ∧ I 130 2 ≤ 4) (ha : zIs (I 2) (I 6) a) (hb : zIs (I 2) (I 6) b) (oa : ¬ zOut (I 130 2) (I 132) (I 134) a) (ob : ¬ zOut (I 130 2) (I 132) (I 134) b) (hp : I 6 b < I 6 a) (hj : ∃ p, I 6 b < p ∧ p < I 6 a ∧ ¬ zOut (I 130 2) (I 132) (I 134) (I 8 p)) : zMet 16 [vr 2, vr 130, vi a, vi b] (I, zPp π, D, 147) (some (vi 5)) (I, zPp π, D, 147) := by
  have ha2 := ha.2
  have hb2 := hb.2
  have ha0 := ha.1
  have hb0 := hb.1
  obtain ⟨⟨w1, w2⟩, ⟨w3, w4⟩, ⟨w5, w6⟩, ⟨w7, w8⟩, ⟨w9, w10⟩, w11, ⟨⟨w12, w12b⟩, w12c⟩, ⟨w13, w14⟩, ⟨w15, w16⟩⟩ := id w
  have v1 := v.2.2 b hb.1.1 (by omega)
  refine z_n 2 (2, [(0, vr 2), (1, vr 130), (2, vi a), (3, vi b)], [vi a, vr 2], (I, zPp π, D, 147)) rfl trivial ?_
  refine z_ci 14 [vr 2, vi a] [] rfl (m_startNumber1 w v ha) ?_
  refine z_n 3 (9, [(4, vi (I 6 a - I 2 9 * I 2 6)), (0, vr 2), (1, vr 130), (2, vi a), (3, vi b)], [vi b, vr 2], (I, zPp π, D, 147)) rfl trivial ?_
  refine z_ci 14 [vr 2, vi b] [] rfl (m_startNumber1 w v hb) ?_
  refine z_n 3 (17, [(5, vi (I 6 b - I 2 9 * I 2 6)), (4, vi (I 6 a - I 2 9 * I 2 6)), (0, vr 2), (1, vr 130), (2, vi a), (3, vi b)], [vi (-1), vi (I 6 a - I 2 9 * I 2 6)], (I, zPp π, D, 147)) rfl trivial ?_
  refine z_br ((I 6 a - I 2 9 * I 2 6) = (-1)) 26 20 [] rfl (fun h => absurd h (show ¬ ((I 6 a - I 2 9 * I 2 6) = (-1)) from by omega)) (fun hx1 => ?_)
  refine z_n 2 (23, [(5, vi (I 6 b - I 2 9 * I 2 6)), (4, vi (I 6 a - I 2 9 * I 2 6)), (0, vr 2), (1, vr 130), (2, vi a), (3, vi b)], [vi (-1), vi (I 6 b - I 2 9 * I 2 6)], (I, zPp π, D, 147)) rfl trivial ?_
  refine z_br (¬ (I 6 b - I 2 9 * I 2 6) = (-1)) 28 26 [] rfl (fun hx2 => ?_) (fun h => absurd (show ¬ (I 6 b - I 2 9 * I 2 6) = (-1) from by omega) h)
  refine z_n 2 (30, [(5, vi (I 6 b - I 2 9 * I 2 6)), (4, vi (I 6 a - I 2 9 * I 2 6)), (0, vr 2), (1, vr 130), (2, vi a), (3, vi b)], [vi a, vr 130], (I, zPp π, D, 147)) rfl trivial ?_
  refine z_ci 55 [vr 130, vi a] [] rfl (m_isOut130_0 hM oa) ?_
  refine z_br (¬ (0 : Int) = 0) 44 36 [] rfl (fun h => absurd h (show ¬ (¬ (0 : Int) = 0) from by decide)) (fun hx3 => ?_)
  refine z_n 2 (38, [(5, vi (I 6 b - I 2 9 * I 2 6)), (4, vi (I 6 a - I 2 9 * I 2 6)), (0, vr 2), (1, vr 130), (2, vi a), (3, vi b)], [vi b, vr 130], (I, zPp π, D, 147)) rfl trivial ?_
  refine z_ci 55 [vr 130, vi b] [] rfl (m_isOut130_0 hM ob) ?_
  refine z_br ((0 : Int) = 0) 46 44 [] rfl (fun hx4 => ?_) (fun h => absurd (show (0 : Int) = 0 from by decide) h)
  refine z_n 2 (50, [(5, vi (I 6 b - I 2 9 * I 2 6)), (4, vi (I 6 a - I 2 9 * I 2 6)), (0, vr 2), (1, vr 130), (2, vi a), (3, vi b)], [vi (I 6 b - I 2 9 * I 2 6), vi (I 6 a - I 2 9 * I 2 6)], (I, zPp π, D, 147)) rfl trivial ?_
  refine z_br ((I 6 b - I 2 9 * I 2 6) < (I 6 a - I 2 9 * I 2 6)) 55 53 [] rfl (fun hx5 => ?_) (fun h => absurd (show (I 6 b - I 2 9 * I 2 6) < (I 6 a - I 2 9 * I 2 6) from by omega) h)
  refine z_n 4 (61, [(6, vi ((I 6 b - I 2 9 * I 2 6) + 1)), (5, vi (I 6 b - I 2 9 * I 2 6)), (4, vi (I 6 a - I 2 9 * I 2 6)), (0, vr 2), (1, vr 130), (2, vi a), (3, vi b)], [], (I, zPp π, D, 147)) (G := (zr ((I 6 b - I 2 9 * I 2 6) + 1)) ∧ True) rfl ⟨by omega, trivial⟩ ?_
  refine z_sub [(6, vi ((I 6 b - I 2 9 * I 2 6) + 1)), (5, vi (I 6 b - I 2 9 * I 2 6)), (4, vi (I 6 a - I 2 9 * I 2 6)), (0, vr 2), (1, vr 130), (2, vi a), (3, vi b)] [0, 1, 2, 3, 4, 5, 6] rfl ?_
  exact m_rea130_l5 w v hM ha hb (I 6 a - I 6 b - 1).toNat _ (by omega) (by omega) (by obtain ⟨j, a1, a2, a3⟩ := hj; exact ⟨j, by omega, a2, a3⟩)
set_option maxRecDepth 20000 in
theorem m_rea130_0 {I : zI} {π : Int → Nat} {D : zD} {a b : Int} (w : zW1 (I 2)) (v : zW2 (I 2) (I 6) (I 8)) (hM : 0 ≤ I 130 2 ∧ I 130 2 ≤ 4) (ha : zIs (I 2) (I 6) a) (hb : zIs (I 2) (I 6) b) (oa : ¬ zOut (I 130 2) (I 132) (I 134) a) (ob : ¬ zOut (I 130 2) (I 132) (I 134) b) (hp : I 6 b < I 6 a) (hj : ∀ p, I 6 b < p → p < I 6 a → zOut (I 130 2) (I 132) (I 134) (I 8 p)) : zMet 16 [vr 2, vr 130, vi a, vi b] (I, zPp π, D, 147) (some (vi 0)) (I, zPp π, D, 147) := by
  have ha2 := ha.2
  have hb2 := hb.2
  have ha0 := ha.1
  have hb0 := hb.1
  obtain ⟨⟨w1, w2⟩, ⟨w3, w4⟩, ⟨w5, w6⟩, ⟨w7, w8⟩, ⟨w9, w10⟩, w11, ⟨⟨w12, w12b⟩, w12c⟩, ⟨w13, w14⟩, ⟨w15, w16⟩⟩ := id w
  have v1 := v.2.2 b hb.1.1 (by omega)
  refine z_n 2 (2, [(0, vr 2), (1, vr 130), (2, vi a), (3, vi b)], [vi a, vr 2], (I, zPp π, D, 147)) rfl trivial ?_
  refine z_ci 14 [vr 2, vi a] [] rfl (m_startNumber1 w v ha) ?_
  refine z_n 3 (9, [(4, vi (I 6 a - I 2 9 * I 2 6)), (0, vr 2), (1, vr 130), (2, vi a), (3, vi b)], [vi b, vr 2], (I, zPp π, D, 147)) rfl trivial ?_
  refine z_ci 14 [vr 2, vi b] [] rfl (m_startNumber1 w v hb) ?_
  refine z_n 3 (17, [(5, vi (I 6 b - I 2 9 * I 2 6)), (4, vi (I 6 a - I 2 9 * I 2 6)), (0, vr 2), (1, vr 130), (2, vi a), (3, vi b)], [vi (-1), vi (I 6 a - I 2 9 * I 2 6)], (I, zPp π, D, 147)) rfl trivial ?_
  refine z_br ((I 6 a - I 2 9 * I 2 6) = (-1)) 26 20 [] rfl (fun h => absurd h (show ¬ ((I 6 a - I 2 9 * I 2 6) = (-1)) from by omega)) (fun hx1 => ?_)
  refine z_n 2 (23, [(5, vi (I 6 b - I 2 9 * I 2 6)), (4, vi (I 6 a - I 2 9 * I 2 6)), (0, vr 2), (1, vr 130), (2, vi a), (3, vi b)], [vi (-1), vi (I 6 b - I 2 9 * I 2 6)], (I, zPp π, D, 147)) rfl trivial ?_
  refine z_br (¬ (I 6 b - I 2 9 * I 2 6) = (-1)) 28 26 [] rfl (fun hx2 => ?_) (fun h => absurd (show ¬ (I 6 b - I 2 9 * I 2 6) = (-1) from by omega) h)
  refine z_n 2 (30, [(5, vi (I 6 b - I 2 9 * I 2 6)), (4, vi (I 6 a - I 2 9 * I 2 6)), (0, vr 2), (1, vr 130), (2, vi a), (3, vi b)], [vi a, vr 130], (I, zPp π, D, 147)) rfl trivial ?_
  refine z_ci 55 [vr 130, vi a] [] rfl (m_isOut130_0 hM oa) ?_
  refine z_br (¬ (0 : Int) = 0) 44 36 [] rfl (fun h => absurd h (show ¬ (¬ (0 : Int) = 0) from by decide)) (fun hx3 => ?_)
  refine z_n 2 (38, [(5, vi (I 6 b - I 2 9 * I 2 6)), (4, vi (I 6 a - I 2 9 * I 2 6)), (0, vr 2), (1, vr 130), (2, vi a), (3, vi b)], [vi b, vr 130], (I, zPp π, D, 147)) rfl trivial ?_
  refine z_ci 55 [vr 130, vi b] [] rfl (m_isOut130_0 hM ob) ?_
  refine z_br ((0 : Int) = 0) 46 44 [] rfl (fun hx4 => ?_) (fun h => absurd (show (0 : Int) = 0 from by decide) h)
  refine z_n 2 (50, [(5, vi (I 6 b - I 2 9 * I 2 6)), (4, vi (I 6 a - I 2 9 * I 2 6)), (0, vr 2), (1, vr 130), (2, vi a), (3, vi b)], [vi (I 6 b - I 2 9 * I 2 6), vi (I 6 a - I 2 9 * I 2 6)], (I, zPp π, D, 147)) rfl trivial ?_
  refine z_br ((I 6 b - I 2 9 * I 2 6) < (I 6 a - I 2 9 * I 2 6)) 55 53 [] rfl (fun hx5 => ?_) (fun h => absurd (show (I 6 b - I 2 9 * I 2 6) < (I 6 a - I 2 9 * I 2 6) from by omega) h)
  refine z_n 4 (61, [(6, vi ((I 6 b - I 2 9 * I 2 6) + 1)), (5, vi (I 6 b - I 2 9 * I 2 6)), (4, vi (I 6 a - I 2 9 * I 2 6)), (0, vr 2), (1, vr 130), (2, vi a), (3, vi b)], [], (I, zPp π, D, 147)) (G := (zr ((I 6 b - I 2 9 * I 2 6) + 1)) ∧ True) rfl ⟨by omega, trivial⟩ ?_
  refine z_sub [(6, vi ((I 6 b - I 2 9 * I 2 6) + 1)), (5, vi (I 6 b - I 2 9 * I 2 6)), (4, vi (I 6 a - I 2 9 * I 2 6)), (0, vr 2), (1, vr 130), (2, vi a), (3, vi b)] [0, 1, 2, 3, 4, 5, 6] rfl ?_
  exact m_rea130_l0 w v hM ha hb (I 6 a - I 6 b - 1).toNat _ (by omega) (by omega) hj
theorem m_rea130 {I : zI} {π : Int → Nat} {D : zD} {a b : Int} (w : zW1 (I 2)) (v : zW2 (I 2) (I 6) (I 8)) (hM : 0 ≤ I 130 2 ∧ I 130 2 ≤ 4) : ∃ res : Int, zMet 16 [vr 2, vr 130, vi a, vi b] (I, zPp π, D, 147) (some (vi res)) (I, zPp π, D, 147) ∧ zReas (I 2) (I 6) (I 8) (I 130 2) (I 132) (I 134) a b res := by
  by_cases ha : zIs (I 2) (I 6) a
  · by_cases hb : zIs (I 2) (I 6) b
    · by_cases oa : zOut (I 130 2) (I 132) (I 134) a
      · exact ⟨3, m_rea130_3a w v hM ha hb oa, Or.inr ⟨ha, hb, Or.inl ⟨rfl, Or.inl oa⟩⟩⟩
      · by_cases ob : zOut (I 130 2) (I 132) (I 134) b
        · exact ⟨3, m_rea130_3b w v hM ha hb oa ob, Or.inr ⟨ha, hb, Or.inl ⟨rfl, Or.inr ob⟩⟩⟩
        · by_cases hp : I 6 a ≤ I 6 b
          · exact ⟨4, m_rea130_4 w v hM ha hb oa ob hp, Or.inr ⟨ha, hb, Or.inr ⟨oa, ob, Or.inl ⟨rfl, hp⟩⟩⟩⟩
          · by_cases hj : ∃ p, I 6 b < p ∧ p < I 6 a ∧ ¬ zOut (I 130 2) (I 132) (I 134) (I 8 p)
            · exact ⟨5, m_rea130_5 w v hM ha hb oa ob (by omega) hj, Or.inr ⟨ha, hb, Or.inr ⟨oa, ob, Or.inr ⟨by omega, Or.inl ⟨rfl, hj⟩⟩⟩⟩⟩
            · have hk : ∀ p, I 6 b < p → p < I 6 a → zOut (I 130 2) (I 132) (I 134) (I 8 p) := fun p h1 h2 => Classical.byContradiction (fun h3 => hj ⟨p, h1, h2, h3⟩)
              exact ⟨0, m_rea130_0 w v hM ha hb oa ob (by omega) hk, Or.inr ⟨ha, hb, Or.inr ⟨oa, ob, Or.inr ⟨by omega, Or.inr ⟨rfl, hk⟩⟩⟩⟩⟩
    · exact ⟨2, m_rea130_2b w v ha hb, Or.inl ⟨rfl, fun h => hb h.2⟩⟩
  · exact ⟨2, m_rea130_2a w v ha, Or.inl ⟨rfl, fun h => ha h.1⟩⟩
end
section
set_option maxRecDepth 20000 in
theorem m_cnt17_l {I : zI} {π : Int → Nat} {D : zD} {c : Int} (hl : 0 ≤ I 14 4 ∧ I 14 4 ≤ 96) : ∀ (n : Nat) (k : Int), 0 ≤ k → k + n = I 14 4 → zRuns 49 5 [(4, vi k), (3, vi (zcnt (I 18) c k.toNat)), (0, vr 14), (1, vr 17), (2, vi c)] [] (I, zPp π, D, 147) (some (vi (zcnt (I 18) c (I 14 4).toNat))) (I, zPp π, D, 147) := by
  intro n
  induction n with
  | zero =>
    intro k h0 hn; have hb := zcnt_b (f := I 18) (c := c) k.toNat
    refine z_n 3 (11, [(4, vi k), (3, vi (zcnt (I 18) c k.toNat)), (0, vr 14), (1, vr 17), (2, vi c)], [vi (I 14 4), vi k], (I, zPp π, D, 147)) rfl trivial ?_
    refine z_br ((I 14 4) ≤ k) 38 14 [] rfl (fun hx1 => ?_) (fun h => absurd (show (I 14 4) ≤ k from by omega) h)
    refine z_n 1 (39, [(4, vi k), (3, vi (zcnt (I 18) c k.toNat)), (0, vr 14), (1, vr 17), (2, vi c)], [vi (zcnt (I 18) c k.toNat)], (I, zPp π, D, 147)) rfl trivial ?_
    exact z_ret rfl (zv1 (by rw [show k = I 14 4 by omega])) rfl
  | succ n ih =>
  intro k h0 hn; have hb := zcnt_b (f := I 18) (c := c) k.toNat
  refine z_n 3 (11, [(4, vi k), (3, vi (zcnt (I 18) c k.toNat)), (0, vr 14), (1, vr 17), (2, vi c)], [vi (I 14 4), vi k], (I, zPp π, D, 147)) rfl trivial ?_
  refine z_br ((I 14 4) ≤ k) 38 14 [] rfl (fun h => absurd h (show ¬ ((I 14 4) ≤ k) from by omega)) (fun hx1 => ?_)
  refine z_n 3 (18, [(4, vi k), (3, vi (zcnt (I 18) c k.toNat)), (0, vr 14), (1, vr 17), (2, vi c)], [vi k, vr 17, vi (zcnt (I 18) c k.toNat)], (I, zPp π, D, 147)) rfl trivial ?_
  refine z_ci 1 [vr 17, vi k] [vi (zcnt (I 18) c k.toNat)] rfl (m_get (n := 96) ⟨rfl, rfl, rfl, rfl⟩ (by omega) (by omega)) ?_
  refine z_n 1 (22, [(4, vi k), (3, vi (zcnt (I 18) c k.toNat)), (0, vr 14), (1, vr 17), (2, vi c)], [vi c, vi (I 18 k), vi (zcnt (I 18) c k.toNat)], (I, zPp π, D, 147)) rfl trivial ?_
  refine z_br (¬ (I 18 k) = c) 29 25 [vi (zcnt (I 18) c k.toNat)] rfl (fun hx2 => ?_) (fun hx2 => ?_)
  · refine z_n 5 (5, [(4, vi (k + 1)), (3, vi ((zcnt (I 18) c k.toNat) + 0)), (0, vr 14), (1, vr 17), (2, vi c)], [], (I, zPp π, D, 147)) (G := (zr ((zcnt (I 18) c k.toNat) + 0)) ∧ (zr (k + 1)) ∧ True) rfl ⟨by omega, by omega, trivial⟩ ?_
    refine z_sub [(4, vi (k + 1)), (3, vi ((zcnt (I 18) c k.toNat) + 0)), (0, vr 14), (1, vr 17), (2, vi c)] [0, 1, 2, 3, 4] rfl ?_
    refine z_lk (L1 := [(4, vi (k + 1)), (3, vi (zcnt (I 18) c (k + 1).toNat)), (0, vr 14), (1, vr 17), (2, vi c)]) (by rw [zcnt_s h0]; first | rw [if_pos (by omega)] | rw [if_neg (by omega)]) ?_
    exact ih (k + 1) (by omega) (by omega)
  · refine z_n 6 (5, [(4, vi (k + 1)), (3, vi ((zcnt (I 18) c k.toNat) + 1)), (0, vr 14), (1, vr 17), (2, vi c)], [], (I, zPp π, D, 147)) (G := (zr ((zcnt (I 18) c k.toNat) + 1)) ∧ (zr (k + 1)) ∧ True) rfl ⟨by omega, by omega, trivial⟩ ?_
    refine z_sub [(4, vi (k + 1)), (3, vi ((zcnt (I 18) c k.toNat) + 1)), (0, vr 14), (1, vr 17), (2, vi c)] [0, 1, 2, 3, 4] rfl ?_
    refine z_lk (L1 := [(4, vi (k + 1)), (3, vi (zcnt (I 18) c (k + 1).toNat)), (0, vr 14), (1, vr 17), (2, vi c)]) (by rw [zcnt_s h0]; first | rw [if_pos (by omega)] | rw [if_neg (by omega)]) ?_
    exact ih (k + 1) (by omega) (by omega)
set_option maxRecDepth 20000 in
theorem m_cnt17 {I : zI} {π : Int → Nat} {D : zD} {c : Int} (hl : 0 ≤ I 14 4 ∧ I 14 4 ≤ 96) : zMet 49 [vr 14, vr 17, vi c] (I, zPp π, D, 147) (some (vi (zcnt (I 18) c (I 14 4).toNat))) (I, zPp π, D, 147) := by
  refine z_n 4 (5, [(4, vi 0), (3, vi 0), (0, vr 14), (1, vr 17), (2, vi c)], [], (I, zPp π, D, 147)) rfl trivial ?_
  refine z_sub [(4, vi 0), (3, vi 0), (0, vr 14), (1, vr 17), (2, vi c)] [0, 1, 2, 3, 4] rfl ?_
  exact m_cnt17_l hl (I 14 4).toNat 0 (by omega) (by omega)
set_option maxRecDepth 20000 in
theorem m_cnt19_l {I : zI} {π : Int → Nat} {D : zD} {c : Int} (hl : 0 ≤ I 14 4 ∧ I 14 4 ≤ 96) : ∀ (n : Nat) (k : Int), 0 ≤ k → k + n = I 14 4 → zRuns 49 5 [(4, vi k), (3, vi (zcnt (I 20) c k.toNat)), (0, vr 14), (1, vr 19), (2, vi c)] [] (I, zPp π, D, 147) (some (vi (zcnt (I 20) c (I 14 4).toNat))) (I, zPp π, D, 147) := by
  intro n
  induction n with
  | zero =>
    intro k h0 hn; have hb := zcnt_b (f := I 20) (c := c) k.toNat
    refine z_n 3 (11, [(4, vi k), (3, vi (zcnt (I 20) c k.toNat)), (0, vr 14), (1, vr 19), (2, vi c)], [vi (I 14 4), vi k], (I, zPp π, D, 147)) rfl trivial ?_
    refine z_br ((I 14 4) ≤ k) 38 14 [] rfl (fun hx1 => ?_) (fun h => absurd (show (I 14 4) ≤ k from by omega) h)
    refine z_n 1 (39, [(4, vi k), (3, vi (zcnt (I 20) c k.toNat)), (0, vr 14), (1, vr 19), (2, vi c)], [vi (zcnt (I 20) c k.toNat)], (I, zPp π, D, 147)) rfl trivial ?_
    exact z_ret rfl (zv1 (by rw [show k = I 14 4 by omega])) rfl
  | succ n ih =>
  intro k h0 hn; have hb := zcnt_b (f := I 20) (c := c) k.toNat
  refine z_n 3 (11, [(4, vi k), (3, vi (zcnt (I 20) c k.toNat)), (0, vr 14), (1, vr 19), (2, vi c)], [vi (I 14 4), vi k], (I, zPp π, D, 147)) rfl trivial ?_
  refine z_br ((I 14 4) ≤ k) 38 14 [] rfl (fun h => absurd h (show ¬ ((I 14 4) ≤ k) from by omega)) (fun hx1 => ?_)
  refine z_n 3 (18, [(4, vi k), (3, vi (zcnt (I 20) c k.toNat)), (0, vr 14), (1, vr 19), (2, vi c)], [vi k, vr 19, vi (zcnt (I 20) c k.toNat)], (I, zPp π, D, 147)) rfl trivial ?_
  refine z_ci 1 [vr 19, vi k] [vi (zcnt (I 20) c k.toNat)] rfl (m_get (n := 96) ⟨rfl, rfl, rfl, rfl⟩ (by omega) (by omega)) ?_
  refine z_n 1 (22, [(4, vi k), (3, vi (zcnt (I 20) c k.toNat)), (0, vr 14), (1, vr 19), (2, vi c)], [vi c, vi (I 20 k), vi (zcnt (I 20) c k.toNat)], (I, zPp π, D, 147)) rfl trivial ?_
  refine z_br (¬ (I 20 k) = c) 29 25 [vi (zcnt (I 20) c k.toNat)] rfl (fun hx2 => ?_) (fun hx2 => ?_)
  · refine z_n 5 (5, [(4, vi (k + 1)), (3, vi ((zcnt (I 20) c k.toNat) + 0)), (0, vr 14), (1, vr 19), (2, vi c)], [], (I, zPp π, D, 147)) (G := (zr ((zcnt (I 20) c k.toNat) + 0)) ∧ (zr (k + 1)) ∧ True) rfl ⟨by omega, by omega, trivial⟩ ?_
    refine z_sub [(4, vi (k + 1)), (3, vi ((zcnt (I 20) c k.toNat) + 0)), (0, vr 14), (1, vr 19), (2, vi c)] [0, 1, 2, 3, 4] rfl ?_
    refine z_lk (L1 := [(4, vi (k + 1)), (3, vi (zcnt (I 20) c (k + 1).toNat)), (0, vr 14), (1, vr 19), (2, vi c)]) (by rw [zcnt_s h0]; first | rw [if_pos (by omega)] | rw [if_neg (by omega)]) ?_
    exact ih (k + 1) (by omega) (by omega)
  · refine z_n 6 (5, [(4, vi (k + 1)), (3, vi ((zcnt (I 20) c k.toNat) + 1)), (0, vr 14), (1, vr 19), (2, vi c)], [], (I, zPp π, D, 147)) (G := (zr ((zcnt (I 20) c k.toNat) + 1)) ∧ (zr (k + 1)) ∧ True) rfl ⟨by omega, by omega, trivial⟩ ?_
    refine z_sub [(4, vi (k + 1)), (3, vi ((zcnt (I 20) c k.toNat) + 1)), (0, vr 14), (1, vr 19), (2, vi c)] [0, 1, 2, 3, 4] rfl ?_
    refine z_lk (L1 := [(4, vi (k + 1)), (3, vi (zcnt (I 20) c (k + 1).toNat)), (0, vr 14), (1, vr 19), (2, vi c)]) (by rw [zcnt_s h0]; first | rw [if_pos (by omega)] | rw [if_neg (by omega)]) ?_
    exact ih (k + 1) (by omega) (by omega)
set_option maxRecDepth 20000 in
theorem m_cnt19 {I : zI} {π : Int → Nat} {D : zD} {c : Int} (hl : 0 ≤ I 14 4 ∧ I 14 4 ≤ 96) : zMet 49 [vr 14, vr 19, vi c] (I, zPp π, D, 147) (some (vi (zcnt (I 20) c (I 14 4).toNat))) (I, zPp π, D, 147) := by
  refine z_n 4 (5, [(4, vi 0), (3, vi 0), (0, vr 14), (1, vr 19), (2, vi c)], [], (I, zPp π, D, 147)) rfl trivial ?_
  refine z_sub [(4, vi 0), (3, vi 0), (0, vr 14), (1, vr 19), (2, vi c)] [0, 1, 2, 3, 4] rfl ?_
  exact m_cnt19_l hl (I 14 4).toNat 0 (by omega) (by omega)
set_option maxRecDepth 20000 in
theorem m_madeBy {I : zI} {π : Int → Nat} {D : zD} {c : Int} (hl : 0 ≤ I 14 4 ∧ I 14 4 ≤ 96) : zMet 47 [vr 14, vi c] (I, zPp π, D, 147) (some (vi (zcnt (I 18) c (I 14 4).toNat))) (I, zPp π, D, 147) := by
  refine z_n 4 (6, [(0, vr 14), (1, vi c)], [vi c, vr 17, vr 14], (I, zPp π, D, 147)) rfl trivial ?_
  refine z_ci 49 [vr 14, vr 17, vi c] [] rfl (m_cnt17 hl) ?_
  first | exact z_ret rfl rfl rfl | exact z_ret rfl (zv1 (by omega)) rfl | (exfalso; omega)
set_option maxRecDepth 20000 in
theorem m_madeOn {I : zI} {π : Int → Nat} {D : zD} {c : Int} (hl : 0 ≤ I 14 4 ∧ I 14 4 ≤ 96) : zMet 48 [vr 14, vi c] (I, zPp π, D, 147) (some (vi (zcnt (I 20) c (I 14 4).toNat))) (I, zPp π, D, 147) := by
  refine z_n 4 (6, [(0, vr 14), (1, vi c)], [vi c, vr 19, vr 14], (I, zPp π, D, 147)) rfl trivial ?_
  refine z_ci 49 [vr 14, vr 19, vi c] [] rfl (m_cnt19 hl) ?_
  first | exact z_ret rfl rfl rfl | exact z_ret rfl (zv1 (by omega)) rfl | (exfalso; omega)
set_option maxRecDepth 20000 in
theorem m_daysRisen_l {I : zI} {π : Int → Nat} {D : zD} {c : Int} (w : zW1 (I 2)) (h9 : 0 ≤ c) (h10 : c < 24) : ∀ (n : Nat) (k : Int), 0 ≤ k → k + n = I 2 8 → zRuns 27 4 [(3, vi (k + 1)), (2, vi (zris (fun d => I 24 (d * 24 + c)) k.toNat)), (0, vr 2), (1, vi c)] [] (I, zPp π, D, 147) (some (vi (zris (fun d => I 24 (d * 24 + c)) (I 2 8).toNat))) (I, zPp π, D, 147) := by
  obtain ⟨⟨w1, w2⟩, ⟨w3, w4⟩, ⟨w5, w6⟩, ⟨w7, w8⟩, ⟨w9, w10⟩, w11, ⟨⟨w12, w12b⟩, w12c⟩, ⟨w13, w14⟩, ⟨w15, w16⟩⟩ := id w
  intro n
  induction n with
  | zero =>
    intro k h0 hn; have hb := zris_b (g := (fun d => I 24 (d * 24 + c))) k.toNat
    refine z_n 3 (9, [(3, vi (k + 1)), (2, vi (zris (fun d => I 24 (d * 24 + c)) k.toNat)), (0, vr 2), (1, vi c)], [vi (I 2 8), vi (k + 1)], (I, zPp π, D, 147)) rfl trivial ?_
    refine z_br ((I 2 8) < (k + 1)) 43 12 [] rfl (fun hx1 => ?_) (fun h => absurd (show (I 2 8) < (k + 1) from by omega) h)
    refine z_n 1 (44, [(3, vi (k + 1)), (2, vi (zris (fun d => I 24 (d * 24 + c)) k.toNat)), (0, vr 2), (1, vi c)], [vi (zris (fun d => I 24 (d * 24 + c)) k.toNat)], (I, zPp π, D, 147)) rfl trivial ?_
    exact z_ret rfl (zv1 (by rw [show k = I 2 8 by omega])) rfl
  | succ n ih =>
  intro k h0 hn; have hb := zris_b (g := (fun d => I 24 (d * 24 + c))) k.toNat
  refine z_n 3 (9, [(3, vi (k + 1)), (2, vi (zris (fun d => I 24 (d * 24 + c)) k.toNat)), (0, vr 2), (1, vi c)], [vi (I 2 8), vi (k + 1)], (I, zPp π, D, 147)) rfl trivial ?_
  refine z_br ((I 2 8) < (k + 1)) 43 12 [] rfl (fun h => absurd h (show ¬ ((I 2 8) < (k + 1)) from by omega)) (fun hx1 => ?_)
  refine z_n 4 (16, [(3, vi (k + 1)), (2, vi (zris (fun d => I 24 (d * 24 + c)) k.toNat)), (0, vr 2), (1, vi c)], [vi (k + 1), vi c, vr 2, vi (zris (fun d => I 24 (d * 24 + c)) k.toNat)], (I, zPp π, D, 147)) rfl trivial ?_
  refine z_ci 26 [vr 2, vi c, vi (k + 1)] [vi (zris (fun d => I 24 (d * 24 + c)) k.toNat)] rfl (m_placeAfter (by omega) (by omega) (by omega) (by omega)) ?_
  refine z_n 5 (24, [(3, vi (k + 1)), (2, vi (zris (fun d => I 24 (d * 24 + c)) k.toNat)), (0, vr 2), (1, vi c)], [vi ((k + 1) - 1), vi c, vr 2, vi (I 24 ((k + 1) * 24 + c)), vi (zris (fun d => I 24 (d * 24 + c)) k.toNat)], (I, zPp π, D, 147)) (G := (zr ((k + 1) - 1)) ∧ True) rfl ⟨by omega, trivial⟩ ?_
  refine z_ci 26 [vr 2, vi c, vi ((k + 1) - 1)] [vi (I 24 ((k + 1) * 24 + c)), vi (zris (fun d => I 24 (d * 24 + c)) k.toNat)] rfl (m_placeAfter (by omega) (by omega) (by omega) (by omega)) ?_
  refine z_br ((I 24 ((k + 1 - 1) * 24 + c)) ≤ (I 24 ((k + 1) * 24 + c))) 34 30 [vi (zris (fun d => I 24 (d * 24 + c)) k.toNat)] rfl (fun hx2 => ?_) (fun hx2 => ?_)
  · refine z_n 5 (4, [(3, vi ((k + 1) + 1)), (2, vi ((zris (fun d => I 24 (d * 24 + c)) k.toNat) + 0)), (0, vr 2), (1, vi c)], [], (I, zPp π, D, 147)) (G := (zr ((zris (fun d => I 24 (d * 24 + c)) k.toNat) + 0)) ∧ (zr ((k + 1) + 1)) ∧ True) rfl ⟨by omega, by omega, trivial⟩ ?_
    refine z_sub [(3, vi ((k + 1) + 1)), (2, vi ((zris (fun d => I 24 (d * 24 + c)) k.toNat) + 0)), (0, vr 2), (1, vi c)] [0, 1, 2, 3] rfl ?_
    refine z_lk (L1 := [(3, vi ((k + 1) + 1)), (2, vi (zris (fun d => I 24 (d * 24 + c)) (k + 1).toNat)), (0, vr 2), (1, vi c)]) (by rw [zris_s h0]; simp only [show k + 1 - 1 = k by omega] at *; first | rw [if_pos (by omega)] | rw [if_neg (by omega)]) ?_
    exact ih (k + 1) (by omega) (by omega)
  · refine z_n 6 (4, [(3, vi ((k + 1) + 1)), (2, vi ((zris (fun d => I 24 (d * 24 + c)) k.toNat) + 1)), (0, vr 2), (1, vi c)], [], (I, zPp π, D, 147)) (G := (zr ((zris (fun d => I 24 (d * 24 + c)) k.toNat) + 1)) ∧ (zr ((k + 1) + 1)) ∧ True) rfl ⟨by omega, by omega, trivial⟩ ?_
    refine z_sub [(3, vi ((k + 1) + 1)), (2, vi ((zris (fun d => I 24 (d * 24 + c)) k.toNat) + 1)), (0, vr 2), (1, vi c)] [0, 1, 2, 3] rfl ?_
    refine z_lk (L1 := [(3, vi ((k + 1) + 1)), (2, vi (zris (fun d => I 24 (d * 24 + c)) (k + 1).toNat)), (0, vr 2), (1, vi c)]) (by rw [zris_s h0]; simp only [show k + 1 - 1 = k by omega] at *; first | rw [if_pos (by omega)] | rw [if_neg (by omega)]) ?_
    exact ih (k + 1) (by omega) (by omega)
set_option maxRecDepth 20000 in
theorem m_daysRisen {I : zI} {π : Int → Nat} {D : zD} {c : Int} (w : zW1 (I 2)) (h9 : 0 ≤ c) (h10 : c < 24) : zMet 27 [vr 2, vi c] (I, zPp π, D, 147) (some (vi (zris (fun d => I 24 (d * 24 + c)) (I 2 8).toNat))) (I, zPp π, D, 147) := by
  refine z_n 4 (4, [(3, vi 1), (2, vi 0), (0, vr 2), (1, vi c)], [], (I, zPp π, D, 147)) rfl trivial ?_
  refine z_sub [(3, vi 1), (2, vi 0), (0, vr 2), (1, vi c)] [0, 1, 2, 3] rfl ?_
  exact m_daysRisen_l w h9 h10 (I 2 8).toNat 0 (by omega) (by have := w.2.2.2.1; omega)
set_option maxRecDepth 20000 in
theorem m_daysFallen_l {I : zI} {π : Int → Nat} {D : zD} {c : Int} (w : zW1 (I 2)) (h9 : 0 ≤ c) (h10 : c < 24) : ∀ (n : Nat) (k : Int), 0 ≤ k → k + n = I 2 8 → zRuns 28 4 [(3, vi (k + 1)), (2, vi (zfal (fun d => I 24 (d * 24 + c)) k.toNat)), (0, vr 2), (1, vi c)] [] (I, zPp π, D, 147) (some (vi (zfal (fun d => I 24 (d * 24 + c)) (I 2 8).toNat))) (I, zPp π, D, 147) := by
  obtain ⟨⟨w1, w2⟩, ⟨w3, w4⟩, ⟨w5, w6⟩, ⟨w7, w8⟩, ⟨w9, w10⟩, w11, ⟨⟨w12, w12b⟩, w12c⟩, ⟨w13, w14⟩, ⟨w15, w16⟩⟩ := id w
  intro n
  induction n with
  | zero =>
    intro k h0 hn; have hb := zfal_b (g := (fun d => I 24 (d * 24 + c))) k.toNat
    refine z_n 3 (9, [(3, vi (k + 1)), (2, vi (zfal (fun d => I 24 (d * 24 + c)) k.toNat)), (0, vr 2), (1, vi c)], [vi (I 2 8), vi (k + 1)], (I, zPp π, D, 147)) rfl trivial ?_
    refine z_br ((I 2 8) < (k + 1)) 43 12 [] rfl (fun hx1 => ?_) (fun h => absurd (show (I 2 8) < (k + 1) from by omega) h)
    refine z_n 1 (44, [(3, vi (k + 1)), (2, vi (zfal (fun d => I 24 (d * 24 + c)) k.toNat)), (0, vr 2), (1, vi c)], [vi (zfal (fun d => I 24 (d * 24 + c)) k.toNat)], (I, zPp π, D, 147)) rfl trivial ?_
    exact z_ret rfl (zv1 (by rw [show k = I 2 8 by omega])) rfl
  | succ n ih =>
  intro k h0 hn; have hb := zfal_b (g := (fun d => I 24 (d * 24 + c))) k.toNat
  refine z_n 3 (9, [(3, vi (k + 1)), (2, vi (zfal (fun d => I 24 (d * 24 + c)) k.toNat)), (0, vr 2), (1, vi c)], [vi (I 2 8), vi (k + 1)], (I, zPp π, D, 147)) rfl trivial ?_
  refine z_br ((I 2 8) < (k + 1)) 43 12 [] rfl (fun h => absurd h (show ¬ ((I 2 8) < (k + 1)) from by omega)) (fun hx1 => ?_)
  refine z_n 4 (16, [(3, vi (k + 1)), (2, vi (zfal (fun d => I 24 (d * 24 + c)) k.toNat)), (0, vr 2), (1, vi c)], [vi (k + 1), vi c, vr 2, vi (zfal (fun d => I 24 (d * 24 + c)) k.toNat)], (I, zPp π, D, 147)) rfl trivial ?_
  refine z_ci 26 [vr 2, vi c, vi (k + 1)] [vi (zfal (fun d => I 24 (d * 24 + c)) k.toNat)] rfl (m_placeAfter (by omega) (by omega) (by omega) (by omega)) ?_
  refine z_n 5 (24, [(3, vi (k + 1)), (2, vi (zfal (fun d => I 24 (d * 24 + c)) k.toNat)), (0, vr 2), (1, vi c)], [vi ((k + 1) - 1), vi c, vr 2, vi (I 24 ((k + 1) * 24 + c)), vi (zfal (fun d => I 24 (d * 24 + c)) k.toNat)], (I, zPp π, D, 147)) (G := (zr ((k + 1) - 1)) ∧ True) rfl ⟨by omega, trivial⟩ ?_
  refine z_ci 26 [vr 2, vi c, vi ((k + 1) - 1)] [vi (I 24 ((k + 1) * 24 + c)), vi (zfal (fun d => I 24 (d * 24 + c)) k.toNat)] rfl (m_placeAfter (by omega) (by omega) (by omega) (by omega)) ?_
  refine z_br ((I 24 ((k + 1) * 24 + c)) ≤ (I 24 ((k + 1 - 1) * 24 + c))) 34 30 [vi (zfal (fun d => I 24 (d * 24 + c)) k.toNat)] rfl (fun hx2 => ?_) (fun hx2 => ?_)
  · refine z_n 5 (4, [(3, vi ((k + 1) + 1)), (2, vi ((zfal (fun d => I 24 (d * 24 + c)) k.toNat) + 0)), (0, vr 2), (1, vi c)], [], (I, zPp π, D, 147)) (G := (zr ((zfal (fun d => I 24 (d * 24 + c)) k.toNat) + 0)) ∧ (zr ((k + 1) + 1)) ∧ True) rfl ⟨by omega, by omega, trivial⟩ ?_
    refine z_sub [(3, vi ((k + 1) + 1)), (2, vi ((zfal (fun d => I 24 (d * 24 + c)) k.toNat) + 0)), (0, vr 2), (1, vi c)] [0, 1, 2, 3] rfl ?_
    refine z_lk (L1 := [(3, vi ((k + 1) + 1)), (2, vi (zfal (fun d => I 24 (d * 24 + c)) (k + 1).toNat)), (0, vr 2), (1, vi c)]) (by rw [zfal_s h0]; simp only [show k + 1 - 1 = k by omega] at *; first | rw [if_pos (by omega)] | rw [if_neg (by omega)]) ?_
    exact ih (k + 1) (by omega) (by omega)
  · refine z_n 6 (4, [(3, vi ((k + 1) + 1)), (2, vi ((zfal (fun d => I 24 (d * 24 + c)) k.toNat) + 1)), (0, vr 2), (1, vi c)], [], (I, zPp π, D, 147)) (G := (zr ((zfal (fun d => I 24 (d * 24 + c)) k.toNat) + 1)) ∧ (zr ((k + 1) + 1)) ∧ True) rfl ⟨by omega, by omega, trivial⟩ ?_
    refine z_sub [(3, vi ((k + 1) + 1)), (2, vi ((zfal (fun d => I 24 (d * 24 + c)) k.toNat) + 1)), (0, vr 2), (1, vi c)] [0, 1, 2, 3] rfl ?_
    refine z_lk (L1 := [(3, vi ((k + 1) + 1)), (2, vi (zfal (fun d => I 24 (d * 24 + c)) (k + 1).toNat)), (0, vr 2), (1, vi c)]) (by rw [zfal_s h0]; simp only [show k + 1 - 1 = k by omega] at *; first | rw [if_pos (by omega)] | rw [if_neg (by omega)]) ?_
    exact ih (k + 1) (by omega) (by omega)
set_option maxRecDepth 20000 in
theorem m_daysFallen {I : zI} {π : Int → Nat} {D : zD} {c : Int} (w : zW1 (I 2)) (h9 : 0 ≤ c) (h10 : c < 24) : zMet 28 [vr 2, vi c] (I, zPp π, D, 147) (some (vi (zfal (fun d => I 24 (d * 24 + c)) (I 2 8).toNat))) (I, zPp π, D, 147) := by
  refine z_n 4 (4, [(3, vi 1), (2, vi 0), (0, vr 2), (1, vi c)], [], (I, zPp π, D, 147)) rfl trivial ?_
  refine z_sub [(3, vi 1), (2, vi 0), (0, vr 2), (1, vi c)] [0, 1, 2, 3] rfl ?_
  exact m_daysFallen_l w h9 h10 (I 2 8).toNat 0 (by omega) (by have := w.2.2.2.1; omega)
set_option maxRecDepth 20000 in
theorem m_award {I : zI} {π : Int → Nat} {D : zD} {c : Int} (w : zW1 (I 2)) (h9 : 0 ≤ c) (h10 : c < 24) : zMet 29 [vr 2, vi c] (I, zPp π, D, 147) (some (vi (if I 2 8 = 0 then 0 else if zris (fun d => I 24 (d * 24 + c)) (I 2 8).toNat = I 2 8 then 1 else if zfal (fun d => I 24 (d * 24 + c)) (I 2 8).toNat = I 2 8 then 2 else 0))) (I, zPp π, D, 147) := by
  refine z_n 2 (4, [(0, vr 2), (1, vi c)], [vi (I 2 8)], (I, zPp π, D, 147)) rfl trivial ?_
  refine z_br (¬ (I 2 8) = 0) 9 7 [] rfl (fun hx1 => ?_) (fun hx1 => ?_)
  · refine z_n 2 (11, [(0, vr 2), (1, vi c)], [vi c, vr 2], (I, zPp π, D, 147)) rfl trivial ?_
    refine z_ci 27 [vr 2, vi c] [] rfl (m_daysRisen w h9 h10) ?_
    refine z_n 2 (18, [(0, vr 2), (1, vi c)], [vi (I 2 8), vi (zris (fun d => I 24 (d * 24 + c)) (I 2 8).toNat)], (I, zPp π, D, 147)) rfl trivial ?_
    refine z_br (¬ (zris (fun d => I 24 (d * 24 + c)) (I 2 8).toNat) = (I 2 8)) 23 21 [] rfl (fun hx2 => ?_) (fun hx2 => ?_)
    · refine z_n 2 (25, [(0, vr 2), (1, vi c)], [vi c, vr 2], (I, zPp π, D, 147)) rfl trivial ?_
      refine z_ci 28 [vr 2, vi c] [] rfl (m_daysFallen w h9 h10) ?_
      refine z_n 2 (32, [(0, vr 2), (1, vi c)], [vi (I 2 8), vi (zfal (fun d => I 24 (d * 24 + c)) (I 2 8).toNat)], (I, zPp π, D, 147)) rfl trivial ?_
      refine z_br (¬ (zfal (fun d => I 24 (d * 24 + c)) (I 2 8).toNat) = (I 2 8)) 39 35 [] rfl (fun hx3 => ?_) (fun hx3 => ?_)
      · refine z_n 1 (40, [(0, vr 2), (1, vi c)], [vi 0], (I, zPp π, D, 147)) rfl trivial ?_
        first | exact z_ret rfl rfl rfl | exact z_ret rfl (zv1 (by omega)) rfl | (exfalso; omega)
      · refine z_n 2 (40, [(0, vr 2), (1, vi c)], [vi 2], (I, zPp π, D, 147)) rfl trivial ?_
        first | exact z_ret rfl rfl rfl | exact z_ret rfl (zv1 (by omega)) rfl | (exfalso; omega)
    · refine z_n 1 (22, [(0, vr 2), (1, vi c)], [vi 1], (I, zPp π, D, 147)) rfl trivial ?_
      first | exact z_ret rfl rfl rfl | exact z_ret rfl (zv1 (by omega)) rfl | (exfalso; omega)
  · refine z_n 1 (8, [(0, vr 2), (1, vi c)], [vi 0], (I, zPp π, D, 147)) rfl trivial ?_
    first | exact z_ret rfl rfl rfl | exact z_ret rfl (zv1 (by omega)) rfl | (exfalso; omega)
set_option maxRecDepth 20000 in
theorem m_best_l {I : zI} {π : Int → Nat} {D : zD}  (w : zW1 (I 2)) (v : zW2 (I 2) (I 6) (I 8)) (hp : ∀ d c, 0 ≤ d → d ≤ I 2 8 → 0 ≤ c → c < I 2 5 → 0 ≤ I 24 (d * 24 + c) ∧ I 24 (d * 24 + c) < 24) : ∀ (n : Nat) (k : Int), 0 ≤ k → k + n = I 2 5 → zRuns 30 6 [(3, vi k), (2, vi (if k = 0 then 0 else (fun c => I 24 (0 * 24 + c) - I 24 (I 2 8 * 24 + c)) (zbst (fun c => I 24 (0 * 24 + c) - I 24 (I 2 8 * 24 + c)) (I 8) k.toNat))), (1, vi (zbst (fun c => I 24 (0 * 24 + c) - I 24 (I 2 8 * 24 + c)) (I 8) k.toNat)), (0, vr 2)] [] (I, zPp π, D, 147) (some (vi (zbst (fun c => I 24 (0 * 24 + c) - I 24 (I 2 8 * 24 + c)) (I 8) (I 2 5).toNat))) (I, zPp π, D, 147) := by
  obtain ⟨⟨w1, w2⟩, ⟨w3, w4⟩, ⟨w5, w6⟩, ⟨w7, w8⟩, ⟨w9, w10⟩, w11, ⟨⟨w12, w12b⟩, w12c⟩, ⟨w13, w14⟩, ⟨w15, w16⟩⟩ := id w
  intro n
  induction n with
  | zero =>
    intro k h0 hn
    refine z_n 3 (11, [(3, vi k), (2, vi (if k = 0 then 0 else (fun c => I 24 (0 * 24 + c) - I 24 (I 2 8 * 24 + c)) (zbst (fun c => I 24 (0 * 24 + c) - I 24 (I 2 8 * 24 + c)) (I 8) k.toNat))), (1, vi (zbst (fun c => I 24 (0 * 24 + c) - I 24 (I 2 8 * 24 + c)) (I 8) k.toNat)), (0, vr 2)], [vi (I 2 5), vi k], (I, zPp π, D, 147)) rfl trivial ?_
    refine z_br ((I 2 5) ≤ k) 67 14 [] rfl (fun hx1 => ?_) (fun h => absurd (show (I 2 5) ≤ k from by omega) h)
    refine z_n 1 (68, [(3, vi k), (2, vi (if k = 0 then 0 else (fun c => I 24 (0 * 24 + c) - I 24 (I 2 8 * 24 + c)) (zbst (fun c => I 24 (0 * 24 + c) - I 24 (I 2 8 * 24 + c)) (I 8) k.toNat))), (1, vi (zbst (fun c => I 24 (0 * 24 + c) - I 24 (I 2 8 * 24 + c)) (I 8) k.toNat)), (0, vr 2)], [vi (zbst (fun c => I 24 (0 * 24 + c) - I 24 (I 2 8 * 24 + c)) (I 8) k.toNat)], (I, zPp π, D, 147)) rfl trivial ?_
    exact z_ret rfl (zv1 (by rw [show k = I 2 5 by omega])) rfl
  | succ n ih =>
  intro k h0 hn
  have ho := v.2.1 k h0 (by omega)
  have p1 := hp 0 (I 8 k) (by omega) (by omega) ho.1 ho.2.1
  have p2 := hp (I 2 8) (I 8 k) (by omega) (by omega) ho.1 ho.2.1
  have hin := zbst_in (ri := (fun c => I 24 (0 * 24 + c) - I 24 (I 2 8 * 24 + c))) (Or := I 8) (N := I 2 5) (fun q a b => ⟨(v.2.1 q a b).1, (v.2.1 q a b).2.1⟩) k.toNat
  refine z_n 3 (11, [(3, vi k), (2, vi (if k = 0 then 0 else (fun c => I 24 (0 * 24 + c) - I 24 (I 2 8 * 24 + c)) (zbst (fun c => I 24 (0 * 24 + c) - I 24 (I 2 8 * 24 + c)) (I 8) k.toNat))), (1, vi (zbst (fun c => I 24 (0 * 24 + c) - I 24 (I 2 8 * 24 + c)) (I 8) k.toNat)), (0, vr 2)], [vi (I 2 5), vi k], (I, zPp π, D, 147)) rfl trivial ?_
  refine z_br ((I 2 5) ≤ k) 67 14 [] rfl (fun h => absurd h (show ¬ ((I 2 5) ≤ k) from by omega)) (fun hx1 => ?_)
  refine z_n 3 (19, [(3, vi k), (2, vi (if k = 0 then 0 else (fun c => I 24 (0 * 24 + c) - I 24 (I 2 8 * 24 + c)) (zbst (fun c => I 24 (0 * 24 + c) - I 24 (I 2 8 * 24 + c)) (I 8) k.toNat))), (1, vi (zbst (fun c => I 24 (0 * 24 + c) - I 24 (I 2 8 * 24 + c)) (I 8) k.toNat)), (0, vr 2)], [vi k, vr 7], (I, zPp π, D, 147)) rfl trivial ?_
  refine z_ci 1 [vr 7, vi k] [] rfl (m_get (n := 24) ⟨rfl, rfl, rfl, rfl⟩ (by omega) (by omega)) ?_
  refine z_n 4 (28, [(4, vi (I 8 k)), (3, vi k), (2, vi (if k = 0 then 0 else (fun c => I 24 (0 * 24 + c) - I 24 (I 2 8 * 24 + c)) (zbst (fun c => I 24 (0 * 24 + c) - I 24 (I 2 8 * 24 + c)) (I 8) k.toNat))), (1, vi (zbst (fun c => I 24 (0 * 24 + c) - I 24 (I 2 8 * 24 + c)) (I 8) k.toNat)), (0, vr 2)], [vi 0, vi (I 8 k), vr 2], (I, zPp π, D, 147)) rfl trivial ?_
  refine z_ci 26 [vr 2, vi (I 8 k), vi 0] [] rfl (m_placeAfter (by omega) (by omega) (by omega) (by omega)) ?_
  refine z_n 4 (38, [(4, vi (I 8 k)), (3, vi k), (2, vi (if k = 0 then 0 else (fun c => I 24 (0 * 24 + c) - I 24 (I 2 8 * 24 + c)) (zbst (fun c => I 24 (0 * 24 + c) - I 24 (I 2 8 * 24 + c)) (I 8) k.toNat))), (1, vi (zbst (fun c => I 24 (0 * 24 + c) - I 24 (I 2 8 * 24 + c)) (I 8) k.toNat)), (0, vr 2)], [vi (I 2 8), vi (I 8 k), vr 2, vi (I 24 (0 * 24 + I 8 k))], (I, zPp π, D, 147)) rfl trivial ?_
  refine z_ci 26 [vr 2, vi (I 8 k), vi (I 2 8)] [vi (I 24 (0 * 24 + I 8 k))] rfl (m_placeAfter (by omega) (by omega) (by omega) (by omega)) ?_
  refine z_n 4 (46, [(5, vi ((I 24 (0 * 24 + I 8 k)) - (I 24 (I 2 8 * 24 + I 8 k)))), (4, vi (I 8 k)), (3, vi k), (2, vi (if k = 0 then 0 else (fun c => I 24 (0 * 24 + c) - I 24 (I 2 8 * 24 + c)) (zbst (fun c => I 24 (0 * 24 + c) - I 24 (I 2 8 * 24 + c)) (I 8) k.toNat))), (1, vi (zbst (fun c => I 24 (0 * 24 + c) - I 24 (I 2 8 * 24 + c)) (I 8) k.toNat)), (0, vr 2)], [vi (-1), vi (zbst (fun c => I 24 (0 * 24 + c) - I 24 (I 2 8 * 24 + c)) (I 8) k.toNat)], (I, zPp π, D, 147)) (G := (zr ((I 24 (0 * 24 + I 8 k)) - (I 24 (I 2 8 * 24 + I 8 k)))) ∧ True) rfl ⟨by omega, trivial⟩ ?_
  refine z_br ((zbst (fun c => I 24 (0 * 24 + c) - I 24 (I 2 8 * 24 + c)) (I 8) k.toNat) = (-1)) 55 49 [] rfl (fun hx2 => ?_) (fun hx2 => ?_)
  · refine z_n 6 (6, [(3, vi (k + 1)), (2, vi ((I 24 (0 * 24 + I 8 k)) - (I 24 (I 2 8 * 24 + I 8 k)))), (1, vi (I 8 k)), (5, vi ((I 24 (0 * 24 + I 8 k)) - (I 24 (I 2 8 * 24 + I 8 k)))), (4, vi (I 8 k)), (0, vr 2)], [], (I, zPp π, D, 147)) (G := (zr (k + 1)) ∧ True) rfl ⟨by omega, trivial⟩ ?_
    refine z_sub [(3, vi (k + 1)), (2, vi ((I 24 (0 * 24 + I 8 k)) - (I 24 (I 2 8 * 24 + I 8 k)))), (1, vi (I 8 k)), (0, vr 2)] [0, 1, 2, 5] rfl ?_
    refine z_lk (L1 := [(3, vi (k + 1)), (2, vi (if k + 1 = 0 then 0 else (fun c => I 24 (0 * 24 + c) - I 24 (I 2 8 * 24 + c)) (zbst (fun c => I 24 (0 * 24 + c) - I 24 (I 2 8 * 24 + c)) (I 8) (k + 1).toNat))), (1, vi (zbst (fun c => I 24 (0 * 24 + c) - I 24 (I 2 8 * 24 + c)) (I 8) (k + 1).toNat)), (0, vr 2)]) (by rw [zbst_s h0, if_neg (show ¬ k + 1 = 0 by omega)]; by_cases k0 : k = 0; (case pos => subst k0; first | rfl | exact absurd rfl (by assumption)); (case neg => have hz := hin (by omega) (by omega); simp only [if_neg k0] at *; split <;> first | rfl | (exfalso; omega))) ?_
    exact ih (k + 1) (by omega) (by omega)
  · refine z_n 2 (52, [(5, vi ((I 24 (0 * 24 + I 8 k)) - (I 24 (I 2 8 * 24 + I 8 k)))), (4, vi (I 8 k)), (3, vi k), (2, vi (if k = 0 then 0 else (fun c => I 24 (0 * 24 + c) - I 24 (I 2 8 * 24 + c)) (zbst (fun c => I 24 (0 * 24 + c) - I 24 (I 2 8 * 24 + c)) (I 8) k.toNat))), (1, vi (zbst (fun c => I 24 (0 * 24 + c) - I 24 (I 2 8 * 24 + c)) (I 8) k.toNat)), (0, vr 2)], [vi (if k = 0 then 0 else (fun c => I 24 (0 * 24 + c) - I 24 (I 2 8 * 24 + c)) (zbst (fun c => I 24 (0 * 24 + c) - I 24 (I 2 8 * 24 + c)) (I 8) k.toNat)), vi ((I 24 (0 * 24 + I 8 k)) - (I 24 (I 2 8 * 24 + I 8 k)))], (I, zPp π, D, 147)) rfl trivial ?_
    refine z_br (((I 24 (0 * 24 + I 8 k)) - (I 24 (I 2 8 * 24 + I 8 k))) ≤ (if k = 0 then 0 else (fun c => I 24 (0 * 24 + c) - I 24 (I 2 8 * 24 + c)) (zbst (fun c => I 24 (0 * 24 + c) - I 24 (I 2 8 * 24 + c)) (I 8) k.toNat))) 61 55 [] rfl (fun hx3 => ?_) (fun hx3 => ?_)
    · refine z_n 2 (6, [(3, vi (k + 1)), (5, vi ((I 24 (0 * 24 + I 8 k)) - (I 24 (I 2 8 * 24 + I 8 k)))), (4, vi (I 8 k)), (2, vi (if k = 0 then 0 else (fun c => I 24 (0 * 24 + c) - I 24 (I 2 8 * 24 + c)) (zbst (fun c => I 24 (0 * 24 + c) - I 24 (I 2 8 * 24 + c)) (I 8) k.toNat))), (1, vi (zbst (fun c => I 24 (0 * 24 + c) - I 24 (I 2 8 * 24 + c)) (I 8) k.toNat)), (0, vr 2)], [], (I, zPp π, D, 147)) (G := (zr (k + 1)) ∧ True) rfl ⟨by omega, trivial⟩ ?_
      refine z_sub [(3, vi (k + 1)), (2, vi (if k = 0 then 0 else (fun c => I 24 (0 * 24 + c) - I 24 (I 2 8 * 24 + c)) (zbst (fun c => I 24 (0 * 24 + c) - I 24 (I 2 8 * 24 + c)) (I 8) k.toNat))), (1, vi (zbst (fun c => I 24 (0 * 24 + c) - I 24 (I 2 8 * 24 + c)) (I 8) k.toNat)), (0, vr 2)] [0, 3, 4, 5] rfl ?_
      refine z_lk (L1 := [(3, vi (k + 1)), (2, vi (if k + 1 = 0 then 0 else (fun c => I 24 (0 * 24 + c) - I 24 (I 2 8 * 24 + c)) (zbst (fun c => I 24 (0 * 24 + c) - I 24 (I 2 8 * 24 + c)) (I 8) (k + 1).toNat))), (1, vi (zbst (fun c => I 24 (0 * 24 + c) - I 24 (I 2 8 * 24 + c)) (I 8) (k + 1).toNat)), (0, vr 2)]) (by rw [zbst_s h0, if_neg (show ¬ k + 1 = 0 by omega)]; by_cases k0 : k = 0; (case pos => subst k0; first | rfl | exact absurd rfl (by assumption)); (case neg => have hz := hin (by omega) (by omega); simp only [if_neg k0] at *; split <;> first | rfl | (exfalso; omega))) ?_
      exact ih (k + 1) (by omega) (by omega)
    · refine z_n 6 (6, [(3, vi (k + 1)), (2, vi ((I 24 (0 * 24 + I 8 k)) - (I 24 (I 2 8 * 24 + I 8 k)))), (1, vi (I 8 k)), (5, vi ((I 24 (0 * 24 + I 8 k)) - (I 24 (I 2 8 * 24 + I 8 k)))), (4, vi (I 8 k)), (0, vr 2)], [], (I, zPp π, D, 147)) (G := (zr (k + 1)) ∧ True) rfl ⟨by omega, trivial⟩ ?_
      refine z_sub [(3, vi (k + 1)), (2, vi ((I 24 (0 * 24 + I 8 k)) - (I 24 (I 2 8 * 24 + I 8 k)))), (1, vi (I 8 k)), (0, vr 2)] [0, 1, 2, 5] rfl ?_
      refine z_lk (L1 := [(3, vi (k + 1)), (2, vi (if k + 1 = 0 then 0 else (fun c => I 24 (0 * 24 + c) - I 24 (I 2 8 * 24 + c)) (zbst (fun c => I 24 (0 * 24 + c) - I 24 (I 2 8 * 24 + c)) (I 8) (k + 1).toNat))), (1, vi (zbst (fun c => I 24 (0 * 24 + c) - I 24 (I 2 8 * 24 + c)) (I 8) (k + 1).toNat)), (0, vr 2)]) (by rw [zbst_s h0, if_neg (show ¬ k + 1 = 0 by omega)]; by_cases k0 : k = 0; (case pos => subst k0; first | rfl | exact absurd rfl (by assumption)); (case neg => have hz := hin (by omega) (by omega); simp only [if_neg k0] at *; split <;> first | rfl | (exfalso; omega))) ?_
      exact ih (k + 1) (by omega) (by omega)
set_option maxRecDepth 20000 in
theorem m_best {I : zI} {π : Int → Nat} {D : zD}  (w : zW1 (I 2)) (v : zW2 (I 2) (I 6) (I 8)) (hp : ∀ d c, 0 ≤ d → d ≤ I 2 8 → 0 ≤ c → c < I 2 5 → 0 ≤ I 24 (d * 24 + c) ∧ I 24 (d * 24 + c) < 24) : zMet 30 [vr 2] (I, zPp π, D, 147) (some (vi (zbst (fun c => I 24 (0 * 24 + c) - I 24 (I 2 8 * 24 + c)) (I 8) (I 2 5).toNat))) (I, zPp π, D, 147) := by
  refine z_n 6 (6, [(3, vi 0), (2, vi 0), (1, vi (-1)), (0, vr 2)], [], (I, zPp π, D, 147)) rfl trivial ?_
  refine z_sub [(3, vi 0), (2, vi 0), (1, vi (-1)), (0, vr 2)] [0, 1, 2, 3] rfl ?_
  exact m_best_l w v hp (I 2 5).toNat 0 (by omega) (by have := w.1; omega)
set_option maxRecDepth 20000 in
theorem m_fol_l {I : zI} {π : Int → Nat} {D : zD} {c d j : Int} (hl : 0 ≤ I 14 4 ∧ I 14 4 ≤ 96) (hj0 : 0 ≤ j) (hj1 : ∀ i, 0 ≤ i → i < j → I 16 i ≤ d) (hj2 : j = I 14 4 ∨ (j < I 14 4 ∧ d < I 16 j)) (hb : ∀ n : Nat, (n : Int) ≤ I 14 4 → -1000 ≤ zfol (I 18) (I 20) (I 22) c n ∧ zfol (I 18) (I 20) (I 22) c n ≤ 1000) : ∀ (n : Nat) (k : Int), 0 ≤ k → k + n = j → zRuns 50 5 [(4, vi k), (3, vi (zfol (I 18) (I 20) (I 22) c k.toNat)), (0, vr 14), (1, vi c), (2, vi d)] [] (I, zPp π, D, 147) (some (vi (zfol (I 18) (I 20) (I 22) c j.toNat))) (I, zPp π, D, 147) := by
  intro n
  induction n with
  | zero =>
    intro k h0 hn
    have e : k = j := by omega
    subst e
    refine z_n 3 (11, [(4, vi k), (3, vi (zfol (I 18) (I 20) (I 22) c k.toNat)), (0, vr 14), (1, vi c), (2, vi d)], [vi (I 14 4), vi k], (I, zPp π, D, 147)) rfl trivial ?_
    refine z_br ((I 14 4) ≤ k) 86 14 [] rfl (fun hx1 => ?_) (fun hx1 => ?_)
    · refine z_n 1 (87, [(4, vi k), (3, vi (zfol (I 18) (I 20) (I 22) c k.toNat)), (0, vr 14), (1, vi c), (2, vi d)], [vi (zfol (I 18) (I 20) (I 22) c k.toNat)], (I, zPp π, D, 147)) rfl trivial ?_
      exact z_ret rfl rfl rfl
    · refine z_n 3 (20, [(4, vi k), (3, vi (zfol (I 18) (I 20) (I 22) c k.toNat)), (0, vr 14), (1, vi c), (2, vi d)], [vi k, vr 15], (I, zPp π, D, 147)) rfl trivial ?_
      refine z_ci 1 [vr 15, vi k] [] rfl (m_get (n := 96) ⟨rfl, rfl, rfl, rfl⟩ (by omega) (by omega)) ?_
      refine z_n 1 (24, [(4, vi k), (3, vi (zfol (I 18) (I 20) (I 22) c k.toNat)), (0, vr 14), (1, vi c), (2, vi d)], [vi d, vi (I 16 k)], (I, zPp π, D, 147)) rfl trivial ?_
      refine z_br (d < (I 16 k)) 86 27 [] rfl (fun hx2 => ?_) (fun h => absurd (show d < (I 16 k) from by omega) h)
      refine z_n 1 (87, [(4, vi k), (3, vi (zfol (I 18) (I 20) (I 22) c k.toNat)), (0, vr 14), (1, vi c), (2, vi d)], [vi (zfol (I 18) (I 20) (I 22) c k.toNat)], (I, zPp π, D, 147)) rfl trivial ?_
      exact z_ret rfl rfl rfl
  | succ n ih =>
  intro k h0 hn
  have hk := hj1 k h0 (by omega)
  have b1 := hb (k + 1).toNat (by omega)
  rw [zfol_s h0] at b1
  refine z_n 3 (11, [(4, vi k), (3, vi (zfol (I 18) (I 20) (I 22) c k.toNat)), (0, vr 14), (1, vi c), (2, vi d)], [vi (I 14 4), vi k], (I, zPp π, D, 147)) rfl trivial ?_
  refine z_br ((I 14 4) ≤ k) 86 14 [] rfl (fun h => absurd h (show ¬ ((I 14 4) ≤ k) from by omega)) (fun hx1 => ?_)
  refine z_n 3 (20, [(4, vi k), (3, vi (zfol (I 18) (I 20) (I 22) c k.toNat)), (0, vr 14), (1, vi c), (2, vi d)], [vi k, vr 15], (I, zPp π, D, 147)) rfl trivial ?_
  refine z_ci 1 [vr 15, vi k] [] rfl (m_get (n := 96) ⟨rfl, rfl, rfl, rfl⟩ (by omega) (by omega)) ?_
  refine z_n 1 (24, [(4, vi k), (3, vi (zfol (I 18) (I 20) (I 22) c k.toNat)), (0, vr 14), (1, vi c), (2, vi d)], [vi d, vi (I 16 k)], (I, zPp π, D, 147)) rfl trivial ?_
  refine z_br (d < (I 16 k)) 86 27 [] rfl (fun h => absurd h (show ¬ (d < (I 16 k)) from by omega)) (fun hx2 => ?_)
  refine z_n 3 (33, [(4, vi k), (3, vi (zfol (I 18) (I 20) (I 22) c k.toNat)), (0, vr 14), (1, vi c), (2, vi d)], [vi k, vr 17], (I, zPp π, D, 147)) rfl trivial ?_
  refine z_ci 1 [vr 17, vi k] [] rfl (m_get (n := 96) ⟨rfl, rfl, rfl, rfl⟩ (by omega) (by omega)) ?_
  refine z_n 1 (37, [(4, vi k), (3, vi (zfol (I 18) (I 20) (I 22) c k.toNat)), (0, vr 14), (1, vi c), (2, vi d)], [vi c, vi (I 18 k)], (I, zPp π, D, 147)) rfl trivial ?_
  refine z_br (¬ (I 18 k) = c) 55 40 [] rfl (fun hx3 => ?_) (fun hx3 => ?_)
  · refine z_n 3 (61, [(4, vi k), (3, vi (zfol (I 18) (I 20) (I 22) c k.toNat)), (0, vr 14), (1, vi c), (2, vi d)], [vi k, vr 19], (I, zPp π, D, 147)) rfl trivial ?_
    refine z_ci 1 [vr 19, vi k] [] rfl (m_get (n := 96) ⟨rfl, rfl, rfl, rfl⟩ (by omega) (by omega)) ?_
    refine z_n 1 (65, [(4, vi k), (3, vi (zfol (I 18) (I 20) (I 22) c k.toNat)), (0, vr 14), (1, vi c), (2, vi d)], [vi c, vi (I 20 k)], (I, zPp π, D, 147)) rfl trivial ?_
    refine z_br (¬ (I 20 k) = c) 80 68 [] rfl (fun hx4 => ?_) (fun hx4 => ?_)
    · refine z_n 2 (5, [(4, vi (k + 1)), (3, vi (zfol (I 18) (I 20) (I 22) c k.toNat)), (0, vr 14), (1, vi c), (2, vi d)], [], (I, zPp π, D, 147)) (G := (zr (k + 1)) ∧ True) rfl ⟨by omega, trivial⟩ ?_
      refine z_sub [(4, vi (k + 1)), (3, vi (zfol (I 18) (I 20) (I 22) c k.toNat)), (0, vr 14), (1, vi c), (2, vi d)] [0, 1, 2, 3, 4] rfl ?_
      refine z_lk (L1 := [(4, vi (k + 1)), (3, vi (zfol (I 18) (I 20) (I 22) c (k + 1).toNat)), (0, vr 14), (1, vi c), (2, vi d)]) (by rw [zfol_s h0]; first | (rw [if_pos (by omega)]; done) | (rw [if_neg (by omega), if_pos (by omega)]; done) | (rw [if_neg (by omega), if_neg (by omega)]; done)) ?_
      exact ih (k + 1) (by omega) (by omega)
    · refine z_n 4 (75, [(4, vi k), (3, vi (zfol (I 18) (I 20) (I 22) c k.toNat)), (0, vr 14), (1, vi c), (2, vi d)], [vi k, vr 21, vi (zfol (I 18) (I 20) (I 22) c k.toNat)], (I, zPp π, D, 147)) rfl trivial ?_
      refine z_ci 1 [vr 21, vi k] [vi (zfol (I 18) (I 20) (I 22) c k.toNat)] rfl (m_get (n := 96) ⟨rfl, rfl, rfl, rfl⟩ (by omega) (by omega)) ?_
      refine z_n 4 (5, [(4, vi (k + 1)), (3, vi ((zfol (I 18) (I 20) (I 22) c k.toNat) + (I 22 k))), (0, vr 14), (1, vi c), (2, vi d)], [], (I, zPp π, D, 147)) (G := (zr ((zfol (I 18) (I 20) (I 22) c k.toNat) + (I 22 k))) ∧ (zr (k + 1)) ∧ True) rfl ⟨by rw [if_neg (by omega), if_pos (by omega)] at b1; omega, by omega, trivial⟩ ?_
      refine z_sub [(4, vi (k + 1)), (3, vi ((zfol (I 18) (I 20) (I 22) c k.toNat) + (I 22 k))), (0, vr 14), (1, vi c), (2, vi d)] [0, 1, 2, 3, 4] rfl ?_
      refine z_lk (L1 := [(4, vi (k + 1)), (3, vi (zfol (I 18) (I 20) (I 22) c (k + 1).toNat)), (0, vr 14), (1, vi c), (2, vi d)]) (by rw [zfol_s h0]; first | (rw [if_pos (by omega)]; done) | (rw [if_neg (by omega), if_pos (by omega)]; done) | (rw [if_neg (by omega), if_neg (by omega)]; done)) ?_
      exact ih (k + 1) (by omega) (by omega)
  · refine z_n 4 (47, [(4, vi k), (3, vi (zfol (I 18) (I 20) (I 22) c k.toNat)), (0, vr 14), (1, vi c), (2, vi d)], [vi k, vr 21, vi (zfol (I 18) (I 20) (I 22) c k.toNat)], (I, zPp π, D, 147)) rfl trivial ?_
    refine z_ci 1 [vr 21, vi k] [vi (zfol (I 18) (I 20) (I 22) c k.toNat)] rfl (m_get (n := 96) ⟨rfl, rfl, rfl, rfl⟩ (by omega) (by omega)) ?_
    refine z_n 5 (5, [(4, vi (k + 1)), (3, vi ((zfol (I 18) (I 20) (I 22) c k.toNat) - (I 22 k))), (0, vr 14), (1, vi c), (2, vi d)], [], (I, zPp π, D, 147)) (G := (zr ((zfol (I 18) (I 20) (I 22) c k.toNat) - (I 22 k))) ∧ (zr (k + 1)) ∧ True) rfl ⟨by rw [if_pos (by omega)] at b1; omega, by omega, trivial⟩ ?_
    refine z_sub [(4, vi (k + 1)), (3, vi ((zfol (I 18) (I 20) (I 22) c k.toNat) - (I 22 k))), (0, vr 14), (1, vi c), (2, vi d)] [0, 1, 2, 3, 4] rfl ?_
    refine z_lk (L1 := [(4, vi (k + 1)), (3, vi (zfol (I 18) (I 20) (I 22) c (k + 1).toNat)), (0, vr 14), (1, vi c), (2, vi d)]) (by rw [zfol_s h0]; first | (rw [if_pos (by omega)]; done) | (rw [if_neg (by omega), if_pos (by omega)]; done) | (rw [if_neg (by omega), if_neg (by omega)]; done)) ?_
    exact ih (k + 1) (by omega) (by omega)
set_option maxRecDepth 20000 in
theorem m_fol {I : zI} {π : Int → Nat} {D : zD} {c d j : Int} (hl : 0 ≤ I 14 4 ∧ I 14 4 ≤ 96) (hj0 : 0 ≤ j) (hj1 : ∀ i, 0 ≤ i → i < j → I 16 i ≤ d) (hj2 : j = I 14 4 ∨ (j < I 14 4 ∧ d < I 16 j)) (hb : ∀ n : Nat, (n : Int) ≤ I 14 4 → -1000 ≤ zfol (I 18) (I 20) (I 22) c n ∧ zfol (I 18) (I 20) (I 22) c n ≤ 1000) : zMet 50 [vr 14, vi c, vi d] (I, zPp π, D, 147) (some (vi (zfol (I 18) (I 20) (I 22) c j.toNat))) (I, zPp π, D, 147) := by
  refine z_n 4 (5, [(4, vi 0), (3, vi c), (0, vr 14), (1, vi c), (2, vi d)], [], (I, zPp π, D, 147)) rfl trivial ?_
  refine z_sub [(4, vi 0), (3, vi c), (0, vr 14), (1, vi c), (2, vi d)] [0, 1, 2, 3, 4] rfl ?_
  exact m_fol_l hl hj0 hj1 hj2 hb j.toNat 0 (by omega) (by omega)
set_option maxRecDepth 20000 in
theorem m_position {I : zI} {π : Int → Nat} {D : zD} {k t : Int} (w : zW1 (I 2)) (h0 : 0 ≤ k) (h1 : 0 ≤ I 2 9 * I 2 6 + k) (h2 : I 2 9 * I 2 6 + k < 24) (h3 : 0 ≤ I 8 (I 2 9 * I 2 6 + k)) (h4 : I 8 (I 2 9 * I 2 6 + k) < 24) (hz : zr (k * I 2 10)) (g1 : vf_n64 (FP.dmul (FP.i2d (Int32.ofInt (I 4 (I 8 (I 2 9 * I 2 6 + k))))) (FP.i2d (Int32.ofInt t)))) (g2 : vf_n64 (FP.dsub (FP.dmul (FP.i2d (Int32.ofInt (I 4 (I 8 (I 2 9 * I 2 6 + k))))) (FP.i2d (Int32.ofInt t))) (FP.i2d (Int32.ofInt (k * I 2 10))))) : zMet 24 [vr 2, vi k, vi t] (I, zPp π, D, 147) (some (vd (FP.dsub (FP.dmul (FP.i2d (Int32.ofInt (I 4 (I 8 (I 2 9 * I 2 6 + k))))) (FP.i2d (Int32.ofInt t))) (FP.i2d (Int32.ofInt (k * I 2 10)))))) (I, zPp π, D, 147) := by
  refine z_n 4 (6, [(0, vr 2), (1, vi k), (2, vi t)], [vi k, vr 2, vr 3], (I, zPp π, D, 147)) rfl trivial ?_
  refine z_ci 13 [vr 2, vi k] [vr 3] rfl (m_starterAt w h1 h2) ?_
  refine z_ci 1 [vr 3, vi (I 8 (I 2 9 * I 2 6 + k))] [] rfl (m_get (n := 24) ⟨rfl, rfl, rfl, rfl⟩ (by omega) (by omega)) ?_
  refine z_n 12 (26, [(3, vi (I 4 (I 8 (I 2 9 * I 2 6 + k)))), (0, vr 2), (1, vi k), (2, vi t)], [vd (FP.dsub (FP.dmul (FP.i2d (Int32.ofInt (I 4 (I 8 (I 2 9 * I 2 6 + k))))) (FP.i2d (Int32.ofInt t))) (FP.i2d (Int32.ofInt (k * (I 2 10)))))], (I, zPp π, D, 147)) (G := (vf_n64 (FP.dmul (FP.i2d (Int32.ofInt (I 4 (I 8 (I 2 9 * I 2 6 + k))))) (FP.i2d (Int32.ofInt t)))) ∧ (zr (k * (I 2 10))) ∧ (vf_n64 (FP.dsub (FP.dmul (FP.i2d (Int32.ofInt (I 4 (I 8 (I 2 9 * I 2 6 + k))))) (FP.i2d (Int32.ofInt t))) (FP.i2d (Int32.ofInt (k * (I 2 10)))))) ∧ True) rfl ⟨g1, hz, g2, trivial⟩ ?_
  first | exact z_ret rfl rfl rfl | exact z_ret rfl (zv1 (by omega)) rfl | (exfalso; omega)
set_option maxRecDepth 20000 in
theorem m_has1 {I : zI} {π : Int → Nat} {D : zD} {k : Int} (h : 0 ≤ k ∧ k < I 9 2) : zMet 53 [vr 9, vi k] (I, zPp π, D, 147) (some (vi 1)) (I, zPp π, D, 147) := by
  refine z_n 1 (1, [(0, vr 9), (1, vi k)], [vi k], (I, zPp π, D, 147)) rfl trivial ?_
  refine z_br (k < 0) 16 4 [] rfl (fun h => absurd h (show ¬ (k < 0) from by omega)) (fun hx1 => ?_)
  refine z_n 3 (9, [(0, vr 9), (1, vi k)], [vi (I 9 2), vi k], (I, zPp π, D, 147)) rfl trivial ?_
  refine z_br ((I 9 2) ≤ k) 16 12 [] rfl (fun h => absurd h (show ¬ ((I 9 2) ≤ k) from by omega)) (fun hx2 => ?_)
  refine z_n 2 (17, [(0, vr 9), (1, vi k)], [vi 1], (I, zPp π, D, 147)) rfl trivial ?_
  first | exact z_ret rfl rfl rfl | exact z_ret rfl (zv1 (by omega)) rfl | (exfalso; omega)
set_option maxRecDepth 20000 in
theorem m_has0 {I : zI} {π : Int → Nat} {D : zD} {k : Int} (h : ¬ (0 ≤ k ∧ k < I 9 2)) : zMet 53 [vr 9, vi k] (I, zPp π, D, 147) (some (vi 0)) (I, zPp π, D, 147) := by
  refine z_n 1 (1, [(0, vr 9), (1, vi k)], [vi k], (I, zPp π, D, 147)) rfl trivial ?_
  refine z_br (k < 0) 16 4 [] rfl (fun hx1 => ?_) (fun hx1 => ?_)
  · refine z_n 1 (17, [(0, vr 9), (1, vi k)], [vi 0], (I, zPp π, D, 147)) rfl trivial ?_
    first | exact z_ret rfl rfl rfl | exact z_ret rfl (zv1 (by omega)) rfl | (exfalso; omega)
  · refine z_n 3 (9, [(0, vr 9), (1, vi k)], [vi (I 9 2), vi k], (I, zPp π, D, 147)) rfl trivial ?_
    refine z_br ((I 9 2) ≤ k) 16 12 [] rfl (fun hx2 => ?_) (fun hx2 => ?_)
    · refine z_n 1 (17, [(0, vr 9), (1, vi k)], [vi 0], (I, zPp π, D, 147)) rfl trivial ?_
      first | exact z_ret rfl rfl rfl | exact z_ret rfl (zv1 (by omega)) rfl | (exfalso; omega)
    · refine z_n 2 (17, [(0, vr 9), (1, vi k)], [vi 1], (I, zPp π, D, 147)) rfl trivial ?_
      first | exact z_ret rfl rfl rfl | exact z_ret rfl (zv1 (by omega)) rfl | (exfalso; omega)
end
section
/-- one row of numbers is another's copy -/
def zcpR (I : zI) (a b : Nat) : zI := fun r j => if r = a then I b j else I r j
theorem z_acp {y pc : Nat} {L : zL} {st : List zV} {σ τ : zS} {r : Option zV} {k b q1 q0 n : Nat} {x : Int} (hi : zi y pc = some (.invokestatic k, 3, 1000, b)) (h0 : zob q0 10 σ.2.2.2 = true) (h1 : zob q1 10 σ.2.2.2 = true) (n0 : (zsh q0).2 = n) (n1 : (zsh q1).2 = n) (hst : zcats st ≤ 8) (hx : x = n) (kk : zRuns y (pc + 3) L st (zcpR σ.1 q1 q0, σ.2) r τ) : zRuns y pc L (vi x :: vi 0 :: vr q1 :: vi 0 :: vr q0 :: st) σ r τ := by
  subst hx
  refine z_s (g := some ((0 : Int) ≤ 0 ∧ (0 : Int) ≤ 0 ∧ 0 ≤ (n : Int) ∧ 0 + (n : Int) ≤ ((zsh q0).2 : Nat) ∧ 0 + (n : Int) ≤ ((zsh q1).2 : Nat))) (σ1 := (fun r' k => if r' = q1 ∧ 0 ≤ k ∧ k < 0 + (n : Int) then σ.1 q0 (0 + (k - 0)) else σ.1 r' k, σ.2)) (L1 := L) (pc1 := pc + 3) (st1 := st) ?_ (fun P hP => by cases hP; rw [n0, n1]; omega) (z_eqs ?_ kk)
  · have h8 : Nat.ble (zcats st) 8 = true := Nat.ble_eq_true_of_le hst
    simp only [zst, hi, zx, Nat.beq_refl, cond_true, h0, h1, h8, Bool.and_self]
  · obtain ⟨-, -, -, e4⟩ := zob_spec h1 (by decide)
    refine ⟨rfl, fun j => ?_, fun r' hr' j hj => ⟨?_, rfl, rfl⟩⟩
    · show zcpR σ.1 q1 q0 1000 j = if 1000 = q1 ∧ _ then _ else _
      rw [if_neg (fun h => e4 h.1.symm), zcpR, if_neg (fun h => e4 h.symm)]
    · show zcpR σ.1 q1 q0 r' j = if r' = q1 ∧ (0 : Int) ≤ j ∧ (j : Int) < 0 + (n : Int) then σ.1 q0 (0 + ((j : Int) - 0)) else σ.1 r' j
      unfold zcpR
      by_cases e : r' = q1
      · subst e
        rw [n1] at hj
        rw [if_pos rfl, if_pos (by omega), show (0 : Int) + ((j : Int) - 0) = j by omega]
      · rw [if_neg e, if_neg (fun h => e h.1)]
theorem m_copy {I : zI} {P : zP} {D : zD} {c r q n : Nat} (h : zCel P c r n) (h2 : zCel P c q n) : zMet 3 [vr r, vr q] (I, P, D, c) none (zcpR I (r + 1) (q + 1), P, D, c) := by
  obtain ⟨a1, a2, a3, a4⟩ := h
  obtain ⟨b1, b2, b3, b4⟩ := h2
  refine z_n 1 (1, [(0, vr r), (1, vr q)], [vr q], (I, P, D, c)) rfl trivial ?_
  refine z_getr rfl b1 rfl b4 ?_
  refine z_n 2 (6, [(0, vr r), (1, vr q)], [vr r, vi 0, vr (q + 1)], (I, P, D, c)) rfl trivial ?_
  refine z_getr rfl a1 rfl a4 ?_
  refine z_n 2 (11, [(0, vr r), (1, vr q)], [vr q, vi 0, vr (r + 1), vi 0, vr (q + 1)], (I, P, D, c)) rfl trivial ?_
  refine z_getr rfl b1 rfl b4 ?_
  refine z_len rfl rfl b2 b3 ?_
  refine z_n 1 (16, [(0, vr r), (1, vr q)], [vr r, vi n, vi 0, vr (r + 1), vi 0, vr (q + 1)], (I, P, D, c)) rfl trivial ?_
  refine z_getr rfl a1 rfl a4 ?_
  refine z_len rfl rfl a2 a3 ?_
  refine z_ci 142 [vi n, vi n] [vi 0, vr (r + 1), vi 0, vr (q + 1)] rfl m_min ?_
  refine z_acp rfl b2 a2 b3 a3 (by decide) (by omega) ?_
  exact z_ret rfl rfl rfl
/-- which of a chart's numbers are its own: rows and fields, by the place of the object in the chart -/
def zcm (k : Nat) (j : Int) : Prop := k = 2 ∨ k = 4 ∨ k = 6 ∨ k = 9 ∨ k = 11 ∨ k = 14 ∨ k = 16 ∨ k = 18 ∨ k = 20 ∨ k = 22 ∨ (k = 0 ∧ 5 ≤ j ∧ j ≤ 11) ∨ (k = 7 ∧ j = 2) ∨ (k = 12 ∧ j = 4)
noncomputable def zcpC (I : zI) (a b : Nat) : zI := fun r j => @ite Int (a ≤ r ∧ r < a + 23 ∧ zcm (r - a) j) (Classical.propDecidable _) (I (r - a + b) j) (I r j)
theorem zcpC_in {I : zI} {a b r : Nat} {j : Int} (h1 : a ≤ r) (h2 : r < a + 23) (h3 : zcm (r - a) j) : zcpC I a b r j = I (r - a + b) j := if_pos ⟨h1, h2, h3⟩
theorem zcpC_row {I : zI} {a b : Nat} (k : Nat) (hk : k = 2 ∨ k = 4 ∨ k = 6 ∨ k = 9 ∨ k = 11 ∨ k = 14 ∨ k = 16 ∨ k = 18 ∨ k = 20 ∨ k = 22) : zcpC I a b (a + k) = I (b + k) := by
  funext j
  rw [zcpC_in (by omega) (by omega) (by unfold zcm; omega), show a + k - a + b = b + k by omega]
theorem zcpC_out {I : zI} {a b r : Nat} (h : r < a ∨ a + 23 ≤ r) : zcpC I a b r = I r := by
  funext j
  exact if_neg (fun h1 => by omega)
theorem zcpC_no {I : zI} {a b r : Nat} {j : Int} (h : ¬ zcm (r - a) j) : zcpC I a b r j = I r j := if_neg (fun h1 => h h1.2.2)

set_option maxRecDepth 20000 in
theorem m_rcp_9_130 {I : zI} {π : Int → Nat} {D : zD}   : zMet 57 [vr 9, vr 130] (I, zPp π, D, 147) none ((zup (zcpR (zcpR I 11 132) 13 134) 9 2 (I 130 2)), zPp π, D, 147) := by
  refine z_n 4 (8, [(0, vr 9), (1, vr 130)], [vr 131, vr 10], (I, zPp π, D, 147)) rfl trivial ?_
  refine z_cv 3 [vr 10, vr 131] [] rfl (m_copy (n := 4) ⟨rfl, rfl, rfl, rfl⟩ ⟨rfl, rfl, rfl, rfl⟩) ?_
  refine z_n 4 (19, [(0, vr 9), (1, vr 130)], [vr 133, vr 12], ((zcpR I 11 132), zPp π, D, 147)) rfl trivial ?_
  refine z_cv 3 [vr 12, vr 133] [] rfl (m_copy (n := 4) ⟨rfl, rfl, rfl, rfl⟩ ⟨rfl, rfl, rfl, rfl⟩) ?_
  refine z_n 4 (30, [(0, vr 9), (1, vr 130)], [], ((zup (zcpR (zcpR I 11 132) 13 134) 9 2 (I 130 2)), zPp π, D, 147)) rfl trivial ?_
  first | exact z_ret rfl rfl rfl | exact z_ret rfl (zv1 (by omega)) rfl | (exfalso; omega)
set_option maxRecDepth 20000 in
theorem m_rcp_130_9 {I : zI} {π : Int → Nat} {D : zD}   : zMet 57 [vr 130, vr 9] (I, zPp π, D, 147) none ((zup (zcpR (zcpR I 132 11) 134 13) 130 2 (I 9 2)), zPp π, D, 147) := by
  refine z_n 4 (8, [(0, vr 130), (1, vr 9)], [vr 10, vr 131], (I, zPp π, D, 147)) rfl trivial ?_
  refine z_cv 3 [vr 131, vr 10] [] rfl (m_copy (n := 4) ⟨rfl, rfl, rfl, rfl⟩ ⟨rfl, rfl, rfl, rfl⟩) ?_
  refine z_n 4 (19, [(0, vr 130), (1, vr 9)], [vr 12, vr 133], ((zcpR I 132 11), zPp π, D, 147)) rfl trivial ?_
  refine z_cv 3 [vr 133, vr 12] [] rfl (m_copy (n := 4) ⟨rfl, rfl, rfl, rfl⟩ ⟨rfl, rfl, rfl, rfl⟩) ?_
  refine z_n 4 (30, [(0, vr 130), (1, vr 9)], [], ((zup (zcpR (zcpR I 132 11) 134 13) 130 2 (I 9 2)), zPp π, D, 147)) rfl trivial ?_
  first | exact z_ret rfl rfl rfl | exact z_ret rfl (zv1 (by omega)) rfl | (exfalso; omega)
set_option maxRecDepth 20000 in
theorem m_rcp_34_9 {I : zI} {π : Int → Nat} {D : zD}   : zMet 57 [vr 34, vr 9] (I, zPp π, D, 147) none ((zup (zcpR (zcpR I 36 11) 38 13) 34 2 (I 9 2)), zPp π, D, 147) := by
  refine z_n 4 (8, [(0, vr 34), (1, vr 9)], [vr 10, vr 35], (I, zPp π, D, 147)) rfl trivial ?_
  refine z_cv 3 [vr 35, vr 10] [] rfl (m_copy (n := 4) ⟨rfl, rfl, rfl, rfl⟩ ⟨rfl, rfl, rfl, rfl⟩) ?_
  refine z_n 4 (19, [(0, vr 34), (1, vr 9)], [vr 12, vr 37], ((zcpR I 36 11), zPp π, D, 147)) rfl trivial ?_
  refine z_cv 3 [vr 37, vr 12] [] rfl (m_copy (n := 4) ⟨rfl, rfl, rfl, rfl⟩ ⟨rfl, rfl, rfl, rfl⟩) ?_
  refine z_n 4 (30, [(0, vr 34), (1, vr 9)], [], ((zup (zcpR (zcpR I 36 11) 38 13) 34 2 (I 9 2)), zPp π, D, 147)) rfl trivial ?_
  first | exact z_ret rfl rfl rfl | exact z_ret rfl (zv1 (by omega)) rfl | (exfalso; omega)
set_option maxRecDepth 20000 in
theorem m_lcp_39_14 {I : zI} {π : Int → Nat} {D : zD}   : zMet 51 [vr 39, vr 14] (I, zPp π, D, 147) none ((zup (zcpR (zcpR (zcpR (zcpR I 41 16) 43 18) 45 20) 47 22) 39 4 (I 14 4)), zPp π, D, 147) := by
  refine z_n 4 (8, [(0, vr 39), (1, vr 14)], [vr 15, vr 40], (I, zPp π, D, 147)) rfl trivial ?_
  refine z_cv 3 [vr 40, vr 15] [] rfl (m_copy (n := 96) ⟨rfl, rfl, rfl, rfl⟩ ⟨rfl, rfl, rfl, rfl⟩) ?_
  refine z_n 4 (19, [(0, vr 39), (1, vr 14)], [vr 17, vr 42], ((zcpR I 41 16), zPp π, D, 147)) rfl trivial ?_
  refine z_cv 3 [vr 42, vr 17] [] rfl (m_copy (n := 96) ⟨rfl, rfl, rfl, rfl⟩ ⟨rfl, rfl, rfl, rfl⟩) ?_
  refine z_n 4 (30, [(0, vr 39), (1, vr 14)], [vr 19, vr 44], ((zcpR (zcpR I 41 16) 43 18), zPp π, D, 147)) rfl trivial ?_
  refine z_cv 3 [vr 44, vr 19] [] rfl (m_copy (n := 96) ⟨rfl, rfl, rfl, rfl⟩ ⟨rfl, rfl, rfl, rfl⟩) ?_
  refine z_n 4 (41, [(0, vr 39), (1, vr 14)], [vr 21, vr 46], ((zcpR (zcpR (zcpR I 41 16) 43 18) 45 20), zPp π, D, 147)) rfl trivial ?_
  refine z_cv 3 [vr 46, vr 21] [] rfl (m_copy (n := 96) ⟨rfl, rfl, rfl, rfl⟩ ⟨rfl, rfl, rfl, rfl⟩) ?_
  refine z_n 4 (52, [(0, vr 39), (1, vr 14)], [], ((zup (zcpR (zcpR (zcpR (zcpR I 41 16) 43 18) 45 20) 47 22) 39 4 (I 14 4)), zPp π, D, 147)) rfl trivial ?_
  first | exact z_ret rfl rfl rfl | exact z_ret rfl (zv1 (by omega)) rfl | (exfalso; omega)
set_option maxRecDepth 20000 in
theorem m_ccp_27_2 {I : zI} {π : Int → Nat} {D : zD}   : zMet 31 [vr 27, vr 2] (I, zPp π, D, 147) none ((zcpC I 27 2), zPp π, D, 147) := by
  refine z_n 4 (8, [(0, vr 27), (1, vr 2)], [vr 3, vr 28], (I, zPp π, D, 147)) rfl trivial ?_
  refine z_cv 3 [vr 28, vr 3] [] rfl (m_copy (n := 24) ⟨rfl, rfl, rfl, rfl⟩ ⟨rfl, rfl, rfl, rfl⟩) ?_
  refine z_n 4 (19, [(0, vr 27), (1, vr 2)], [vr 5, vr 30], ((zcpR I 29 4), zPp π, D, 147)) rfl trivial ?_
  refine z_cv 3 [vr 30, vr 5] [] rfl (m_copy (n := 24) ⟨rfl, rfl, rfl, rfl⟩ ⟨rfl, rfl, rfl, rfl⟩) ?_
  refine z_n 4 (30, [(0, vr 27), (1, vr 2)], [vr 7, vr 32], ((zcpR (zcpR I 29 4) 31 6), zPp π, D, 147)) rfl trivial ?_
  refine z_cv 3 [vr 32, vr 7] [] rfl (m_copy (n := 24) ⟨rfl, rfl, rfl, rfl⟩ ⟨rfl, rfl, rfl, rfl⟩) ?_
  refine z_n 4 (41, [(0, vr 27), (1, vr 2)], [vr 9, vr 34], ((zcpR (zcpR (zcpR I 29 4) 31 6) 33 8), zPp π, D, 147)) rfl trivial ?_
  refine z_cv 57 [vr 34, vr 9] [] rfl (m_rcp_34_9) ?_
  refine z_n 4 (52, [(0, vr 27), (1, vr 2)], [vr 14, vr 39], ((zup (zcpR (zcpR (zcpR (zcpR (zcpR I 29 4) 31 6) 33 8) 36 11) 38 13) 34 2 (I 9 2)), zPp π, D, 147)) rfl trivial ?_
  refine z_cv 51 [vr 39, vr 14] [] rfl (m_lcp_39_14) ?_
  refine z_n 4 (63, [(0, vr 27), (1, vr 2)], [vr 23, vr 48], ((zup (zcpR (zcpR (zcpR (zcpR (zup (zcpR (zcpR (zcpR (zcpR (zcpR I 29 4) 31 6) 33 8) 36 11) 38 13) 34 2 (I 9 2)) 41 16) 43 18) 45 20) 47 22) 39 4 (I 14 4)), zPp π, D, 147)) rfl trivial ?_
  refine z_cv 3 [vr 48, vr 23] [] rfl (m_copy (n := 168) ⟨rfl, rfl, rfl, rfl⟩ ⟨rfl, rfl, rfl, rfl⟩) ?_
  refine z_n 28 (122, [(0, vr 27), (1, vr 2)], [], ((zup (zup (zup (zup (zup (zup (zup (zcpR (zup (zcpR (zcpR (zcpR (zcpR (zup (zcpR (zcpR (zcpR (zcpR (zcpR I 29 4) 31 6) 33 8) 36 11) 38 13) 34 2 (I 9 2)) 41 16) 43 18) 45 20) 47 22) 39 4 (I 14 4)) 49 24) 27 5 (I 2 5)) 27 6 (I 2 6)) 27 7 (I 2 7)) 27 8 (I 2 8)) 27 9 (I 2 9)) 27 10 (I 2 10)) 27 11 (I 2 11)), zPp π, D, 147)) rfl trivial ?_
  exact z_ret rfl rfl (by
    refine congrArg (fun J : zI => ((J, zPp π, D, 147) : zS)) ?_
    funext r j
    by_cases hr : 27 ≤ r ∧ r < 50
    · rcases (by omega : r = 27 ∨ r = 28 ∨ r = 29 ∨ r = 30 ∨ r = 31 ∨ r = 32 ∨ r = 33 ∨ r = 34 ∨ r = 35 ∨ r = 36 ∨ r = 37 ∨ r = 38 ∨ r = 39 ∨ r = 40 ∨ r = 41 ∨ r = 42 ∨ r = 43 ∨ r = 44 ∨ r = 45 ∨ r = 46 ∨ r = 47 ∨ r = 48 ∨ r = 49) with rfl | rfl | rfl | rfl | rfl | rfl | rfl | rfl | rfl | rfl | rfl | rfl | rfl | rfl | rfl | rfl | rfl | rfl | rfl | rfl | rfl | rfl | rfl
      · by_cases hj : 5 ≤ j ∧ j ≤ 11
        · rw [zcpC_in (by decide) (by decide) (by unfold zcm; omega)]
          rcases (by omega : j = 5 ∨ j = 6 ∨ j = 7 ∨ j = 8 ∨ j = 9 ∨ j = 10 ∨ j = 11) with rfl | rfl | rfl | rfl | rfl | rfl | rfl <;> rfl
        · rw [zcpC_no (by unfold zcm; omega)]
          simp only [zup, zcpR]
          simp [show ¬ j = 5 by omega, show ¬ j = 6 by omega, show ¬ j = 7 by omega, show ¬ j = 8 by omega, show ¬ j = 9 by omega, show ¬ j = 10 by omega, show ¬ j = 11 by omega]
      · rw [zcpC_no (by unfold zcm; omega)]; rfl
      · rw [zcpC_in (by decide) (by decide) (by unfold zcm; simp)]; rfl
      · rw [zcpC_no (by unfold zcm; omega)]; rfl
      · rw [zcpC_in (by decide) (by decide) (by unfold zcm; simp)]; rfl
      · rw [zcpC_no (by unfold zcm; omega)]; rfl
      · rw [zcpC_in (by decide) (by decide) (by unfold zcm; simp)]; rfl
      · by_cases hj : j = 2
        · subst hj; rw [zcpC_in (by decide) (by decide) (by unfold zcm; simp)]; rfl
        · rw [zcpC_no (by unfold zcm; omega)]
          simp only [zup, zcpR]
          simp [hj]
      · rw [zcpC_no (by unfold zcm; omega)]; rfl
      · rw [zcpC_in (by decide) (by decide) (by unfold zcm; simp)]; rfl
      · rw [zcpC_no (by unfold zcm; omega)]; rfl
      · rw [zcpC_in (by decide) (by decide) (by unfold zcm; simp)]; rfl
      · by_cases hj : j = 4
        · subst hj; rw [zcpC_in (by decide) (by decide) (by unfold zcm; simp)]; rfl
        · rw [zcpC_no (by unfold zcm; omega)]
          simp only [zup, zcpR]
          simp [hj]
      · rw [zcpC_no (by unfold zcm; omega)]; rfl
      · rw [zcpC_in (by decide) (by decide) (by unfold zcm; simp)]; rfl
      · rw [zcpC_no (by unfold zcm; omega)]; rfl
      · rw [zcpC_in (by decide) (by decide) (by unfold zcm; simp)]; rfl
      · rw [zcpC_no (by unfold zcm; omega)]; rfl
      · rw [zcpC_in (by decide) (by decide) (by unfold zcm; simp)]; rfl
      · rw [zcpC_no (by unfold zcm; omega)]; rfl
      · rw [zcpC_in (by decide) (by decide) (by unfold zcm; simp)]; rfl
      · rw [zcpC_no (by unfold zcm; omega)]; rfl
      · rw [zcpC_in (by decide) (by decide) (by unfold zcm; simp)]; rfl
    · rw [zcpC_out (by omega)]
      simp only [zup, zcpR, show (r = 27) = False by simp; omega, show (r = 29) = False by simp; omega, show (r = 31) = False by simp; omega, show (r = 33) = False by simp; omega, show (r = 34) = False by simp; omega, show (r = 36) = False by simp; omega, show (r = 38) = False by simp; omega, show (r = 39) = False by simp; omega, show (r = 41) = False by simp; omega, show (r = 43) = False by simp; omega, show (r = 45) = False by simp; omega, show (r = 47) = False by simp; omega, show (r = 49) = False by simp; omega, false_and, if_false])
set_option maxRecDepth 20000 in
theorem m_rcp_9_34 {I : zI} {π : Int → Nat} {D : zD}   : zMet 57 [vr 9, vr 34] (I, zPp π, D, 147) none ((zup (zcpR (zcpR I 11 36) 13 38) 9 2 (I 34 2)), zPp π, D, 147) := by
  refine z_n 4 (8, [(0, vr 9), (1, vr 34)], [vr 35, vr 10], (I, zPp π, D, 147)) rfl trivial ?_
  refine z_cv 3 [vr 10, vr 35] [] rfl (m_copy (n := 4) ⟨rfl, rfl, rfl, rfl⟩ ⟨rfl, rfl, rfl, rfl⟩) ?_
  refine z_n 4 (19, [(0, vr 9), (1, vr 34)], [vr 37, vr 12], ((zcpR I 11 36), zPp π, D, 147)) rfl trivial ?_
  refine z_cv 3 [vr 12, vr 37] [] rfl (m_copy (n := 4) ⟨rfl, rfl, rfl, rfl⟩ ⟨rfl, rfl, rfl, rfl⟩) ?_
  refine z_n 4 (30, [(0, vr 9), (1, vr 34)], [], ((zup (zcpR (zcpR I 11 36) 13 38) 9 2 (I 34 2)), zPp π, D, 147)) rfl trivial ?_
  first | exact z_ret rfl rfl rfl | exact z_ret rfl (zv1 (by omega)) rfl | (exfalso; omega)
set_option maxRecDepth 20000 in
theorem m_lcp_14_39 {I : zI} {π : Int → Nat} {D : zD}   : zMet 51 [vr 14, vr 39] (I, zPp π, D, 147) none ((zup (zcpR (zcpR (zcpR (zcpR I 16 41) 18 43) 20 45) 22 47) 14 4 (I 39 4)), zPp π, D, 147) := by
  refine z_n 4 (8, [(0, vr 14), (1, vr 39)], [vr 40, vr 15], (I, zPp π, D, 147)) rfl trivial ?_
  refine z_cv 3 [vr 15, vr 40] [] rfl (m_copy (n := 96) ⟨rfl, rfl, rfl, rfl⟩ ⟨rfl, rfl, rfl, rfl⟩) ?_
  refine z_n 4 (19, [(0, vr 14), (1, vr 39)], [vr 42, vr 17], ((zcpR I 16 41), zPp π, D, 147)) rfl trivial ?_
  refine z_cv 3 [vr 17, vr 42] [] rfl (m_copy (n := 96) ⟨rfl, rfl, rfl, rfl⟩ ⟨rfl, rfl, rfl, rfl⟩) ?_
  refine z_n 4 (30, [(0, vr 14), (1, vr 39)], [vr 44, vr 19], ((zcpR (zcpR I 16 41) 18 43), zPp π, D, 147)) rfl trivial ?_
  refine z_cv 3 [vr 19, vr 44] [] rfl (m_copy (n := 96) ⟨rfl, rfl, rfl, rfl⟩ ⟨rfl, rfl, rfl, rfl⟩) ?_
  refine z_n 4 (41, [(0, vr 14), (1, vr 39)], [vr 46, vr 21], ((zcpR (zcpR (zcpR I 16 41) 18 43) 20 45), zPp π, D, 147)) rfl trivial ?_
  refine z_cv 3 [vr 21, vr 46] [] rfl (m_copy (n := 96) ⟨rfl, rfl, rfl, rfl⟩ ⟨rfl, rfl, rfl, rfl⟩) ?_
  refine z_n 4 (52, [(0, vr 14), (1, vr 39)], [], ((zup (zcpR (zcpR (zcpR (zcpR I 16 41) 18 43) 20 45) 22 47) 14 4 (I 39 4)), zPp π, D, 147)) rfl trivial ?_
  first | exact z_ret rfl rfl rfl | exact z_ret rfl (zv1 (by omega)) rfl | (exfalso; omega)
set_option maxRecDepth 20000 in
theorem m_ccp_2_27 {I : zI} {π : Int → Nat} {D : zD}   : zMet 31 [vr 2, vr 27] (I, zPp π, D, 147) none ((zcpC I 2 27), zPp π, D, 147) := by
  refine z_n 4 (8, [(0, vr 2), (1, vr 27)], [vr 28, vr 3], (I, zPp π, D, 147)) rfl trivial ?_
  refine z_cv 3 [vr 3, vr 28] [] rfl (m_copy (n := 24) ⟨rfl, rfl, rfl, rfl⟩ ⟨rfl, rfl, rfl, rfl⟩) ?_
  refine z_n 4 (19, [(0, vr 2), (1, vr 27)], [vr 30, vr 5], ((zcpR I 4 29), zPp π, D, 147)) rfl trivial ?_
  refine z_cv 3 [vr 5, vr 30] [] rfl (m_copy (n := 24) ⟨rfl, rfl, rfl, rfl⟩ ⟨rfl, rfl, rfl, rfl⟩) ?_
  refine z_n 4 (30, [(0, vr 2), (1, vr 27)], [vr 32, vr 7], ((zcpR (zcpR I 4 29) 6 31), zPp π, D, 147)) rfl trivial ?_
  refine z_cv 3 [vr 7, vr 32] [] rfl (m_copy (n := 24) ⟨rfl, rfl, rfl, rfl⟩ ⟨rfl, rfl, rfl, rfl⟩) ?_
  refine z_n 4 (41, [(0, vr 2), (1, vr 27)], [vr 34, vr 9], ((zcpR (zcpR (zcpR I 4 29) 6 31) 8 33), zPp π, D, 147)) rfl trivial ?_
  refine z_cv 57 [vr 9, vr 34] [] rfl (m_rcp_9_34) ?_
  refine z_n 4 (52, [(0, vr 2), (1, vr 27)], [vr 39, vr 14], ((zup (zcpR (zcpR (zcpR (zcpR (zcpR I 4 29) 6 31) 8 33) 11 36) 13 38) 9 2 (I 34 2)), zPp π, D, 147)) rfl trivial ?_
  refine z_cv 51 [vr 14, vr 39] [] rfl (m_lcp_14_39) ?_
  refine z_n 4 (63, [(0, vr 2), (1, vr 27)], [vr 48, vr 23], ((zup (zcpR (zcpR (zcpR (zcpR (zup (zcpR (zcpR (zcpR (zcpR (zcpR I 4 29) 6 31) 8 33) 11 36) 13 38) 9 2 (I 34 2)) 16 41) 18 43) 20 45) 22 47) 14 4 (I 39 4)), zPp π, D, 147)) rfl trivial ?_
  refine z_cv 3 [vr 23, vr 48] [] rfl (m_copy (n := 168) ⟨rfl, rfl, rfl, rfl⟩ ⟨rfl, rfl, rfl, rfl⟩) ?_
  refine z_n 28 (122, [(0, vr 2), (1, vr 27)], [], ((zup (zup (zup (zup (zup (zup (zup (zcpR (zup (zcpR (zcpR (zcpR (zcpR (zup (zcpR (zcpR (zcpR (zcpR (zcpR I 4 29) 6 31) 8 33) 11 36) 13 38) 9 2 (I 34 2)) 16 41) 18 43) 20 45) 22 47) 14 4 (I 39 4)) 24 49) 2 5 (I 27 5)) 2 6 (I 27 6)) 2 7 (I 27 7)) 2 8 (I 27 8)) 2 9 (I 27 9)) 2 10 (I 27 10)) 2 11 (I 27 11)), zPp π, D, 147)) rfl trivial ?_
  exact z_ret rfl rfl (by
    refine congrArg (fun J : zI => ((J, zPp π, D, 147) : zS)) ?_
    funext r j
    by_cases hr : 2 ≤ r ∧ r < 25
    · rcases (by omega : r = 2 ∨ r = 3 ∨ r = 4 ∨ r = 5 ∨ r = 6 ∨ r = 7 ∨ r = 8 ∨ r = 9 ∨ r = 10 ∨ r = 11 ∨ r = 12 ∨ r = 13 ∨ r = 14 ∨ r = 15 ∨ r = 16 ∨ r = 17 ∨ r = 18 ∨ r = 19 ∨ r = 20 ∨ r = 21 ∨ r = 22 ∨ r = 23 ∨ r = 24) with rfl | rfl | rfl | rfl | rfl | rfl | rfl | rfl | rfl | rfl | rfl | rfl | rfl | rfl | rfl | rfl | rfl | rfl | rfl | rfl | rfl | rfl | rfl
      · by_cases hj : 5 ≤ j ∧ j ≤ 11
        · rw [zcpC_in (by decide) (by decide) (by unfold zcm; omega)]
          rcases (by omega : j = 5 ∨ j = 6 ∨ j = 7 ∨ j = 8 ∨ j = 9 ∨ j = 10 ∨ j = 11) with rfl | rfl | rfl | rfl | rfl | rfl | rfl <;> rfl
        · rw [zcpC_no (by unfold zcm; omega)]
          simp only [zup, zcpR]
          simp [show ¬ j = 5 by omega, show ¬ j = 6 by omega, show ¬ j = 7 by omega, show ¬ j = 8 by omega, show ¬ j = 9 by omega, show ¬ j = 10 by omega, show ¬ j = 11 by omega]
      · rw [zcpC_no (by unfold zcm; omega)]; rfl
      · rw [zcpC_in (by decide) (by decide) (by unfold zcm; simp)]; rfl
      · rw [zcpC_no (by unfold zcm; omega)]; rfl
      · rw [zcpC_in (by decide) (by decide) (by unfold zcm; simp)]; rfl
      · rw [zcpC_no (by unfold zcm; omega)]; rfl
      · rw [zcpC_in (by decide) (by decide) (by unfold zcm; simp)]; rfl
      · by_cases hj : j = 2
        · subst hj; rw [zcpC_in (by decide) (by decide) (by unfold zcm; simp)]; rfl
        · rw [zcpC_no (by unfold zcm; omega)]
          simp only [zup, zcpR]
          simp [hj]
      · rw [zcpC_no (by unfold zcm; omega)]; rfl
      · rw [zcpC_in (by decide) (by decide) (by unfold zcm; simp)]; rfl
      · rw [zcpC_no (by unfold zcm; omega)]; rfl
      · rw [zcpC_in (by decide) (by decide) (by unfold zcm; simp)]; rfl
      · by_cases hj : j = 4
        · subst hj; rw [zcpC_in (by decide) (by decide) (by unfold zcm; simp)]; rfl
        · rw [zcpC_no (by unfold zcm; omega)]
          simp only [zup, zcpR]
          simp [hj]
      · rw [zcpC_no (by unfold zcm; omega)]; rfl
      · rw [zcpC_in (by decide) (by decide) (by unfold zcm; simp)]; rfl
      · rw [zcpC_no (by unfold zcm; omega)]; rfl
      · rw [zcpC_in (by decide) (by decide) (by unfold zcm; simp)]; rfl
      · rw [zcpC_no (by unfold zcm; omega)]; rfl
      · rw [zcpC_in (by decide) (by decide) (by unfold zcm; simp)]; rfl
      · rw [zcpC_no (by unfold zcm; omega)]; rfl
      · rw [zcpC_in (by decide) (by decide) (by unfold zcm; simp)]; rfl
      · rw [zcpC_no (by unfold zcm; omega)]; rfl
      · rw [zcpC_in (by decide) (by decide) (by unfold zcm; simp)]; rfl
    · rw [zcpC_out (by omega)]
      simp only [zup, zcpR, show (r = 2) = False by simp; omega, show (r = 4) = False by simp; omega, show (r = 6) = False by simp; omega, show (r = 8) = False by simp; omega, show (r = 9) = False by simp; omega, show (r = 11) = False by simp; omega, show (r = 13) = False by simp; omega, show (r = 14) = False by simp; omega, show (r = 16) = False by simp; omega, show (r = 18) = False by simp; omega, show (r = 20) = False by simp; omega, show (r = 22) = False by simp; omega, show (r = 24) = False by simp; omega, false_and, if_false])
set_option maxRecDepth 20000 in
theorem m_rcp_57_9 {I : zI} {π : Int → Nat} {D : zD}   : zMet 57 [vr 57, vr 9] (I, zPp π, D, 147) none ((zup (zcpR (zcpR I 59 11) 61 13) 57 2 (I 9 2)), zPp π, D, 147) := by
  refine z_n 4 (8, [(0, vr 57), (1, vr 9)], [vr 10, vr 58], (I, zPp π, D, 147)) rfl trivial ?_
  refine z_cv 3 [vr 58, vr 10] [] rfl (m_copy (n := 4) ⟨rfl, rfl, rfl, rfl⟩ ⟨rfl, rfl, rfl, rfl⟩) ?_
  refine z_n 4 (19, [(0, vr 57), (1, vr 9)], [vr 12, vr 60], ((zcpR I 59 11), zPp π, D, 147)) rfl trivial ?_
  refine z_cv 3 [vr 60, vr 12] [] rfl (m_copy (n := 4) ⟨rfl, rfl, rfl, rfl⟩ ⟨rfl, rfl, rfl, rfl⟩) ?_
  refine z_n 4 (30, [(0, vr 57), (1, vr 9)], [], ((zup (zcpR (zcpR I 59 11) 61 13) 57 2 (I 9 2)), zPp π, D, 147)) rfl trivial ?_
  first | exact z_ret rfl rfl rfl | exact z_ret rfl (zv1 (by omega)) rfl | (exfalso; omega)
set_option maxRecDepth 20000 in
theorem m_lcp_62_14 {I : zI} {π : Int → Nat} {D : zD}   : zMet 51 [vr 62, vr 14] (I, zPp π, D, 147) none ((zup (zcpR (zcpR (zcpR (zcpR I 64 16) 66 18) 68 20) 70 22) 62 4 (I 14 4)), zPp π, D, 147) := by
  refine z_n 4 (8, [(0, vr 62), (1, vr 14)], [vr 15, vr 63], (I, zPp π, D, 147)) rfl trivial ?_
  refine z_cv 3 [vr 63, vr 15] [] rfl (m_copy (n := 96) ⟨rfl, rfl, rfl, rfl⟩ ⟨rfl, rfl, rfl, rfl⟩) ?_
  refine z_n 4 (19, [(0, vr 62), (1, vr 14)], [vr 17, vr 65], ((zcpR I 64 16), zPp π, D, 147)) rfl trivial ?_
  refine z_cv 3 [vr 65, vr 17] [] rfl (m_copy (n := 96) ⟨rfl, rfl, rfl, rfl⟩ ⟨rfl, rfl, rfl, rfl⟩) ?_
  refine z_n 4 (30, [(0, vr 62), (1, vr 14)], [vr 19, vr 67], ((zcpR (zcpR I 64 16) 66 18), zPp π, D, 147)) rfl trivial ?_
  refine z_cv 3 [vr 67, vr 19] [] rfl (m_copy (n := 96) ⟨rfl, rfl, rfl, rfl⟩ ⟨rfl, rfl, rfl, rfl⟩) ?_
  refine z_n 4 (41, [(0, vr 62), (1, vr 14)], [vr 21, vr 69], ((zcpR (zcpR (zcpR I 64 16) 66 18) 68 20), zPp π, D, 147)) rfl trivial ?_
  refine z_cv 3 [vr 69, vr 21] [] rfl (m_copy (n := 96) ⟨rfl, rfl, rfl, rfl⟩ ⟨rfl, rfl, rfl, rfl⟩) ?_
  refine z_n 4 (52, [(0, vr 62), (1, vr 14)], [], ((zup (zcpR (zcpR (zcpR (zcpR I 64 16) 66 18) 68 20) 70 22) 62 4 (I 14 4)), zPp π, D, 147)) rfl trivial ?_
  first | exact z_ret rfl rfl rfl | exact z_ret rfl (zv1 (by omega)) rfl | (exfalso; omega)
set_option maxRecDepth 20000 in
theorem m_ccp_50_2 {I : zI} {π : Int → Nat} {D : zD}   : zMet 31 [vr 50, vr 2] (I, zPp π, D, 147) none ((zcpC I 50 2), zPp π, D, 147) := by
  refine z_n 4 (8, [(0, vr 50), (1, vr 2)], [vr 3, vr 51], (I, zPp π, D, 147)) rfl trivial ?_
  refine z_cv 3 [vr 51, vr 3] [] rfl (m_copy (n := 24) ⟨rfl, rfl, rfl, rfl⟩ ⟨rfl, rfl, rfl, rfl⟩) ?_
  refine z_n 4 (19, [(0, vr 50), (1, vr 2)], [vr 5, vr 53], ((zcpR I 52 4), zPp π, D, 147)) rfl trivial ?_
  refine z_cv 3 [vr 53, vr 5] [] rfl (m_copy (n := 24) ⟨rfl, rfl, rfl, rfl⟩ ⟨rfl, rfl, rfl, rfl⟩) ?_
  refine z_n 4 (30, [(0, vr 50), (1, vr 2)], [vr 7, vr 55], ((zcpR (zcpR I 52 4) 54 6), zPp π, D, 147)) rfl trivial ?_
  refine z_cv 3 [vr 55, vr 7] [] rfl (m_copy (n := 24) ⟨rfl, rfl, rfl, rfl⟩ ⟨rfl, rfl, rfl, rfl⟩) ?_
  refine z_n 4 (41, [(0, vr 50), (1, vr 2)], [vr 9, vr 57], ((zcpR (zcpR (zcpR I 52 4) 54 6) 56 8), zPp π, D, 147)) rfl trivial ?_
  refine z_cv 57 [vr 57, vr 9] [] rfl (m_rcp_57_9) ?_
  refine z_n 4 (52, [(0, vr 50), (1, vr 2)], [vr 14, vr 62], ((zup (zcpR (zcpR (zcpR (zcpR (zcpR I 52 4) 54 6) 56 8) 59 11) 61 13) 57 2 (I 9 2)), zPp π, D, 147)) rfl trivial ?_
  refine z_cv 51 [vr 62, vr 14] [] rfl (m_lcp_62_14) ?_
  refine z_n 4 (63, [(0, vr 50), (1, vr 2)], [vr 23, vr 71], ((zup (zcpR (zcpR (zcpR (zcpR (zup (zcpR (zcpR (zcpR (zcpR (zcpR I 52 4) 54 6) 56 8) 59 11) 61 13) 57 2 (I 9 2)) 64 16) 66 18) 68 20) 70 22) 62 4 (I 14 4)), zPp π, D, 147)) rfl trivial ?_
  refine z_cv 3 [vr 71, vr 23] [] rfl (m_copy (n := 168) ⟨rfl, rfl, rfl, rfl⟩ ⟨rfl, rfl, rfl, rfl⟩) ?_
  refine z_n 28 (122, [(0, vr 50), (1, vr 2)], [], ((zup (zup (zup (zup (zup (zup (zup (zcpR (zup (zcpR (zcpR (zcpR (zcpR (zup (zcpR (zcpR (zcpR (zcpR (zcpR I 52 4) 54 6) 56 8) 59 11) 61 13) 57 2 (I 9 2)) 64 16) 66 18) 68 20) 70 22) 62 4 (I 14 4)) 72 24) 50 5 (I 2 5)) 50 6 (I 2 6)) 50 7 (I 2 7)) 50 8 (I 2 8)) 50 9 (I 2 9)) 50 10 (I 2 10)) 50 11 (I 2 11)), zPp π, D, 147)) rfl trivial ?_
  exact z_ret rfl rfl (by
    refine congrArg (fun J : zI => ((J, zPp π, D, 147) : zS)) ?_
    funext r j
    by_cases hr : 50 ≤ r ∧ r < 73
    · rcases (by omega : r = 50 ∨ r = 51 ∨ r = 52 ∨ r = 53 ∨ r = 54 ∨ r = 55 ∨ r = 56 ∨ r = 57 ∨ r = 58 ∨ r = 59 ∨ r = 60 ∨ r = 61 ∨ r = 62 ∨ r = 63 ∨ r = 64 ∨ r = 65 ∨ r = 66 ∨ r = 67 ∨ r = 68 ∨ r = 69 ∨ r = 70 ∨ r = 71 ∨ r = 72) with rfl | rfl | rfl | rfl | rfl | rfl | rfl | rfl | rfl | rfl | rfl | rfl | rfl | rfl | rfl | rfl | rfl | rfl | rfl | rfl | rfl | rfl | rfl
      · by_cases hj : 5 ≤ j ∧ j ≤ 11
        · rw [zcpC_in (by decide) (by decide) (by unfold zcm; omega)]
          rcases (by omega : j = 5 ∨ j = 6 ∨ j = 7 ∨ j = 8 ∨ j = 9 ∨ j = 10 ∨ j = 11) with rfl | rfl | rfl | rfl | rfl | rfl | rfl <;> rfl
        · rw [zcpC_no (by unfold zcm; omega)]
          simp only [zup, zcpR]
          simp [show ¬ j = 5 by omega, show ¬ j = 6 by omega, show ¬ j = 7 by omega, show ¬ j = 8 by omega, show ¬ j = 9 by omega, show ¬ j = 10 by omega, show ¬ j = 11 by omega]
      · rw [zcpC_no (by unfold zcm; omega)]; rfl
      · rw [zcpC_in (by decide) (by decide) (by unfold zcm; simp)]; rfl
      · rw [zcpC_no (by unfold zcm; omega)]; rfl
      · rw [zcpC_in (by decide) (by decide) (by unfold zcm; simp)]; rfl
      · rw [zcpC_no (by unfold zcm; omega)]; rfl
      · rw [zcpC_in (by decide) (by decide) (by unfold zcm; simp)]; rfl
      · by_cases hj : j = 2
        · subst hj; rw [zcpC_in (by decide) (by decide) (by unfold zcm; simp)]; rfl
        · rw [zcpC_no (by unfold zcm; omega)]
          simp only [zup, zcpR]
          simp [hj]
      · rw [zcpC_no (by unfold zcm; omega)]; rfl
      · rw [zcpC_in (by decide) (by decide) (by unfold zcm; simp)]; rfl
      · rw [zcpC_no (by unfold zcm; omega)]; rfl
      · rw [zcpC_in (by decide) (by decide) (by unfold zcm; simp)]; rfl
      · by_cases hj : j = 4
        · subst hj; rw [zcpC_in (by decide) (by decide) (by unfold zcm; simp)]; rfl
        · rw [zcpC_no (by unfold zcm; omega)]
          simp only [zup, zcpR]
          simp [hj]
      · rw [zcpC_no (by unfold zcm; omega)]; rfl
      · rw [zcpC_in (by decide) (by decide) (by unfold zcm; simp)]; rfl
      · rw [zcpC_no (by unfold zcm; omega)]; rfl
      · rw [zcpC_in (by decide) (by decide) (by unfold zcm; simp)]; rfl
      · rw [zcpC_no (by unfold zcm; omega)]; rfl
      · rw [zcpC_in (by decide) (by decide) (by unfold zcm; simp)]; rfl
      · rw [zcpC_no (by unfold zcm; omega)]; rfl
      · rw [zcpC_in (by decide) (by decide) (by unfold zcm; simp)]; rfl
      · rw [zcpC_no (by unfold zcm; omega)]; rfl
      · rw [zcpC_in (by decide) (by decide) (by unfold zcm; simp)]; rfl
    · rw [zcpC_out (by omega)]
      simp only [zup, zcpR, show (r = 50) = False by simp; omega, show (r = 52) = False by simp; omega, show (r = 54) = False by simp; omega, show (r = 56) = False by simp; omega, show (r = 57) = False by simp; omega, show (r = 59) = False by simp; omega, show (r = 61) = False by simp; omega, show (r = 62) = False by simp; omega, show (r = 64) = False by simp; omega, show (r = 66) = False by simp; omega, show (r = 68) = False by simp; omega, show (r = 70) = False by simp; omega, show (r = 72) = False by simp; omega, false_and, if_false])
set_option maxRecDepth 20000 in
theorem m_rcp_9_57 {I : zI} {π : Int → Nat} {D : zD}   : zMet 57 [vr 9, vr 57] (I, zPp π, D, 147) none ((zup (zcpR (zcpR I 11 59) 13 61) 9 2 (I 57 2)), zPp π, D, 147) := by
  refine z_n 4 (8, [(0, vr 9), (1, vr 57)], [vr 58, vr 10], (I, zPp π, D, 147)) rfl trivial ?_
  refine z_cv 3 [vr 10, vr 58] [] rfl (m_copy (n := 4) ⟨rfl, rfl, rfl, rfl⟩ ⟨rfl, rfl, rfl, rfl⟩) ?_
  refine z_n 4 (19, [(0, vr 9), (1, vr 57)], [vr 60, vr 12], ((zcpR I 11 59), zPp π, D, 147)) rfl trivial ?_
  refine z_cv 3 [vr 12, vr 60] [] rfl (m_copy (n := 4) ⟨rfl, rfl, rfl, rfl⟩ ⟨rfl, rfl, rfl, rfl⟩) ?_
  refine z_n 4 (30, [(0, vr 9), (1, vr 57)], [], ((zup (zcpR (zcpR I 11 59) 13 61) 9 2 (I 57 2)), zPp π, D, 147)) rfl trivial ?_
  first | exact z_ret rfl rfl rfl | exact z_ret rfl (zv1 (by omega)) rfl | (exfalso; omega)
set_option maxRecDepth 20000 in
theorem m_lcp_14_62 {I : zI} {π : Int → Nat} {D : zD}   : zMet 51 [vr 14, vr 62] (I, zPp π, D, 147) none ((zup (zcpR (zcpR (zcpR (zcpR I 16 64) 18 66) 20 68) 22 70) 14 4 (I 62 4)), zPp π, D, 147) := by
  refine z_n 4 (8, [(0, vr 14), (1, vr 62)], [vr 63, vr 15], (I, zPp π, D, 147)) rfl trivial ?_
  refine z_cv 3 [vr 15, vr 63] [] rfl (m_copy (n := 96) ⟨rfl, rfl, rfl, rfl⟩ ⟨rfl, rfl, rfl, rfl⟩) ?_
  refine z_n 4 (19, [(0, vr 14), (1, vr 62)], [vr 65, vr 17], ((zcpR I 16 64), zPp π, D, 147)) rfl trivial ?_
  refine z_cv 3 [vr 17, vr 65] [] rfl (m_copy (n := 96) ⟨rfl, rfl, rfl, rfl⟩ ⟨rfl, rfl, rfl, rfl⟩) ?_
  refine z_n 4 (30, [(0, vr 14), (1, vr 62)], [vr 67, vr 19], ((zcpR (zcpR I 16 64) 18 66), zPp π, D, 147)) rfl trivial ?_
  refine z_cv 3 [vr 19, vr 67] [] rfl (m_copy (n := 96) ⟨rfl, rfl, rfl, rfl⟩ ⟨rfl, rfl, rfl, rfl⟩) ?_
  refine z_n 4 (41, [(0, vr 14), (1, vr 62)], [vr 69, vr 21], ((zcpR (zcpR (zcpR I 16 64) 18 66) 20 68), zPp π, D, 147)) rfl trivial ?_
  refine z_cv 3 [vr 21, vr 69] [] rfl (m_copy (n := 96) ⟨rfl, rfl, rfl, rfl⟩ ⟨rfl, rfl, rfl, rfl⟩) ?_
  refine z_n 4 (52, [(0, vr 14), (1, vr 62)], [], ((zup (zcpR (zcpR (zcpR (zcpR I 16 64) 18 66) 20 68) 22 70) 14 4 (I 62 4)), zPp π, D, 147)) rfl trivial ?_
  first | exact z_ret rfl rfl rfl | exact z_ret rfl (zv1 (by omega)) rfl | (exfalso; omega)
set_option maxRecDepth 20000 in
theorem m_ccp_2_50 {I : zI} {π : Int → Nat} {D : zD}   : zMet 31 [vr 2, vr 50] (I, zPp π, D, 147) none ((zcpC I 2 50), zPp π, D, 147) := by
  refine z_n 4 (8, [(0, vr 2), (1, vr 50)], [vr 51, vr 3], (I, zPp π, D, 147)) rfl trivial ?_
  refine z_cv 3 [vr 3, vr 51] [] rfl (m_copy (n := 24) ⟨rfl, rfl, rfl, rfl⟩ ⟨rfl, rfl, rfl, rfl⟩) ?_
  refine z_n 4 (19, [(0, vr 2), (1, vr 50)], [vr 53, vr 5], ((zcpR I 4 52), zPp π, D, 147)) rfl trivial ?_
  refine z_cv 3 [vr 5, vr 53] [] rfl (m_copy (n := 24) ⟨rfl, rfl, rfl, rfl⟩ ⟨rfl, rfl, rfl, rfl⟩) ?_
  refine z_n 4 (30, [(0, vr 2), (1, vr 50)], [vr 55, vr 7], ((zcpR (zcpR I 4 52) 6 54), zPp π, D, 147)) rfl trivial ?_
  refine z_cv 3 [vr 7, vr 55] [] rfl (m_copy (n := 24) ⟨rfl, rfl, rfl, rfl⟩ ⟨rfl, rfl, rfl, rfl⟩) ?_
  refine z_n 4 (41, [(0, vr 2), (1, vr 50)], [vr 57, vr 9], ((zcpR (zcpR (zcpR I 4 52) 6 54) 8 56), zPp π, D, 147)) rfl trivial ?_
  refine z_cv 57 [vr 9, vr 57] [] rfl (m_rcp_9_57) ?_
  refine z_n 4 (52, [(0, vr 2), (1, vr 50)], [vr 62, vr 14], ((zup (zcpR (zcpR (zcpR (zcpR (zcpR I 4 52) 6 54) 8 56) 11 59) 13 61) 9 2 (I 57 2)), zPp π, D, 147)) rfl trivial ?_
  refine z_cv 51 [vr 14, vr 62] [] rfl (m_lcp_14_62) ?_
  refine z_n 4 (63, [(0, vr 2), (1, vr 50)], [vr 71, vr 23], ((zup (zcpR (zcpR (zcpR (zcpR (zup (zcpR (zcpR (zcpR (zcpR (zcpR I 4 52) 6 54) 8 56) 11 59) 13 61) 9 2 (I 57 2)) 16 64) 18 66) 20 68) 22 70) 14 4 (I 62 4)), zPp π, D, 147)) rfl trivial ?_
  refine z_cv 3 [vr 23, vr 71] [] rfl (m_copy (n := 168) ⟨rfl, rfl, rfl, rfl⟩ ⟨rfl, rfl, rfl, rfl⟩) ?_
  refine z_n 28 (122, [(0, vr 2), (1, vr 50)], [], ((zup (zup (zup (zup (zup (zup (zup (zcpR (zup (zcpR (zcpR (zcpR (zcpR (zup (zcpR (zcpR (zcpR (zcpR (zcpR I 4 52) 6 54) 8 56) 11 59) 13 61) 9 2 (I 57 2)) 16 64) 18 66) 20 68) 22 70) 14 4 (I 62 4)) 24 72) 2 5 (I 50 5)) 2 6 (I 50 6)) 2 7 (I 50 7)) 2 8 (I 50 8)) 2 9 (I 50 9)) 2 10 (I 50 10)) 2 11 (I 50 11)), zPp π, D, 147)) rfl trivial ?_
  exact z_ret rfl rfl (by
    refine congrArg (fun J : zI => ((J, zPp π, D, 147) : zS)) ?_
    funext r j
    by_cases hr : 2 ≤ r ∧ r < 25
    · rcases (by omega : r = 2 ∨ r = 3 ∨ r = 4 ∨ r = 5 ∨ r = 6 ∨ r = 7 ∨ r = 8 ∨ r = 9 ∨ r = 10 ∨ r = 11 ∨ r = 12 ∨ r = 13 ∨ r = 14 ∨ r = 15 ∨ r = 16 ∨ r = 17 ∨ r = 18 ∨ r = 19 ∨ r = 20 ∨ r = 21 ∨ r = 22 ∨ r = 23 ∨ r = 24) with rfl | rfl | rfl | rfl | rfl | rfl | rfl | rfl | rfl | rfl | rfl | rfl | rfl | rfl | rfl | rfl | rfl | rfl | rfl | rfl | rfl | rfl | rfl
      · by_cases hj : 5 ≤ j ∧ j ≤ 11
        · rw [zcpC_in (by decide) (by decide) (by unfold zcm; omega)]
          rcases (by omega : j = 5 ∨ j = 6 ∨ j = 7 ∨ j = 8 ∨ j = 9 ∨ j = 10 ∨ j = 11) with rfl | rfl | rfl | rfl | rfl | rfl | rfl <;> rfl
        · rw [zcpC_no (by unfold zcm; omega)]
          simp only [zup, zcpR]
          simp [show ¬ j = 5 by omega, show ¬ j = 6 by omega, show ¬ j = 7 by omega, show ¬ j = 8 by omega, show ¬ j = 9 by omega, show ¬ j = 10 by omega, show ¬ j = 11 by omega]
      · rw [zcpC_no (by unfold zcm; omega)]; rfl
      · rw [zcpC_in (by decide) (by decide) (by unfold zcm; simp)]; rfl
      · rw [zcpC_no (by unfold zcm; omega)]; rfl
      · rw [zcpC_in (by decide) (by decide) (by unfold zcm; simp)]; rfl
      · rw [zcpC_no (by unfold zcm; omega)]; rfl
      · rw [zcpC_in (by decide) (by decide) (by unfold zcm; simp)]; rfl
      · by_cases hj : j = 2
        · subst hj; rw [zcpC_in (by decide) (by decide) (by unfold zcm; simp)]; rfl
        · rw [zcpC_no (by unfold zcm; omega)]
          simp only [zup, zcpR]
          simp [hj]
      · rw [zcpC_no (by unfold zcm; omega)]; rfl
      · rw [zcpC_in (by decide) (by decide) (by unfold zcm; simp)]; rfl
      · rw [zcpC_no (by unfold zcm; omega)]; rfl
      · rw [zcpC_in (by decide) (by decide) (by unfold zcm; simp)]; rfl
      · by_cases hj : j = 4
        · subst hj; rw [zcpC_in (by decide) (by decide) (by unfold zcm; simp)]; rfl
        · rw [zcpC_no (by unfold zcm; omega)]
          simp only [zup, zcpR]
          simp [hj]
      · rw [zcpC_no (by unfold zcm; omega)]; rfl
      · rw [zcpC_in (by decide) (by decide) (by unfold zcm; simp)]; rfl
      · rw [zcpC_no (by unfold zcm; omega)]; rfl
      · rw [zcpC_in (by decide) (by decide) (by unfold zcm; simp)]; rfl
      · rw [zcpC_no (by unfold zcm; omega)]; rfl
      · rw [zcpC_in (by decide) (by decide) (by unfold zcm; simp)]; rfl
      · rw [zcpC_no (by unfold zcm; omega)]; rfl
      · rw [zcpC_in (by decide) (by decide) (by unfold zcm; simp)]; rfl
      · rw [zcpC_no (by unfold zcm; omega)]; rfl
      · rw [zcpC_in (by decide) (by decide) (by unfold zcm; simp)]; rfl
    · rw [zcpC_out (by omega)]
      simp only [zup, zcpR, show (r = 2) = False by simp; omega, show (r = 4) = False by simp; omega, show (r = 6) = False by simp; omega, show (r = 8) = False by simp; omega, show (r = 9) = False by simp; omega, show (r = 11) = False by simp; omega, show (r = 13) = False by simp; omega, show (r = 14) = False by simp; omega, show (r = 16) = False by simp; omega, show (r = 18) = False by simp; omega, show (r = 20) = False by simp; omega, show (r = 22) = False by simp; omega, show (r = 24) = False by simp; omega, false_and, if_false])
set_option maxRecDepth 20000 in
theorem m_rcp_80_9 {I : zI} {π : Int → Nat} {D : zD}   : zMet 57 [vr 80, vr 9] (I, zPp π, D, 147) none ((zup (zcpR (zcpR I 82 11) 84 13) 80 2 (I 9 2)), zPp π, D, 147) := by
  refine z_n 4 (8, [(0, vr 80), (1, vr 9)], [vr 10, vr 81], (I, zPp π, D, 147)) rfl trivial ?_
  refine z_cv 3 [vr 81, vr 10] [] rfl (m_copy (n := 4) ⟨rfl, rfl, rfl, rfl⟩ ⟨rfl, rfl, rfl, rfl⟩) ?_
  refine z_n 4 (19, [(0, vr 80), (1, vr 9)], [vr 12, vr 83], ((zcpR I 82 11), zPp π, D, 147)) rfl trivial ?_
  refine z_cv 3 [vr 83, vr 12] [] rfl (m_copy (n := 4) ⟨rfl, rfl, rfl, rfl⟩ ⟨rfl, rfl, rfl, rfl⟩) ?_
  refine z_n 4 (30, [(0, vr 80), (1, vr 9)], [], ((zup (zcpR (zcpR I 82 11) 84 13) 80 2 (I 9 2)), zPp π, D, 147)) rfl trivial ?_
  first | exact z_ret rfl rfl rfl | exact z_ret rfl (zv1 (by omega)) rfl | (exfalso; omega)
set_option maxRecDepth 20000 in
theorem m_lcp_85_14 {I : zI} {π : Int → Nat} {D : zD}   : zMet 51 [vr 85, vr 14] (I, zPp π, D, 147) none ((zup (zcpR (zcpR (zcpR (zcpR I 87 16) 89 18) 91 20) 93 22) 85 4 (I 14 4)), zPp π, D, 147) := by
  refine z_n 4 (8, [(0, vr 85), (1, vr 14)], [vr 15, vr 86], (I, zPp π, D, 147)) rfl trivial ?_
  refine z_cv 3 [vr 86, vr 15] [] rfl (m_copy (n := 96) ⟨rfl, rfl, rfl, rfl⟩ ⟨rfl, rfl, rfl, rfl⟩) ?_
  refine z_n 4 (19, [(0, vr 85), (1, vr 14)], [vr 17, vr 88], ((zcpR I 87 16), zPp π, D, 147)) rfl trivial ?_
  refine z_cv 3 [vr 88, vr 17] [] rfl (m_copy (n := 96) ⟨rfl, rfl, rfl, rfl⟩ ⟨rfl, rfl, rfl, rfl⟩) ?_
  refine z_n 4 (30, [(0, vr 85), (1, vr 14)], [vr 19, vr 90], ((zcpR (zcpR I 87 16) 89 18), zPp π, D, 147)) rfl trivial ?_
  refine z_cv 3 [vr 90, vr 19] [] rfl (m_copy (n := 96) ⟨rfl, rfl, rfl, rfl⟩ ⟨rfl, rfl, rfl, rfl⟩) ?_
  refine z_n 4 (41, [(0, vr 85), (1, vr 14)], [vr 21, vr 92], ((zcpR (zcpR (zcpR I 87 16) 89 18) 91 20), zPp π, D, 147)) rfl trivial ?_
  refine z_cv 3 [vr 92, vr 21] [] rfl (m_copy (n := 96) ⟨rfl, rfl, rfl, rfl⟩ ⟨rfl, rfl, rfl, rfl⟩) ?_
  refine z_n 4 (52, [(0, vr 85), (1, vr 14)], [], ((zup (zcpR (zcpR (zcpR (zcpR I 87 16) 89 18) 91 20) 93 22) 85 4 (I 14 4)), zPp π, D, 147)) rfl trivial ?_
  first | exact z_ret rfl rfl rfl | exact z_ret rfl (zv1 (by omega)) rfl | (exfalso; omega)
set_option maxRecDepth 20000 in
theorem m_ccp_73_2 {I : zI} {π : Int → Nat} {D : zD}   : zMet 31 [vr 73, vr 2] (I, zPp π, D, 147) none ((zcpC I 73 2), zPp π, D, 147) := by
  refine z_n 4 (8, [(0, vr 73), (1, vr 2)], [vr 3, vr 74], (I, zPp π, D, 147)) rfl trivial ?_
  refine z_cv 3 [vr 74, vr 3] [] rfl (m_copy (n := 24) ⟨rfl, rfl, rfl, rfl⟩ ⟨rfl, rfl, rfl, rfl⟩) ?_
  refine z_n 4 (19, [(0, vr 73), (1, vr 2)], [vr 5, vr 76], ((zcpR I 75 4), zPp π, D, 147)) rfl trivial ?_
  refine z_cv 3 [vr 76, vr 5] [] rfl (m_copy (n := 24) ⟨rfl, rfl, rfl, rfl⟩ ⟨rfl, rfl, rfl, rfl⟩) ?_
  refine z_n 4 (30, [(0, vr 73), (1, vr 2)], [vr 7, vr 78], ((zcpR (zcpR I 75 4) 77 6), zPp π, D, 147)) rfl trivial ?_
  refine z_cv 3 [vr 78, vr 7] [] rfl (m_copy (n := 24) ⟨rfl, rfl, rfl, rfl⟩ ⟨rfl, rfl, rfl, rfl⟩) ?_
  refine z_n 4 (41, [(0, vr 73), (1, vr 2)], [vr 9, vr 80], ((zcpR (zcpR (zcpR I 75 4) 77 6) 79 8), zPp π, D, 147)) rfl trivial ?_
  refine z_cv 57 [vr 80, vr 9] [] rfl (m_rcp_80_9) ?_
  refine z_n 4 (52, [(0, vr 73), (1, vr 2)], [vr 14, vr 85], ((zup (zcpR (zcpR (zcpR (zcpR (zcpR I 75 4) 77 6) 79 8) 82 11) 84 13) 80 2 (I 9 2)), zPp π, D, 147)) rfl trivial ?_
  refine z_cv 51 [vr 85, vr 14] [] rfl (m_lcp_85_14) ?_
  refine z_n 4 (63, [(0, vr 73), (1, vr 2)], [vr 23, vr 94], ((zup (zcpR (zcpR (zcpR (zcpR (zup (zcpR (zcpR (zcpR (zcpR (zcpR I 75 4) 77 6) 79 8) 82 11) 84 13) 80 2 (I 9 2)) 87 16) 89 18) 91 20) 93 22) 85 4 (I 14 4)), zPp π, D, 147)) rfl trivial ?_
  refine z_cv 3 [vr 94, vr 23] [] rfl (m_copy (n := 168) ⟨rfl, rfl, rfl, rfl⟩ ⟨rfl, rfl, rfl, rfl⟩) ?_
  refine z_n 28 (122, [(0, vr 73), (1, vr 2)], [], ((zup (zup (zup (zup (zup (zup (zup (zcpR (zup (zcpR (zcpR (zcpR (zcpR (zup (zcpR (zcpR (zcpR (zcpR (zcpR I 75 4) 77 6) 79 8) 82 11) 84 13) 80 2 (I 9 2)) 87 16) 89 18) 91 20) 93 22) 85 4 (I 14 4)) 95 24) 73 5 (I 2 5)) 73 6 (I 2 6)) 73 7 (I 2 7)) 73 8 (I 2 8)) 73 9 (I 2 9)) 73 10 (I 2 10)) 73 11 (I 2 11)), zPp π, D, 147)) rfl trivial ?_
  exact z_ret rfl rfl (by
    refine congrArg (fun J : zI => ((J, zPp π, D, 147) : zS)) ?_
    funext r j
    by_cases hr : 73 ≤ r ∧ r < 96
    · rcases (by omega : r = 73 ∨ r = 74 ∨ r = 75 ∨ r = 76 ∨ r = 77 ∨ r = 78 ∨ r = 79 ∨ r = 80 ∨ r = 81 ∨ r = 82 ∨ r = 83 ∨ r = 84 ∨ r = 85 ∨ r = 86 ∨ r = 87 ∨ r = 88 ∨ r = 89 ∨ r = 90 ∨ r = 91 ∨ r = 92 ∨ r = 93 ∨ r = 94 ∨ r = 95) with rfl | rfl | rfl | rfl | rfl | rfl | rfl | rfl | rfl | rfl | rfl | rfl | rfl | rfl | rfl | rfl | rfl | rfl | rfl | rfl | rfl | rfl | rfl
      · by_cases hj : 5 ≤ j ∧ j ≤ 11
        · rw [zcpC_in (by decide) (by decide) (by unfold zcm; omega)]
          rcases (by omega : j = 5 ∨ j = 6 ∨ j = 7 ∨ j = 8 ∨ j = 9 ∨ j = 10 ∨ j = 11) with rfl | rfl | rfl | rfl | rfl | rfl | rfl <;> rfl
        · rw [zcpC_no (by unfold zcm; omega)]
          simp only [zup, zcpR]
          simp [show ¬ j = 5 by omega, show ¬ j = 6 by omega, show ¬ j = 7 by omega, show ¬ j = 8 by omega, show ¬ j = 9 by omega, show ¬ j = 10 by omega, show ¬ j = 11 by omega]
      · rw [zcpC_no (by unfold zcm; omega)]; rfl
      · rw [zcpC_in (by decide) (by decide) (by unfold zcm; simp)]; rfl
      · rw [zcpC_no (by unfold zcm; omega)]; rfl
      · rw [zcpC_in (by decide) (by decide) (by unfold zcm; simp)]; rfl
      · rw [zcpC_no (by unfold zcm; omega)]; rfl
      · rw [zcpC_in (by decide) (by decide) (by unfold zcm; simp)]; rfl
      · by_cases hj : j = 2
        · subst hj; rw [zcpC_in (by decide) (by decide) (by unfold zcm; simp)]; rfl
        · rw [zcpC_no (by unfold zcm; omega)]
          simp only [zup, zcpR]
          simp [hj]
      · rw [zcpC_no (by unfold zcm; omega)]; rfl
      · rw [zcpC_in (by decide) (by decide) (by unfold zcm; simp)]; rfl
      · rw [zcpC_no (by unfold zcm; omega)]; rfl
      · rw [zcpC_in (by decide) (by decide) (by unfold zcm; simp)]; rfl
      · by_cases hj : j = 4
        · subst hj; rw [zcpC_in (by decide) (by decide) (by unfold zcm; simp)]; rfl
        · rw [zcpC_no (by unfold zcm; omega)]
          simp only [zup, zcpR]
          simp [hj]
      · rw [zcpC_no (by unfold zcm; omega)]; rfl
      · rw [zcpC_in (by decide) (by decide) (by unfold zcm; simp)]; rfl
      · rw [zcpC_no (by unfold zcm; omega)]; rfl
      · rw [zcpC_in (by decide) (by decide) (by unfold zcm; simp)]; rfl
      · rw [zcpC_no (by unfold zcm; omega)]; rfl
      · rw [zcpC_in (by decide) (by decide) (by unfold zcm; simp)]; rfl
      · rw [zcpC_no (by unfold zcm; omega)]; rfl
      · rw [zcpC_in (by decide) (by decide) (by unfold zcm; simp)]; rfl
      · rw [zcpC_no (by unfold zcm; omega)]; rfl
      · rw [zcpC_in (by decide) (by decide) (by unfold zcm; simp)]; rfl
    · rw [zcpC_out (by omega)]
      simp only [zup, zcpR, show (r = 73) = False by simp; omega, show (r = 75) = False by simp; omega, show (r = 77) = False by simp; omega, show (r = 79) = False by simp; omega, show (r = 80) = False by simp; omega, show (r = 82) = False by simp; omega, show (r = 84) = False by simp; omega, show (r = 85) = False by simp; omega, show (r = 87) = False by simp; omega, show (r = 89) = False by simp; omega, show (r = 91) = False by simp; omega, show (r = 93) = False by simp; omega, show (r = 95) = False by simp; omega, false_and, if_false])
set_option maxRecDepth 20000 in
theorem m_rcp_9_80 {I : zI} {π : Int → Nat} {D : zD}   : zMet 57 [vr 9, vr 80] (I, zPp π, D, 147) none ((zup (zcpR (zcpR I 11 82) 13 84) 9 2 (I 80 2)), zPp π, D, 147) := by
  refine z_n 4 (8, [(0, vr 9), (1, vr 80)], [vr 81, vr 10], (I, zPp π, D, 147)) rfl trivial ?_
  refine z_cv 3 [vr 10, vr 81] [] rfl (m_copy (n := 4) ⟨rfl, rfl, rfl, rfl⟩ ⟨rfl, rfl, rfl, rfl⟩) ?_
  refine z_n 4 (19, [(0, vr 9), (1, vr 80)], [vr 83, vr 12], ((zcpR I 11 82), zPp π, D, 147)) rfl trivial ?_
  refine z_cv 3 [vr 12, vr 83] [] rfl (m_copy (n := 4) ⟨rfl, rfl, rfl, rfl⟩ ⟨rfl, rfl, rfl, rfl⟩) ?_
  refine z_n 4 (30, [(0, vr 9), (1, vr 80)], [], ((zup (zcpR (zcpR I 11 82) 13 84) 9 2 (I 80 2)), zPp π, D, 147)) rfl trivial ?_
  first | exact z_ret rfl rfl rfl | exact z_ret rfl (zv1 (by omega)) rfl | (exfalso; omega)
set_option maxRecDepth 20000 in
theorem m_lcp_14_85 {I : zI} {π : Int → Nat} {D : zD}   : zMet 51 [vr 14, vr 85] (I, zPp π, D, 147) none ((zup (zcpR (zcpR (zcpR (zcpR I 16 87) 18 89) 20 91) 22 93) 14 4 (I 85 4)), zPp π, D, 147) := by
  refine z_n 4 (8, [(0, vr 14), (1, vr 85)], [vr 86, vr 15], (I, zPp π, D, 147)) rfl trivial ?_
  refine z_cv 3 [vr 15, vr 86] [] rfl (m_copy (n := 96) ⟨rfl, rfl, rfl, rfl⟩ ⟨rfl, rfl, rfl, rfl⟩) ?_
  refine z_n 4 (19, [(0, vr 14), (1, vr 85)], [vr 88, vr 17], ((zcpR I 16 87), zPp π, D, 147)) rfl trivial ?_
  refine z_cv 3 [vr 17, vr 88] [] rfl (m_copy (n := 96) ⟨rfl, rfl, rfl, rfl⟩ ⟨rfl, rfl, rfl, rfl⟩) ?_
  refine z_n 4 (30, [(0, vr 14), (1, vr 85)], [vr 90, vr 19], ((zcpR (zcpR I 16 87) 18 89), zPp π, D, 147)) rfl trivial ?_
  refine z_cv 3 [vr 19, vr 90] [] rfl (m_copy (n := 96) ⟨rfl, rfl, rfl, rfl⟩ ⟨rfl, rfl, rfl, rfl⟩) ?_
  refine z_n 4 (41, [(0, vr 14), (1, vr 85)], [vr 92, vr 21], ((zcpR (zcpR (zcpR I 16 87) 18 89) 20 91), zPp π, D, 147)) rfl trivial ?_
  refine z_cv 3 [vr 21, vr 92] [] rfl (m_copy (n := 96) ⟨rfl, rfl, rfl, rfl⟩ ⟨rfl, rfl, rfl, rfl⟩) ?_
  refine z_n 4 (52, [(0, vr 14), (1, vr 85)], [], ((zup (zcpR (zcpR (zcpR (zcpR I 16 87) 18 89) 20 91) 22 93) 14 4 (I 85 4)), zPp π, D, 147)) rfl trivial ?_
  first | exact z_ret rfl rfl rfl | exact z_ret rfl (zv1 (by omega)) rfl | (exfalso; omega)
set_option maxRecDepth 20000 in
theorem m_ccp_2_73 {I : zI} {π : Int → Nat} {D : zD}   : zMet 31 [vr 2, vr 73] (I, zPp π, D, 147) none ((zcpC I 2 73), zPp π, D, 147) := by
  refine z_n 4 (8, [(0, vr 2), (1, vr 73)], [vr 74, vr 3], (I, zPp π, D, 147)) rfl trivial ?_
  refine z_cv 3 [vr 3, vr 74] [] rfl (m_copy (n := 24) ⟨rfl, rfl, rfl, rfl⟩ ⟨rfl, rfl, rfl, rfl⟩) ?_
  refine z_n 4 (19, [(0, vr 2), (1, vr 73)], [vr 76, vr 5], ((zcpR I 4 75), zPp π, D, 147)) rfl trivial ?_
  refine z_cv 3 [vr 5, vr 76] [] rfl (m_copy (n := 24) ⟨rfl, rfl, rfl, rfl⟩ ⟨rfl, rfl, rfl, rfl⟩) ?_
  refine z_n 4 (30, [(0, vr 2), (1, vr 73)], [vr 78, vr 7], ((zcpR (zcpR I 4 75) 6 77), zPp π, D, 147)) rfl trivial ?_
  refine z_cv 3 [vr 7, vr 78] [] rfl (m_copy (n := 24) ⟨rfl, rfl, rfl, rfl⟩ ⟨rfl, rfl, rfl, rfl⟩) ?_
  refine z_n 4 (41, [(0, vr 2), (1, vr 73)], [vr 80, vr 9], ((zcpR (zcpR (zcpR I 4 75) 6 77) 8 79), zPp π, D, 147)) rfl trivial ?_
  refine z_cv 57 [vr 9, vr 80] [] rfl (m_rcp_9_80) ?_
  refine z_n 4 (52, [(0, vr 2), (1, vr 73)], [vr 85, vr 14], ((zup (zcpR (zcpR (zcpR (zcpR (zcpR I 4 75) 6 77) 8 79) 11 82) 13 84) 9 2 (I 80 2)), zPp π, D, 147)) rfl trivial ?_
  refine z_cv 51 [vr 14, vr 85] [] rfl (m_lcp_14_85) ?_
  refine z_n 4 (63, [(0, vr 2), (1, vr 73)], [vr 94, vr 23], ((zup (zcpR (zcpR (zcpR (zcpR (zup (zcpR (zcpR (zcpR (zcpR (zcpR I 4 75) 6 77) 8 79) 11 82) 13 84) 9 2 (I 80 2)) 16 87) 18 89) 20 91) 22 93) 14 4 (I 85 4)), zPp π, D, 147)) rfl trivial ?_
  refine z_cv 3 [vr 23, vr 94] [] rfl (m_copy (n := 168) ⟨rfl, rfl, rfl, rfl⟩ ⟨rfl, rfl, rfl, rfl⟩) ?_
  refine z_n 28 (122, [(0, vr 2), (1, vr 73)], [], ((zup (zup (zup (zup (zup (zup (zup (zcpR (zup (zcpR (zcpR (zcpR (zcpR (zup (zcpR (zcpR (zcpR (zcpR (zcpR I 4 75) 6 77) 8 79) 11 82) 13 84) 9 2 (I 80 2)) 16 87) 18 89) 20 91) 22 93) 14 4 (I 85 4)) 24 95) 2 5 (I 73 5)) 2 6 (I 73 6)) 2 7 (I 73 7)) 2 8 (I 73 8)) 2 9 (I 73 9)) 2 10 (I 73 10)) 2 11 (I 73 11)), zPp π, D, 147)) rfl trivial ?_
  exact z_ret rfl rfl (by
    refine congrArg (fun J : zI => ((J, zPp π, D, 147) : zS)) ?_
    funext r j
    by_cases hr : 2 ≤ r ∧ r < 25
    · rcases (by omega : r = 2 ∨ r = 3 ∨ r = 4 ∨ r = 5 ∨ r = 6 ∨ r = 7 ∨ r = 8 ∨ r = 9 ∨ r = 10 ∨ r = 11 ∨ r = 12 ∨ r = 13 ∨ r = 14 ∨ r = 15 ∨ r = 16 ∨ r = 17 ∨ r = 18 ∨ r = 19 ∨ r = 20 ∨ r = 21 ∨ r = 22 ∨ r = 23 ∨ r = 24) with rfl | rfl | rfl | rfl | rfl | rfl | rfl | rfl | rfl | rfl | rfl | rfl | rfl | rfl | rfl | rfl | rfl | rfl | rfl | rfl | rfl | rfl | rfl
      · by_cases hj : 5 ≤ j ∧ j ≤ 11
        · rw [zcpC_in (by decide) (by decide) (by unfold zcm; omega)]
          rcases (by omega : j = 5 ∨ j = 6 ∨ j = 7 ∨ j = 8 ∨ j = 9 ∨ j = 10 ∨ j = 11) with rfl | rfl | rfl | rfl | rfl | rfl | rfl <;> rfl
        · rw [zcpC_no (by unfold zcm; omega)]
          simp only [zup, zcpR]
          simp [show ¬ j = 5 by omega, show ¬ j = 6 by omega, show ¬ j = 7 by omega, show ¬ j = 8 by omega, show ¬ j = 9 by omega, show ¬ j = 10 by omega, show ¬ j = 11 by omega]
      · rw [zcpC_no (by unfold zcm; omega)]; rfl
      · rw [zcpC_in (by decide) (by decide) (by unfold zcm; simp)]; rfl
      · rw [zcpC_no (by unfold zcm; omega)]; rfl
      · rw [zcpC_in (by decide) (by decide) (by unfold zcm; simp)]; rfl
      · rw [zcpC_no (by unfold zcm; omega)]; rfl
      · rw [zcpC_in (by decide) (by decide) (by unfold zcm; simp)]; rfl
      · by_cases hj : j = 2
        · subst hj; rw [zcpC_in (by decide) (by decide) (by unfold zcm; simp)]; rfl
        · rw [zcpC_no (by unfold zcm; omega)]
          simp only [zup, zcpR]
          simp [hj]
      · rw [zcpC_no (by unfold zcm; omega)]; rfl
      · rw [zcpC_in (by decide) (by decide) (by unfold zcm; simp)]; rfl
      · rw [zcpC_no (by unfold zcm; omega)]; rfl
      · rw [zcpC_in (by decide) (by decide) (by unfold zcm; simp)]; rfl
      · by_cases hj : j = 4
        · subst hj; rw [zcpC_in (by decide) (by decide) (by unfold zcm; simp)]; rfl
        · rw [zcpC_no (by unfold zcm; omega)]
          simp only [zup, zcpR]
          simp [hj]
      · rw [zcpC_no (by unfold zcm; omega)]; rfl
      · rw [zcpC_in (by decide) (by decide) (by unfold zcm; simp)]; rfl
      · rw [zcpC_no (by unfold zcm; omega)]; rfl
      · rw [zcpC_in (by decide) (by decide) (by unfold zcm; simp)]; rfl
      · rw [zcpC_no (by unfold zcm; omega)]; rfl
      · rw [zcpC_in (by decide) (by decide) (by unfold zcm; simp)]; rfl
      · rw [zcpC_no (by unfold zcm; omega)]; rfl
      · rw [zcpC_in (by decide) (by decide) (by unfold zcm; simp)]; rfl
      · rw [zcpC_no (by unfold zcm; omega)]; rfl
      · rw [zcpC_in (by decide) (by decide) (by unfold zcm; simp)]; rfl
    · rw [zcpC_out (by omega)]
      simp only [zup, zcpR, show (r = 2) = False by simp; omega, show (r = 4) = False by simp; omega, show (r = 6) = False by simp; omega, show (r = 8) = False by simp; omega, show (r = 9) = False by simp; omega, show (r = 11) = False by simp; omega, show (r = 13) = False by simp; omega, show (r = 14) = False by simp; omega, show (r = 16) = False by simp; omega, show (r = 18) = False by simp; omega, show (r = 20) = False by simp; omega, show (r = 22) = False by simp; omega, show (r = 24) = False by simp; omega, false_and, if_false])
set_option maxRecDepth 20000 in
theorem m_rcp_103_9 {I : zI} {π : Int → Nat} {D : zD}   : zMet 57 [vr 103, vr 9] (I, zPp π, D, 147) none ((zup (zcpR (zcpR I 105 11) 107 13) 103 2 (I 9 2)), zPp π, D, 147) := by
  refine z_n 4 (8, [(0, vr 103), (1, vr 9)], [vr 10, vr 104], (I, zPp π, D, 147)) rfl trivial ?_
  refine z_cv 3 [vr 104, vr 10] [] rfl (m_copy (n := 4) ⟨rfl, rfl, rfl, rfl⟩ ⟨rfl, rfl, rfl, rfl⟩) ?_
  refine z_n 4 (19, [(0, vr 103), (1, vr 9)], [vr 12, vr 106], ((zcpR I 105 11), zPp π, D, 147)) rfl trivial ?_
  refine z_cv 3 [vr 106, vr 12] [] rfl (m_copy (n := 4) ⟨rfl, rfl, rfl, rfl⟩ ⟨rfl, rfl, rfl, rfl⟩) ?_
  refine z_n 4 (30, [(0, vr 103), (1, vr 9)], [], ((zup (zcpR (zcpR I 105 11) 107 13) 103 2 (I 9 2)), zPp π, D, 147)) rfl trivial ?_
  first | exact z_ret rfl rfl rfl | exact z_ret rfl (zv1 (by omega)) rfl | (exfalso; omega)
set_option maxRecDepth 20000 in
theorem m_lcp_108_14 {I : zI} {π : Int → Nat} {D : zD}   : zMet 51 [vr 108, vr 14] (I, zPp π, D, 147) none ((zup (zcpR (zcpR (zcpR (zcpR I 110 16) 112 18) 114 20) 116 22) 108 4 (I 14 4)), zPp π, D, 147) := by
  refine z_n 4 (8, [(0, vr 108), (1, vr 14)], [vr 15, vr 109], (I, zPp π, D, 147)) rfl trivial ?_
  refine z_cv 3 [vr 109, vr 15] [] rfl (m_copy (n := 96) ⟨rfl, rfl, rfl, rfl⟩ ⟨rfl, rfl, rfl, rfl⟩) ?_
  refine z_n 4 (19, [(0, vr 108), (1, vr 14)], [vr 17, vr 111], ((zcpR I 110 16), zPp π, D, 147)) rfl trivial ?_
  refine z_cv 3 [vr 111, vr 17] [] rfl (m_copy (n := 96) ⟨rfl, rfl, rfl, rfl⟩ ⟨rfl, rfl, rfl, rfl⟩) ?_
  refine z_n 4 (30, [(0, vr 108), (1, vr 14)], [vr 19, vr 113], ((zcpR (zcpR I 110 16) 112 18), zPp π, D, 147)) rfl trivial ?_
  refine z_cv 3 [vr 113, vr 19] [] rfl (m_copy (n := 96) ⟨rfl, rfl, rfl, rfl⟩ ⟨rfl, rfl, rfl, rfl⟩) ?_
  refine z_n 4 (41, [(0, vr 108), (1, vr 14)], [vr 21, vr 115], ((zcpR (zcpR (zcpR I 110 16) 112 18) 114 20), zPp π, D, 147)) rfl trivial ?_
  refine z_cv 3 [vr 115, vr 21] [] rfl (m_copy (n := 96) ⟨rfl, rfl, rfl, rfl⟩ ⟨rfl, rfl, rfl, rfl⟩) ?_
  refine z_n 4 (52, [(0, vr 108), (1, vr 14)], [], ((zup (zcpR (zcpR (zcpR (zcpR I 110 16) 112 18) 114 20) 116 22) 108 4 (I 14 4)), zPp π, D, 147)) rfl trivial ?_
  first | exact z_ret rfl rfl rfl | exact z_ret rfl (zv1 (by omega)) rfl | (exfalso; omega)
set_option maxRecDepth 20000 in
theorem m_ccp_96_2 {I : zI} {π : Int → Nat} {D : zD}   : zMet 31 [vr 96, vr 2] (I, zPp π, D, 147) none ((zcpC I 96 2), zPp π, D, 147) := by
  refine z_n 4 (8, [(0, vr 96), (1, vr 2)], [vr 3, vr 97], (I, zPp π, D, 147)) rfl trivial ?_
  refine z_cv 3 [vr 97, vr 3] [] rfl (m_copy (n := 24) ⟨rfl, rfl, rfl, rfl⟩ ⟨rfl, rfl, rfl, rfl⟩) ?_
  refine z_n 4 (19, [(0, vr 96), (1, vr 2)], [vr 5, vr 99], ((zcpR I 98 4), zPp π, D, 147)) rfl trivial ?_
  refine z_cv 3 [vr 99, vr 5] [] rfl (m_copy (n := 24) ⟨rfl, rfl, rfl, rfl⟩ ⟨rfl, rfl, rfl, rfl⟩) ?_
  refine z_n 4 (30, [(0, vr 96), (1, vr 2)], [vr 7, vr 101], ((zcpR (zcpR I 98 4) 100 6), zPp π, D, 147)) rfl trivial ?_
  refine z_cv 3 [vr 101, vr 7] [] rfl (m_copy (n := 24) ⟨rfl, rfl, rfl, rfl⟩ ⟨rfl, rfl, rfl, rfl⟩) ?_
  refine z_n 4 (41, [(0, vr 96), (1, vr 2)], [vr 9, vr 103], ((zcpR (zcpR (zcpR I 98 4) 100 6) 102 8), zPp π, D, 147)) rfl trivial ?_
  refine z_cv 57 [vr 103, vr 9] [] rfl (m_rcp_103_9) ?_
  refine z_n 4 (52, [(0, vr 96), (1, vr 2)], [vr 14, vr 108], ((zup (zcpR (zcpR (zcpR (zcpR (zcpR I 98 4) 100 6) 102 8) 105 11) 107 13) 103 2 (I 9 2)), zPp π, D, 147)) rfl trivial ?_
  refine z_cv 51 [vr 108, vr 14] [] rfl (m_lcp_108_14) ?_
  refine z_n 4 (63, [(0, vr 96), (1, vr 2)], [vr 23, vr 117], ((zup (zcpR (zcpR (zcpR (zcpR (zup (zcpR (zcpR (zcpR (zcpR (zcpR I 98 4) 100 6) 102 8) 105 11) 107 13) 103 2 (I 9 2)) 110 16) 112 18) 114 20) 116 22) 108 4 (I 14 4)), zPp π, D, 147)) rfl trivial ?_
  refine z_cv 3 [vr 117, vr 23] [] rfl (m_copy (n := 168) ⟨rfl, rfl, rfl, rfl⟩ ⟨rfl, rfl, rfl, rfl⟩) ?_
  refine z_n 28 (122, [(0, vr 96), (1, vr 2)], [], ((zup (zup (zup (zup (zup (zup (zup (zcpR (zup (zcpR (zcpR (zcpR (zcpR (zup (zcpR (zcpR (zcpR (zcpR (zcpR I 98 4) 100 6) 102 8) 105 11) 107 13) 103 2 (I 9 2)) 110 16) 112 18) 114 20) 116 22) 108 4 (I 14 4)) 118 24) 96 5 (I 2 5)) 96 6 (I 2 6)) 96 7 (I 2 7)) 96 8 (I 2 8)) 96 9 (I 2 9)) 96 10 (I 2 10)) 96 11 (I 2 11)), zPp π, D, 147)) rfl trivial ?_
  exact z_ret rfl rfl (by
    refine congrArg (fun J : zI => ((J, zPp π, D, 147) : zS)) ?_
    funext r j
    by_cases hr : 96 ≤ r ∧ r < 119
    · rcases (by omega : r = 96 ∨ r = 97 ∨ r = 98 ∨ r = 99 ∨ r = 100 ∨ r = 101 ∨ r = 102 ∨ r = 103 ∨ r = 104 ∨ r = 105 ∨ r = 106 ∨ r = 107 ∨ r = 108 ∨ r = 109 ∨ r = 110 ∨ r = 111 ∨ r = 112 ∨ r = 113 ∨ r = 114 ∨ r = 115 ∨ r = 116 ∨ r = 117 ∨ r = 118) with rfl | rfl | rfl | rfl | rfl | rfl | rfl | rfl | rfl | rfl | rfl | rfl | rfl | rfl | rfl | rfl | rfl | rfl | rfl | rfl | rfl | rfl | rfl
      · by_cases hj : 5 ≤ j ∧ j ≤ 11
        · rw [zcpC_in (by decide) (by decide) (by unfold zcm; omega)]
          rcases (by omega : j = 5 ∨ j = 6 ∨ j = 7 ∨ j = 8 ∨ j = 9 ∨ j = 10 ∨ j = 11) with rfl | rfl | rfl | rfl | rfl | rfl | rfl <;> rfl
        · rw [zcpC_no (by unfold zcm; omega)]
          simp only [zup, zcpR]
          simp [show ¬ j = 5 by omega, show ¬ j = 6 by omega, show ¬ j = 7 by omega, show ¬ j = 8 by omega, show ¬ j = 9 by omega, show ¬ j = 10 by omega, show ¬ j = 11 by omega]
      · rw [zcpC_no (by unfold zcm; omega)]; rfl
      · rw [zcpC_in (by decide) (by decide) (by unfold zcm; simp)]; rfl
      · rw [zcpC_no (by unfold zcm; omega)]; rfl
      · rw [zcpC_in (by decide) (by decide) (by unfold zcm; simp)]; rfl
      · rw [zcpC_no (by unfold zcm; omega)]; rfl
      · rw [zcpC_in (by decide) (by decide) (by unfold zcm; simp)]; rfl
      · by_cases hj : j = 2
        · subst hj; rw [zcpC_in (by decide) (by decide) (by unfold zcm; simp)]; rfl
        · rw [zcpC_no (by unfold zcm; omega)]
          simp only [zup, zcpR]
          simp [hj]
      · rw [zcpC_no (by unfold zcm; omega)]; rfl
      · rw [zcpC_in (by decide) (by decide) (by unfold zcm; simp)]; rfl
      · rw [zcpC_no (by unfold zcm; omega)]; rfl
      · rw [zcpC_in (by decide) (by decide) (by unfold zcm; simp)]; rfl
      · by_cases hj : j = 4
        · subst hj; rw [zcpC_in (by decide) (by decide) (by unfold zcm; simp)]; rfl
        · rw [zcpC_no (by unfold zcm; omega)]
          simp only [zup, zcpR]
          simp [hj]
      · rw [zcpC_no (by unfold zcm; omega)]; rfl
      · rw [zcpC_in (by decide) (by decide) (by unfold zcm; simp)]; rfl
      · rw [zcpC_no (by unfold zcm; omega)]; rfl
      · rw [zcpC_in (by decide) (by decide) (by unfold zcm; simp)]; rfl
      · rw [zcpC_no (by unfold zcm; omega)]; rfl
      · rw [zcpC_in (by decide) (by decide) (by unfold zcm; simp)]; rfl
      · rw [zcpC_no (by unfold zcm; omega)]; rfl
      · rw [zcpC_in (by decide) (by decide) (by unfold zcm; simp)]; rfl
      · rw [zcpC_no (by unfold zcm; omega)]; rfl
      · rw [zcpC_in (by decide) (by decide) (by unfold zcm; simp)]; rfl
    · rw [zcpC_out (by omega)]
      simp only [zup, zcpR, show (r = 96) = False by simp; omega, show (r = 98) = False by simp; omega, show (r = 100) = False by simp; omega, show (r = 102) = False by simp; omega, show (r = 103) = False by simp; omega, show (r = 105) = False by simp; omega, show (r = 107) = False by simp; omega, show (r = 108) = False by simp; omega, show (r = 110) = False by simp; omega, show (r = 112) = False by simp; omega, show (r = 114) = False by simp; omega, show (r = 116) = False by simp; omega, show (r = 118) = False by simp; omega, false_and, if_false])
set_option maxRecDepth 20000 in
theorem m_rcp_9_103 {I : zI} {π : Int → Nat} {D : zD}   : zMet 57 [vr 9, vr 103] (I, zPp π, D, 147) none ((zup (zcpR (zcpR I 11 105) 13 107) 9 2 (I 103 2)), zPp π, D, 147) := by
  refine z_n 4 (8, [(0, vr 9), (1, vr 103)], [vr 104, vr 10], (I, zPp π, D, 147)) rfl trivial ?_
  refine z_cv 3 [vr 10, vr 104] [] rfl (m_copy (n := 4) ⟨rfl, rfl, rfl, rfl⟩ ⟨rfl, rfl, rfl, rfl⟩) ?_
  refine z_n 4 (19, [(0, vr 9), (1, vr 103)], [vr 106, vr 12], ((zcpR I 11 105), zPp π, D, 147)) rfl trivial ?_
  refine z_cv 3 [vr 12, vr 106] [] rfl (m_copy (n := 4) ⟨rfl, rfl, rfl, rfl⟩ ⟨rfl, rfl, rfl, rfl⟩) ?_
  refine z_n 4 (30, [(0, vr 9), (1, vr 103)], [], ((zup (zcpR (zcpR I 11 105) 13 107) 9 2 (I 103 2)), zPp π, D, 147)) rfl trivial ?_
  first | exact z_ret rfl rfl rfl | exact z_ret rfl (zv1 (by omega)) rfl | (exfalso; omega)
set_option maxRecDepth 20000 in
theorem m_lcp_14_108 {I : zI} {π : Int → Nat} {D : zD}   : zMet 51 [vr 14, vr 108] (I, zPp π, D, 147) none ((zup (zcpR (zcpR (zcpR (zcpR I 16 110) 18 112) 20 114) 22 116) 14 4 (I 108 4)), zPp π, D, 147) := by
  refine z_n 4 (8, [(0, vr 14), (1, vr 108)], [vr 109, vr 15], (I, zPp π, D, 147)) rfl trivial ?_
  refine z_cv 3 [vr 15, vr 109] [] rfl (m_copy (n := 96) ⟨rfl, rfl, rfl, rfl⟩ ⟨rfl, rfl, rfl, rfl⟩) ?_
  refine z_n 4 (19, [(0, vr 14), (1, vr 108)], [vr 111, vr 17], ((zcpR I 16 110), zPp π, D, 147)) rfl trivial ?_
  refine z_cv 3 [vr 17, vr 111] [] rfl (m_copy (n := 96) ⟨rfl, rfl, rfl, rfl⟩ ⟨rfl, rfl, rfl, rfl⟩) ?_
  refine z_n 4 (30, [(0, vr 14), (1, vr 108)], [vr 113, vr 19], ((zcpR (zcpR I 16 110) 18 112), zPp π, D, 147)) rfl trivial ?_
  refine z_cv 3 [vr 19, vr 113] [] rfl (m_copy (n := 96) ⟨rfl, rfl, rfl, rfl⟩ ⟨rfl, rfl, rfl, rfl⟩) ?_
  refine z_n 4 (41, [(0, vr 14), (1, vr 108)], [vr 115, vr 21], ((zcpR (zcpR (zcpR I 16 110) 18 112) 20 114), zPp π, D, 147)) rfl trivial ?_
  refine z_cv 3 [vr 21, vr 115] [] rfl (m_copy (n := 96) ⟨rfl, rfl, rfl, rfl⟩ ⟨rfl, rfl, rfl, rfl⟩) ?_
  refine z_n 4 (52, [(0, vr 14), (1, vr 108)], [], ((zup (zcpR (zcpR (zcpR (zcpR I 16 110) 18 112) 20 114) 22 116) 14 4 (I 108 4)), zPp π, D, 147)) rfl trivial ?_
  first | exact z_ret rfl rfl rfl | exact z_ret rfl (zv1 (by omega)) rfl | (exfalso; omega)
set_option maxRecDepth 20000 in
theorem m_ccp_2_96 {I : zI} {π : Int → Nat} {D : zD}   : zMet 31 [vr 2, vr 96] (I, zPp π, D, 147) none ((zcpC I 2 96), zPp π, D, 147) := by
  refine z_n 4 (8, [(0, vr 2), (1, vr 96)], [vr 97, vr 3], (I, zPp π, D, 147)) rfl trivial ?_
  refine z_cv 3 [vr 3, vr 97] [] rfl (m_copy (n := 24) ⟨rfl, rfl, rfl, rfl⟩ ⟨rfl, rfl, rfl, rfl⟩) ?_
  refine z_n 4 (19, [(0, vr 2), (1, vr 96)], [vr 99, vr 5], ((zcpR I 4 98), zPp π, D, 147)) rfl trivial ?_
  refine z_cv 3 [vr 5, vr 99] [] rfl (m_copy (n := 24) ⟨rfl, rfl, rfl, rfl⟩ ⟨rfl, rfl, rfl, rfl⟩) ?_
  refine z_n 4 (30, [(0, vr 2), (1, vr 96)], [vr 101, vr 7], ((zcpR (zcpR I 4 98) 6 100), zPp π, D, 147)) rfl trivial ?_
  refine z_cv 3 [vr 7, vr 101] [] rfl (m_copy (n := 24) ⟨rfl, rfl, rfl, rfl⟩ ⟨rfl, rfl, rfl, rfl⟩) ?_
  refine z_n 4 (41, [(0, vr 2), (1, vr 96)], [vr 103, vr 9], ((zcpR (zcpR (zcpR I 4 98) 6 100) 8 102), zPp π, D, 147)) rfl trivial ?_
  refine z_cv 57 [vr 9, vr 103] [] rfl (m_rcp_9_103) ?_
  refine z_n 4 (52, [(0, vr 2), (1, vr 96)], [vr 108, vr 14], ((zup (zcpR (zcpR (zcpR (zcpR (zcpR I 4 98) 6 100) 8 102) 11 105) 13 107) 9 2 (I 103 2)), zPp π, D, 147)) rfl trivial ?_
  refine z_cv 51 [vr 14, vr 108] [] rfl (m_lcp_14_108) ?_
  refine z_n 4 (63, [(0, vr 2), (1, vr 96)], [vr 117, vr 23], ((zup (zcpR (zcpR (zcpR (zcpR (zup (zcpR (zcpR (zcpR (zcpR (zcpR I 4 98) 6 100) 8 102) 11 105) 13 107) 9 2 (I 103 2)) 16 110) 18 112) 20 114) 22 116) 14 4 (I 108 4)), zPp π, D, 147)) rfl trivial ?_
  refine z_cv 3 [vr 23, vr 117] [] rfl (m_copy (n := 168) ⟨rfl, rfl, rfl, rfl⟩ ⟨rfl, rfl, rfl, rfl⟩) ?_
  refine z_n 28 (122, [(0, vr 2), (1, vr 96)], [], ((zup (zup (zup (zup (zup (zup (zup (zcpR (zup (zcpR (zcpR (zcpR (zcpR (zup (zcpR (zcpR (zcpR (zcpR (zcpR I 4 98) 6 100) 8 102) 11 105) 13 107) 9 2 (I 103 2)) 16 110) 18 112) 20 114) 22 116) 14 4 (I 108 4)) 24 118) 2 5 (I 96 5)) 2 6 (I 96 6)) 2 7 (I 96 7)) 2 8 (I 96 8)) 2 9 (I 96 9)) 2 10 (I 96 10)) 2 11 (I 96 11)), zPp π, D, 147)) rfl trivial ?_
  exact z_ret rfl rfl (by
    refine congrArg (fun J : zI => ((J, zPp π, D, 147) : zS)) ?_
    funext r j
    by_cases hr : 2 ≤ r ∧ r < 25
    · rcases (by omega : r = 2 ∨ r = 3 ∨ r = 4 ∨ r = 5 ∨ r = 6 ∨ r = 7 ∨ r = 8 ∨ r = 9 ∨ r = 10 ∨ r = 11 ∨ r = 12 ∨ r = 13 ∨ r = 14 ∨ r = 15 ∨ r = 16 ∨ r = 17 ∨ r = 18 ∨ r = 19 ∨ r = 20 ∨ r = 21 ∨ r = 22 ∨ r = 23 ∨ r = 24) with rfl | rfl | rfl | rfl | rfl | rfl | rfl | rfl | rfl | rfl | rfl | rfl | rfl | rfl | rfl | rfl | rfl | rfl | rfl | rfl | rfl | rfl | rfl
      · by_cases hj : 5 ≤ j ∧ j ≤ 11
        · rw [zcpC_in (by decide) (by decide) (by unfold zcm; omega)]
          rcases (by omega : j = 5 ∨ j = 6 ∨ j = 7 ∨ j = 8 ∨ j = 9 ∨ j = 10 ∨ j = 11) with rfl | rfl | rfl | rfl | rfl | rfl | rfl <;> rfl
        · rw [zcpC_no (by unfold zcm; omega)]
          simp only [zup, zcpR]
          simp [show ¬ j = 5 by omega, show ¬ j = 6 by omega, show ¬ j = 7 by omega, show ¬ j = 8 by omega, show ¬ j = 9 by omega, show ¬ j = 10 by omega, show ¬ j = 11 by omega]
      · rw [zcpC_no (by unfold zcm; omega)]; rfl
      · rw [zcpC_in (by decide) (by decide) (by unfold zcm; simp)]; rfl
      · rw [zcpC_no (by unfold zcm; omega)]; rfl
      · rw [zcpC_in (by decide) (by decide) (by unfold zcm; simp)]; rfl
      · rw [zcpC_no (by unfold zcm; omega)]; rfl
      · rw [zcpC_in (by decide) (by decide) (by unfold zcm; simp)]; rfl
      · by_cases hj : j = 2
        · subst hj; rw [zcpC_in (by decide) (by decide) (by unfold zcm; simp)]; rfl
        · rw [zcpC_no (by unfold zcm; omega)]
          simp only [zup, zcpR]
          simp [hj]
      · rw [zcpC_no (by unfold zcm; omega)]; rfl
      · rw [zcpC_in (by decide) (by decide) (by unfold zcm; simp)]; rfl
      · rw [zcpC_no (by unfold zcm; omega)]; rfl
      · rw [zcpC_in (by decide) (by decide) (by unfold zcm; simp)]; rfl
      · by_cases hj : j = 4
        · subst hj; rw [zcpC_in (by decide) (by decide) (by unfold zcm; simp)]; rfl
        · rw [zcpC_no (by unfold zcm; omega)]
          simp only [zup, zcpR]
          simp [hj]
      · rw [zcpC_no (by unfold zcm; omega)]; rfl
      · rw [zcpC_in (by decide) (by decide) (by unfold zcm; simp)]; rfl
      · rw [zcpC_no (by unfold zcm; omega)]; rfl
      · rw [zcpC_in (by decide) (by decide) (by unfold zcm; simp)]; rfl
      · rw [zcpC_no (by unfold zcm; omega)]; rfl
      · rw [zcpC_in (by decide) (by decide) (by unfold zcm; simp)]; rfl
      · rw [zcpC_no (by unfold zcm; omega)]; rfl
      · rw [zcpC_in (by decide) (by decide) (by unfold zcm; simp)]; rfl
      · rw [zcpC_no (by unfold zcm; omega)]; rfl
      · rw [zcpC_in (by decide) (by decide) (by unfold zcm; simp)]; rfl
    · rw [zcpC_out (by omega)]
      simp only [zup, zcpR, show (r = 2) = False by simp; omega, show (r = 4) = False by simp; omega, show (r = 6) = False by simp; omega, show (r = 8) = False by simp; omega, show (r = 9) = False by simp; omega, show (r = 11) = False by simp; omega, show (r = 13) = False by simp; omega, show (r = 14) = False by simp; omega, show (r = 16) = False by simp; omega, show (r = 18) = False by simp; omega, show (r = 20) = False by simp; omega, show (r = 22) = False by simp; omega, show (r = 24) = False by simp; omega, false_and, if_false])
end
section
/-- the past charts are four -/
def zPi (π : Int → Nat) : Prop := ∀ k, 0 ≤ k → k < 4 → π k = 27 ∨ π k = 50 ∨ π k = 73 ∨ π k = 96
theorem zPi_ob {π : Int → Nat} (h : zPi π) {k : Int} (h0 : 0 ≤ k) (h1 : k < 4) : zob (π k) 1 147 = true := by
  rcases h k h0 h1 with e | e | e | e <;> rw [e] <;> rfl
/-- the oldest goes behind the others -/
def zrot (π : Int → Nat) : Int → Nat := fun k => if k = 3 then π 0 else if k = 2 then π 3 else if k = 1 then π 2 else if k = 0 then π 1 else π k
theorem zrot_P {π : Int → Nat} : zupP (zupP (zupP (zupP (zupP (zupP (zPp π) 26 0 (π 1)) 26 1 (π 0)) 26 1 (π 2)) 26 2 (π 0)) 26 2 (π 3)) 26 3 (π 0) = zPp (zrot π) := by
  funext r j
  by_cases hr : r = 26
  · subst hr
    simp only [zupP, zPp, zrot, true_and, Nat.beq_refl, cond_true]
    by_cases h3 : j = 3
    · simp [h3]
    · by_cases h2 : j = 2
      · simp [h2]
      · by_cases h1 : j = 1
        · simp [h1]
        · by_cases h0 : j = 0
          · simp [h0]
          · simp [h0, h1, h2, h3]
  · have hb : Nat.beq r 26 = false := zbeq_f hr
    simp only [zupP, zPp, hr, false_and, if_false, hb, cond_false]
/-- what becomes of the history when a state is kept -/
def zkp (k : Int) : Int := if k < 4 then k + 1 else 4
def zkd (π : Int → Nat) (k : Int) : Nat := if k < 4 then π k else π 0
def zkr (π : Int → Nat) (k : Int) : Int → Nat := if k < 4 then π else zrot π
set_option maxRecDepth 20000 in
theorem m_latest {I : zI} {π : Int → Nat} {D : zD} {d : Nat} (h : 0 < I 25 1 ∧ I 25 1 ≤ 4) (hd : π (I 25 1 - 1) = d) : zMet 42 [vr 25] (I, zPp π, D, 147) (some (vr d)) (I, zPp π, D, 147) := by
  refine z_n 2 (4, [(0, vr 25)], [vi (I 25 1)], (I, zPp π, D, 147)) rfl trivial ?_
  refine z_br ((I 25 1) ≤ 0) 33 7 [] rfl (fun h => absurd h (show ¬ ((I 25 1) ≤ 0) from by omega)) (fun hx1 => ?_)
  refine z_n 5 (16, [(0, vr 25)], [vi 4, vi (I 25 1)], (I, zPp π, D, 147)) rfl trivial ?_
  refine z_br (4 < (I 25 1)) 33 19 [] rfl (fun h => absurd h (show ¬ (4 < (I 25 1)) from by omega)) (fun hx2 => ?_)
  refine z_n 8 (34, [(0, vr 25)], [vr (π ((I 25 1) - 1))], (I, zPp π, D, 147)) (G := (zr ((I 25 1) - 1)) ∧ (0 ≤ ((I 25 1) - 1) ∧ ((I 25 1) - 1) < 4) ∧ True) rfl ⟨by omega, by omega, trivial⟩ ?_
  exact z_ret rfl (by rw [hd]) rfl
set_option maxRecDepth 20000 in
theorem m_latest0 {I : zI} {π : Int → Nat} {D : zD}  (h : I 25 1 = 0) : zMet 42 [vr 25] (I, zPp π, D, 147) (some (vr 0)) (I, zPp π, D, 147) := by
  refine z_n 2 (4, [(0, vr 25)], [vi (I 25 1)], (I, zPp π, D, 147)) rfl trivial ?_
  refine z_br ((I 25 1) ≤ 0) 33 7 [] rfl (fun hx1 => ?_) (fun h => absurd (show (I 25 1) ≤ 0 from by omega) h)
  refine z_n 1 (34, [(0, vr 25)], [vr 0], (I, zPp π, D, 147)) rfl trivial ?_
  first | exact z_ret rfl rfl rfl | exact z_ret rfl (zv1 (by omega)) rfl | (exfalso; omega)
set_option maxRecDepth 20000 in
theorem m_drop {I : zI} {π : Int → Nat} {D : zD}  (h : 0 < I 25 1 ∧ I 25 1 ≤ 4) : zMet 43 [vr 25] (I, zPp π, D, 147) none ((zup I 25 1 (I 25 1 - 1)), zPp π, D, 147) := by
  refine z_n 2 (4, [(0, vr 25)], [vi (I 25 1)], (I, zPp π, D, 147)) rfl trivial ?_
  refine z_br ((I 25 1) ≤ 0) 17 7 [] rfl (fun h => absurd h (show ¬ ((I 25 1) ≤ 0) from by omega)) (fun hx1 => ?_)
  refine z_n 6 (17, [(0, vr 25)], [], ((zup I 25 1 ((I 25 1) - 1)), zPp π, D, 147)) (G := (zr ((I 25 1) - 1)) ∧ True) rfl ⟨by omega, trivial⟩ ?_
  first | exact z_ret rfl rfl rfl | exact z_ret rfl (zv1 (by omega)) rfl | (exfalso; omega)
set_option maxRecDepth 20000 in
theorem m_move {I : zI} {π : Int → Nat} {D : zD}  (hπ : zPi π) : zMet 41 [vr 25] (I, zPp π, D, 147) none (I, zPp (zrot π), D, 147) := by
  refine z_n 6 (8, [(1, vi 1), (0, vr 25)], [vi 4, vi 1], (I, zPp π, D, 147)) rfl trivial ?_
  refine z_br (4 ≤ (1 : Int)) 47 11 [] rfl (fun h => absurd h (show ¬ (4 ≤ (1 : Int)) from by decide)) (fun hx1 => ?_)
  refine z_n 28 (8, [(1, vi 2), (2, vr (π 0)), (0, vr 25)], [vi 4, vi 2], (I, (zupP (zupP (zPp π) 26 0 (π 1)) 26 1 (π 0)), D, 147)) (G := (zr 0) ∧ (0 ≤ 0 ∧ 0 < 4) ∧ (zr 0) ∧ (0 ≤ 1 ∧ 1 < 4) ∧ ((0 ≤ 0 ∧ 0 < 4) ∧ zob (π 1) 1 147 = true) ∧ ((0 ≤ 1 ∧ 1 < 4) ∧ zob (π 0) 1 147 = true) ∧ (zr 2) ∧ True) rfl ⟨by omega, by omega, by omega, by omega, ⟨by omega, zPi_ob hπ (by omega) (by omega)⟩, ⟨by omega, zPi_ob hπ (by omega) (by omega)⟩, by omega, trivial⟩ ?_
  refine z_br (4 ≤ (2 : Int)) 47 11 [] rfl (fun h => absurd h (show ¬ (4 ≤ (2 : Int)) from by decide)) (fun hx2 => ?_)
  refine z_n 28 (8, [(1, vi 3), (2, vr (π 0)), (0, vr 25)], [vi 4, vi 3], (I, (zupP (zupP (zupP (zupP (zPp π) 26 0 (π 1)) 26 1 (π 0)) 26 1 (π 2)) 26 2 (π 0)), D, 147)) (G := (zr 1) ∧ (0 ≤ 1 ∧ 1 < 4) ∧ (zr 1) ∧ (0 ≤ 2 ∧ 2 < 4) ∧ ((0 ≤ 1 ∧ 1 < 4) ∧ zob (π 2) 1 147 = true) ∧ ((0 ≤ 2 ∧ 2 < 4) ∧ zob (π 0) 1 147 = true) ∧ (zr 3) ∧ True) rfl ⟨by omega, by omega, by omega, by omega, ⟨by omega, zPi_ob hπ (by omega) (by omega)⟩, ⟨by omega, zPi_ob hπ (by omega) (by omega)⟩, by omega, trivial⟩ ?_
  refine z_br (4 ≤ (3 : Int)) 47 11 [] rfl (fun h => absurd h (show ¬ (4 ≤ (3 : Int)) from by decide)) (fun hx3 => ?_)
  refine z_n 28 (8, [(1, vi 4), (2, vr (π 0)), (0, vr 25)], [vi 4, vi 4], (I, (zupP (zupP (zupP (zupP (zupP (zupP (zPp π) 26 0 (π 1)) 26 1 (π 0)) 26 1 (π 2)) 26 2 (π 0)) 26 2 (π 3)) 26 3 (π 0)), D, 147)) (G := (zr 2) ∧ (0 ≤ 2 ∧ 2 < 4) ∧ (zr 2) ∧ (0 ≤ 3 ∧ 3 < 4) ∧ ((0 ≤ 2 ∧ 2 < 4) ∧ zob (π 3) 1 147 = true) ∧ ((0 ≤ 3 ∧ 3 < 4) ∧ zob (π 0) 1 147 = true) ∧ (zr 4) ∧ True) rfl ⟨by omega, by omega, by omega, by omega, ⟨by omega, zPi_ob hπ (by omega) (by omega)⟩, ⟨by omega, zPi_ob hπ (by omega) (by omega)⟩, by omega, trivial⟩ ?_
  refine z_br (4 ≤ (4 : Int)) 47 11 [] rfl (fun hx4 => ?_) (fun h => absurd (show 4 ≤ (4 : Int) from by decide) h)
  exact z_ret rfl rfl (congrArg (fun Q : zP => ((I, Q, D, 147) : zS)) zrot_P)
set_option maxRecDepth 20000 in
theorem m_keepA27 {I : zI} {π : Int → Nat} {D : zD}  (h : 0 ≤ I 25 1 ∧ I 25 1 < 4) (hd : π (I 25 1) = 27) : zMet 40 [vr 25, vr 2] (I, zPp π, D, 147) none ((zcpC (zup I 25 1 (I 25 1 + 1)) 27 2), zPp π, D, 147) := by
  refine z_n 5 (9, [(0, vr 25), (1, vr 2)], [vi 4, vi (I 25 1)], (I, zPp π, D, 147)) rfl trivial ?_
  refine z_br (4 ≤ (I 25 1)) 25 12 [] rfl (fun h => absurd h (show ¬ (4 ≤ (I 25 1)) from by omega)) (fun hx1 => ?_)
  refine z_n 8 (30, [(0, vr 25), (1, vr 2)], [vr 25], ((zup I 25 1 ((I 25 1) + 1)), zPp π, D, 147)) (G := (zr ((I 25 1) + 1)) ∧ True) rfl ⟨by omega, trivial⟩ ?_
  refine z_ci 42 [vr 25] [] rfl (m_latest (show 0 < I 25 1 + 1 ∧ I 25 1 + 1 ≤ 4 from by omega) (show π (I 25 1 + 1 - 1) = 27 from by rw [show I 25 1 + 1 - 1 = I 25 1 by omega]; exact hd)) ?_
  refine z_n 5 (40, [(2, vr 27), (0, vr 25), (1, vr 2)], [vr 2, vr 27], ((zup I 25 1 ((I 25 1) + 1)), zPp π, D, 147)) rfl trivial ?_
  refine z_cv 31 [vr 27, vr 2] [] rfl (m_ccp_27_2) ?_
  first | exact z_ret rfl rfl rfl | exact z_ret rfl (zv1 (by omega)) rfl | (exfalso; omega)
set_option maxRecDepth 20000 in
theorem m_keepB27 {I : zI} {π : Int → Nat} {D : zD}  (hπ : zPi π) (h : I 25 1 = 4) (hd : π 0 = 27) : zMet 40 [vr 25, vr 2] (I, zPp π, D, 147) none ((zcpC I 27 2), zPp (zrot π), D, 147) := by
  refine z_n 5 (9, [(0, vr 25), (1, vr 2)], [vi 4, vi (I 25 1)], (I, zPp π, D, 147)) rfl trivial ?_
  refine z_br (4 ≤ (I 25 1)) 25 12 [] rfl (fun hx1 => ?_) (fun h => absurd (show 4 ≤ (I 25 1) from by omega) h)
  refine z_n 1 (26, [(0, vr 25), (1, vr 2)], [vr 25], (I, zPp π, D, 147)) rfl trivial ?_
  refine z_cv 41 [vr 25] [] rfl (m_move hπ) ?_
  refine z_n 1 (30, [(0, vr 25), (1, vr 2)], [vr 25], (I, zPp (zrot π), D, 147)) rfl trivial ?_
  refine z_ci 42 [vr 25] [] rfl (m_latest (by omega) (show zrot π (I 25 1 - 1) = 27 from by rw [h]; exact hd)) ?_
  refine z_n 5 (40, [(2, vr 27), (0, vr 25), (1, vr 2)], [vr 2, vr 27], (I, zPp (zrot π), D, 147)) rfl trivial ?_
  refine z_cv 31 [vr 27, vr 2] [] rfl (m_ccp_27_2) ?_
  first | exact z_ret rfl rfl rfl | exact z_ret rfl (zv1 (by omega)) rfl | (exfalso; omega)
set_option maxRecDepth 20000 in
theorem m_keepA50 {I : zI} {π : Int → Nat} {D : zD}  (h : 0 ≤ I 25 1 ∧ I 25 1 < 4) (hd : π (I 25 1) = 50) : zMet 40 [vr 25, vr 2] (I, zPp π, D, 147) none ((zcpC (zup I 25 1 (I 25 1 + 1)) 50 2), zPp π, D, 147) := by
  refine z_n 5 (9, [(0, vr 25), (1, vr 2)], [vi 4, vi (I 25 1)], (I, zPp π, D, 147)) rfl trivial ?_
  refine z_br (4 ≤ (I 25 1)) 25 12 [] rfl (fun h => absurd h (show ¬ (4 ≤ (I 25 1)) from by omega)) (fun hx1 => ?_)
  refine z_n 8 (30, [(0, vr 25), (1, vr 2)], [vr 25], ((zup I 25 1 ((I 25 1) + 1)), zPp π, D, 147)) (G := (zr ((I 25 1) + 1)) ∧ True) rfl ⟨by omega, trivial⟩ ?_
  refine z_ci 42 [vr 25] [] rfl (m_latest (show 0 < I 25 1 + 1 ∧ I 25 1 + 1 ≤ 4 from by omega) (show π (I 25 1 + 1 - 1) = 50 from by rw [show I 25 1 + 1 - 1 = I 25 1 by omega]; exact hd)) ?_
  refine z_n 5 (40, [(2, vr 50), (0, vr 25), (1, vr 2)], [vr 2, vr 50], ((zup I 25 1 ((I 25 1) + 1)), zPp π, D, 147)) rfl trivial ?_
  refine z_cv 31 [vr 50, vr 2] [] rfl (m_ccp_50_2) ?_
  first | exact z_ret rfl rfl rfl | exact z_ret rfl (zv1 (by omega)) rfl | (exfalso; omega)
set_option maxRecDepth 20000 in
theorem m_keepB50 {I : zI} {π : Int → Nat} {D : zD}  (hπ : zPi π) (h : I 25 1 = 4) (hd : π 0 = 50) : zMet 40 [vr 25, vr 2] (I, zPp π, D, 147) none ((zcpC I 50 2), zPp (zrot π), D, 147) := by
  refine z_n 5 (9, [(0, vr 25), (1, vr 2)], [vi 4, vi (I 25 1)], (I, zPp π, D, 147)) rfl trivial ?_
  refine z_br (4 ≤ (I 25 1)) 25 12 [] rfl (fun hx1 => ?_) (fun h => absurd (show 4 ≤ (I 25 1) from by omega) h)
  refine z_n 1 (26, [(0, vr 25), (1, vr 2)], [vr 25], (I, zPp π, D, 147)) rfl trivial ?_
  refine z_cv 41 [vr 25] [] rfl (m_move hπ) ?_
  refine z_n 1 (30, [(0, vr 25), (1, vr 2)], [vr 25], (I, zPp (zrot π), D, 147)) rfl trivial ?_
  refine z_ci 42 [vr 25] [] rfl (m_latest (by omega) (show zrot π (I 25 1 - 1) = 50 from by rw [h]; exact hd)) ?_
  refine z_n 5 (40, [(2, vr 50), (0, vr 25), (1, vr 2)], [vr 2, vr 50], (I, zPp (zrot π), D, 147)) rfl trivial ?_
  refine z_cv 31 [vr 50, vr 2] [] rfl (m_ccp_50_2) ?_
  first | exact z_ret rfl rfl rfl | exact z_ret rfl (zv1 (by omega)) rfl | (exfalso; omega)
set_option maxRecDepth 20000 in
theorem m_keepA73 {I : zI} {π : Int → Nat} {D : zD}  (h : 0 ≤ I 25 1 ∧ I 25 1 < 4) (hd : π (I 25 1) = 73) : zMet 40 [vr 25, vr 2] (I, zPp π, D, 147) none ((zcpC (zup I 25 1 (I 25 1 + 1)) 73 2), zPp π, D, 147) := by
  refine z_n 5 (9, [(0, vr 25), (1, vr 2)], [vi 4, vi (I 25 1)], (I, zPp π, D, 147)) rfl trivial ?_
  refine z_br (4 ≤ (I 25 1)) 25 12 [] rfl (fun h => absurd h (show ¬ (4 ≤ (I 25 1)) from by omega)) (fun hx1 => ?_)
  refine z_n 8 (30, [(0, vr 25), (1, vr 2)], [vr 25], ((zup I 25 1 ((I 25 1) + 1)), zPp π, D, 147)) (G := (zr ((I 25 1) + 1)) ∧ True) rfl ⟨by omega, trivial⟩ ?_
  refine z_ci 42 [vr 25] [] rfl (m_latest (show 0 < I 25 1 + 1 ∧ I 25 1 + 1 ≤ 4 from by omega) (show π (I 25 1 + 1 - 1) = 73 from by rw [show I 25 1 + 1 - 1 = I 25 1 by omega]; exact hd)) ?_
  refine z_n 5 (40, [(2, vr 73), (0, vr 25), (1, vr 2)], [vr 2, vr 73], ((zup I 25 1 ((I 25 1) + 1)), zPp π, D, 147)) rfl trivial ?_
  refine z_cv 31 [vr 73, vr 2] [] rfl (m_ccp_73_2) ?_
  first | exact z_ret rfl rfl rfl | exact z_ret rfl (zv1 (by omega)) rfl | (exfalso; omega)
set_option maxRecDepth 20000 in
theorem m_keepB73 {I : zI} {π : Int → Nat} {D : zD}  (hπ : zPi π) (h : I 25 1 = 4) (hd : π 0 = 73) : zMet 40 [vr 25, vr 2] (I, zPp π, D, 147) none ((zcpC I 73 2), zPp (zrot π), D, 147) := by
  refine z_n 5 (9, [(0, vr 25), (1, vr 2)], [vi 4, vi (I 25 1)], (I, zPp π, D, 147)) rfl trivial ?_
  refine z_br (4 ≤ (I 25 1)) 25 12 [] rfl (fun hx1 => ?_) (fun h => absurd (show 4 ≤ (I 25 1) from by omega) h)
  refine z_n 1 (26, [(0, vr 25), (1, vr 2)], [vr 25], (I, zPp π, D, 147)) rfl trivial ?_
  refine z_cv 41 [vr 25] [] rfl (m_move hπ) ?_
  refine z_n 1 (30, [(0, vr 25), (1, vr 2)], [vr 25], (I, zPp (zrot π), D, 147)) rfl trivial ?_
  refine z_ci 42 [vr 25] [] rfl (m_latest (by omega) (show zrot π (I 25 1 - 1) = 73 from by rw [h]; exact hd)) ?_
  refine z_n 5 (40, [(2, vr 73), (0, vr 25), (1, vr 2)], [vr 2, vr 73], (I, zPp (zrot π), D, 147)) rfl trivial ?_
  refine z_cv 31 [vr 73, vr 2] [] rfl (m_ccp_73_2) ?_
  first | exact z_ret rfl rfl rfl | exact z_ret rfl (zv1 (by omega)) rfl | (exfalso; omega)
set_option maxRecDepth 20000 in
theorem m_keepA96 {I : zI} {π : Int → Nat} {D : zD}  (h : 0 ≤ I 25 1 ∧ I 25 1 < 4) (hd : π (I 25 1) = 96) : zMet 40 [vr 25, vr 2] (I, zPp π, D, 147) none ((zcpC (zup I 25 1 (I 25 1 + 1)) 96 2), zPp π, D, 147) := by
  refine z_n 5 (9, [(0, vr 25), (1, vr 2)], [vi 4, vi (I 25 1)], (I, zPp π, D, 147)) rfl trivial ?_
  refine z_br (4 ≤ (I 25 1)) 25 12 [] rfl (fun h => absurd h (show ¬ (4 ≤ (I 25 1)) from by omega)) (fun hx1 => ?_)
  refine z_n 8 (30, [(0, vr 25), (1, vr 2)], [vr 25], ((zup I 25 1 ((I 25 1) + 1)), zPp π, D, 147)) (G := (zr ((I 25 1) + 1)) ∧ True) rfl ⟨by omega, trivial⟩ ?_
  refine z_ci 42 [vr 25] [] rfl (m_latest (show 0 < I 25 1 + 1 ∧ I 25 1 + 1 ≤ 4 from by omega) (show π (I 25 1 + 1 - 1) = 96 from by rw [show I 25 1 + 1 - 1 = I 25 1 by omega]; exact hd)) ?_
  refine z_n 5 (40, [(2, vr 96), (0, vr 25), (1, vr 2)], [vr 2, vr 96], ((zup I 25 1 ((I 25 1) + 1)), zPp π, D, 147)) rfl trivial ?_
  refine z_cv 31 [vr 96, vr 2] [] rfl (m_ccp_96_2) ?_
  first | exact z_ret rfl rfl rfl | exact z_ret rfl (zv1 (by omega)) rfl | (exfalso; omega)
set_option maxRecDepth 20000 in
theorem m_keepB96 {I : zI} {π : Int → Nat} {D : zD}  (hπ : zPi π) (h : I 25 1 = 4) (hd : π 0 = 96) : zMet 40 [vr 25, vr 2] (I, zPp π, D, 147) none ((zcpC I 96 2), zPp (zrot π), D, 147) := by
  refine z_n 5 (9, [(0, vr 25), (1, vr 2)], [vi 4, vi (I 25 1)], (I, zPp π, D, 147)) rfl trivial ?_
  refine z_br (4 ≤ (I 25 1)) 25 12 [] rfl (fun hx1 => ?_) (fun h => absurd (show 4 ≤ (I 25 1) from by omega) h)
  refine z_n 1 (26, [(0, vr 25), (1, vr 2)], [vr 25], (I, zPp π, D, 147)) rfl trivial ?_
  refine z_cv 41 [vr 25] [] rfl (m_move hπ) ?_
  refine z_n 1 (30, [(0, vr 25), (1, vr 2)], [vr 25], (I, zPp (zrot π), D, 147)) rfl trivial ?_
  refine z_ci 42 [vr 25] [] rfl (m_latest (by omega) (show zrot π (I 25 1 - 1) = 96 from by rw [h]; exact hd)) ?_
  refine z_n 5 (40, [(2, vr 96), (0, vr 25), (1, vr 2)], [vr 2, vr 96], (I, zPp (zrot π), D, 147)) rfl trivial ?_
  refine z_cv 31 [vr 96, vr 2] [] rfl (m_ccp_96_2) ?_
  first | exact z_ret rfl rfl rfl | exact z_ret rfl (zv1 (by omega)) rfl | (exfalso; omega)
theorem zup_id {I : zI} {r : Nat} {k : Int} : zup I r k (I r k) = I := by
  funext r' k'
  unfold zup
  split
  · next h => rw [h.1, h.2]
  · rfl
theorem m_keep {I : zI} {π : Int → Nat} {D : zD} (hπ : zPi π) (h : 0 ≤ I 25 1 ∧ I 25 1 ≤ 4) : zMet 40 [vr 25, vr 2] (I, zPp π, D, 147) none (zcpC (zup I 25 1 (zkp (I 25 1))) (zkd π (I 25 1)) 2, zPp (zkr π (I 25 1)), D, 147) := by
  by_cases hk : I 25 1 < 4
  · rw [zkp, zkd, zkr, if_pos hk, if_pos hk, if_pos hk]
    rcases hπ (I 25 1) h.1 hk with e | e | e | e <;> rw [e]
    · exact m_keepA27 ⟨h.1, hk⟩ e
    · exact m_keepA50 ⟨h.1, hk⟩ e
    · exact m_keepA73 ⟨h.1, hk⟩ e
    · exact m_keepA96 ⟨h.1, hk⟩ e
  · have h4 : I 25 1 = 4 := by omega
    rw [zkp, zkd, zkr, if_neg hk, if_neg hk, if_neg hk]
    rw [show zup I 25 1 4 = I by rw [← h4]; exact zup_id]
    rcases hπ 0 (by omega) (by omega) with e | e | e | e <;> rw [e]
    · exact m_keepB27 hπ h4 e
    · exact m_keepB50 hπ h4 e
    · exact m_keepB73 hπ h4 e
    · exact m_keepB96 hπ h4 e
set_option maxRecDepth 20000 in
theorem m_add9 {I : zI} {π : Int → Nat} {D : zD} {a b : Int} (h : 0 ≤ I 9 2 ∧ I 9 2 < 4) : zMet 54 [vr 9, vi a, vi b] (I, zPp π, D, 147) none ((zup (zup (zup I 11 (I 9 2) a) 13 (I 9 2) b) 9 2 (I 9 2 + 1)), zPp π, D, 147) := by
  refine z_n 3 (5, [(0, vr 9), (1, vi a), (2, vi b)], [vi 4, vi (I 9 2)], (I, zPp π, D, 147)) rfl trivial ?_
  refine z_br (4 ≤ (I 9 2)) 42 8 [] rfl (fun h => absurd h (show ¬ (4 ≤ (I 9 2)) from by omega)) (fun hx1 => ?_)
  refine z_n 5 (17, [(0, vr 9), (1, vi a), (2, vi b)], [vi a, vi (I 9 2), vr 10], (I, zPp π, D, 147)) rfl trivial ?_
  refine z_cv 2 [vr 10, vi (I 9 2), vi a] [] rfl (m_put (n := 4) ⟨rfl, rfl, rfl, rfl⟩ (by omega) (by omega)) ?_
  refine z_n 5 (29, [(0, vr 9), (1, vi a), (2, vi b)], [vi b, vi (I 9 2), vr 12], ((zup I 11 (I 9 2) a), zPp π, D, 147)) rfl trivial ?_
  refine z_cv 2 [vr 12, vi (I 9 2), vi b] [] rfl (m_put (n := 4) ⟨rfl, rfl, rfl, rfl⟩ (by omega) (by omega)) ?_
  refine z_n 6 (42, [(0, vr 9), (1, vi a), (2, vi b)], [], ((zup (zup (zup I 11 (I 9 2) a) 13 (I 9 2) b) 9 2 ((I 9 2) + 1)), zPp π, D, 147)) (G := (zr ((I 9 2) + 1)) ∧ True) rfl ⟨by omega, trivial⟩ ?_
  first | exact z_ret rfl rfl rfl | exact z_ret rfl (zv1 (by omega)) rfl | (exfalso; omega)
set_option maxRecDepth 20000 in
theorem m_add130 {I : zI} {π : Int → Nat} {D : zD} {a b : Int} (h : 0 ≤ I 130 2 ∧ I 130 2 < 4) : zMet 54 [vr 130, vi a, vi b] (I, zPp π, D, 147) none ((zup (zup (zup I 132 (I 130 2) a) 134 (I 130 2) b) 130 2 (I 130 2 + 1)), zPp π, D, 147) := by
  refine z_n 3 (5, [(0, vr 130), (1, vi a), (2, vi b)], [vi 4, vi (I 130 2)], (I, zPp π, D, 147)) rfl trivial ?_
  refine z_br (4 ≤ (I 130 2)) 42 8 [] rfl (fun h => absurd h (show ¬ (4 ≤ (I 130 2)) from by omega)) (fun hx1 => ?_)
  refine z_n 5 (17, [(0, vr 130), (1, vi a), (2, vi b)], [vi a, vi (I 130 2), vr 131], (I, zPp π, D, 147)) rfl trivial ?_
  refine z_cv 2 [vr 131, vi (I 130 2), vi a] [] rfl (m_put (n := 4) ⟨rfl, rfl, rfl, rfl⟩ (by omega) (by omega)) ?_
  refine z_n 5 (29, [(0, vr 130), (1, vi a), (2, vi b)], [vi b, vi (I 130 2), vr 133], ((zup I 132 (I 130 2) a), zPp π, D, 147)) rfl trivial ?_
  refine z_cv 2 [vr 133, vi (I 130 2), vi b] [] rfl (m_put (n := 4) ⟨rfl, rfl, rfl, rfl⟩ (by omega) (by omega)) ?_
  refine z_n 6 (42, [(0, vr 130), (1, vi a), (2, vi b)], [], ((zup (zup (zup I 132 (I 130 2) a) 134 (I 130 2) b) 130 2 ((I 130 2) + 1)), zPp π, D, 147)) (G := (zr ((I 130 2) + 1)) ∧ True) rfl ⟨by omega, trivial⟩ ?_
  first | exact z_ret rfl rfl rfl | exact z_ret rfl (zv1 (by omega)) rfl | (exfalso; omega)
set_option maxRecDepth 20000 in
theorem m_ladd {I : zI} {π : Int → Nat} {D : zD} {d a b s : Int} (h : 0 ≤ I 14 4 ∧ I 14 4 < 96) : zMet 46 [vr 14, vi d, vi a, vi b, vi s] (I, zPp π, D, 147) none ((zup (zup (zup (zup (zup I 16 (I 14 4) d) 18 (I 14 4) a) 20 (I 14 4) b) 22 (I 14 4) s) 14 4 (I 14 4 + 1)), zPp π, D, 147) := by
  refine z_n 3 (6, [(0, vr 14), (1, vi d), (2, vi a), (3, vi b), (4, vi s)], [vi 96, vi (I 14 4)], (I, zPp π, D, 147)) rfl trivial ?_
  refine z_br (96 ≤ (I 14 4)) 68 9 [] rfl (fun h => absurd h (show ¬ (96 ≤ (I 14 4)) from by omega)) (fun hx1 => ?_)
  refine z_n 5 (18, [(0, vr 14), (1, vi d), (2, vi a), (3, vi b), (4, vi s)], [vi d, vi (I 14 4), vr 15], (I, zPp π, D, 147)) rfl trivial ?_
  refine z_cv 2 [vr 15, vi (I 14 4), vi d] [] rfl (m_put (n := 96) ⟨rfl, rfl, rfl, rfl⟩ (by omega) (by omega)) ?_
  refine z_n 5 (30, [(0, vr 14), (1, vi d), (2, vi a), (3, vi b), (4, vi s)], [vi a, vi (I 14 4), vr 17], ((zup I 16 (I 14 4) d), zPp π, D, 147)) rfl trivial ?_
  refine z_cv 2 [vr 17, vi (I 14 4), vi a] [] rfl (m_put (n := 96) ⟨rfl, rfl, rfl, rfl⟩ (by omega) (by omega)) ?_
  refine z_n 5 (42, [(0, vr 14), (1, vi d), (2, vi a), (3, vi b), (4, vi s)], [vi b, vi (I 14 4), vr 19], ((zup (zup I 16 (I 14 4) d) 18 (I 14 4) a), zPp π, D, 147)) rfl trivial ?_
  refine z_cv 2 [vr 19, vi (I 14 4), vi b] [] rfl (m_put (n := 96) ⟨rfl, rfl, rfl, rfl⟩ (by omega) (by omega)) ?_
  refine z_n 5 (55, [(0, vr 14), (1, vi d), (2, vi a), (3, vi b), (4, vi s)], [vi s, vi (I 14 4), vr 21], ((zup (zup (zup I 16 (I 14 4) d) 18 (I 14 4) a) 20 (I 14 4) b), zPp π, D, 147)) rfl trivial ?_
  refine z_cv 2 [vr 21, vi (I 14 4), vi s] [] rfl (m_put (n := 96) ⟨rfl, rfl, rfl, rfl⟩ (by omega) (by omega)) ?_
  refine z_n 6 (68, [(0, vr 14), (1, vi d), (2, vi a), (3, vi b), (4, vi s)], [], ((zup (zup (zup (zup (zup I 16 (I 14 4) d) 18 (I 14 4) a) 20 (I 14 4) b) 22 (I 14 4) s) 14 4 ((I 14 4) + 1)), zPp π, D, 147)) (G := (zr ((I 14 4) + 1)) ∧ True) rfl ⟨by omega, trivial⟩ ?_
  first | exact z_ret rfl rfl rfl | exact z_ret rfl (zv1 (by omega)) rfl | (exfalso; omega)
set_option maxRecDepth 20000 in
theorem m_lempty {I : zI} {π : Int → Nat} {D : zD}   : zMet 45 [vr 14] (I, zPp π, D, 147) none ((zup I 14 4 0), zPp π, D, 147) := by
  refine z_n 3 (5, [(0, vr 14)], [], ((zup I 14 4 0), zPp π, D, 147)) rfl trivial ?_
  first | exact z_ret rfl rfl rfl | exact z_ret rfl (zv1 (by omega)) rfl | (exfalso; omega)
set_option maxRecDepth 20000 in
theorem m_exch {I : zI} {π : Int → Nat} {D : zD} {a b : Int} (h0 : 0 ≤ a ∧ a < 24) (h1 : 0 ≤ b ∧ b < 24) (h2 : 0 ≤ I 6 a ∧ I 6 a < 24) (h3 : 0 ≤ I 6 b ∧ I 6 b < 24) : zMet 22 [vr 2, vi a, vi b] (I, zPp π, D, 147) none ((zup (zup (zup (zup I 8 (I 6 b) a) 6 a (I 6 b)) 8 (I 6 a) b) 6 b (I 6 a)), zPp π, D, 147) := by
  refine z_n 3 (5, [(0, vr 2), (1, vi a), (2, vi b)], [vi a, vr 5], (I, zPp π, D, 147)) rfl trivial ?_
  refine z_ci 1 [vr 5, vi a] [] rfl (m_get (n := 24) ⟨rfl, rfl, rfl, rfl⟩ (by omega) (by omega)) ?_
  refine z_n 4 (14, [(3, vi (I 6 a)), (0, vr 2), (1, vi a), (2, vi b)], [vi b, vr 5], (I, zPp π, D, 147)) rfl trivial ?_
  refine z_ci 1 [vr 5, vi b] [] rfl (m_get (n := 24) ⟨rfl, rfl, rfl, rfl⟩ (by omega) (by omega)) ?_
  refine z_n 4 (23, [(4, vi (I 6 b)), (3, vi (I 6 a)), (0, vr 2), (1, vi a), (2, vi b)], [vi a, vi (I 6 b), vr 2], (I, zPp π, D, 147)) rfl trivial ?_
  refine z_cv 11 [vr 2, vi (I 6 b), vi a] [] rfl (m_putAt h3.1 h3.2 h0.1 h0.2) ?_
  refine z_n 3 (29, [(4, vi (I 6 b)), (3, vi (I 6 a)), (0, vr 2), (1, vi a), (2, vi b)], [vi b, vi (I 6 a), vr 2], ((zup (zup I 8 (I 6 b) a) 6 a (I 6 b)), zPp π, D, 147)) rfl trivial ?_
  refine z_cv 11 [vr 2, vi (I 6 a), vi b] [] rfl (m_putAt h2.1 h2.2 h1.1 h1.2) ?_
  first | exact z_ret rfl rfl rfl | exact z_ret rfl (zv1 (by omega)) rfl | (exfalso; omega)
/-- the first k places noted after the days that are over -/
def zNote (I : zI) (k : Int) : zI := fun r j => if r = 24 ∧ I 2 8 * 24 ≤ j ∧ j < I 2 8 * 24 + k then I 6 (j - I 2 8 * 24) else I r j
theorem zNote_0 {I : zI} : zNote I 0 = I := by
  funext r j
  exact if_neg (fun h => by omega)
theorem zNote_s {I : zI} {k : Int} (h : 0 ≤ k) : zup (zNote I k) 24 (I 2 8 * 24 + k) (I 6 k) = zNote I (k + 1) := by
  funext r j
  unfold zup zNote
  by_cases hr : r = 24
  · subst hr
    by_cases hj : j = I 2 8 * 24 + k
    · subst hj
      rw [if_pos ⟨rfl, rfl⟩, if_pos ⟨rfl, by omega, by omega⟩, show I 2 8 * 24 + k - I 2 8 * 24 = k by omega]
    · rw [if_neg (fun h => hj h.2)]
      by_cases h2 : I 2 8 * 24 ≤ j ∧ j < I 2 8 * 24 + k
      · rw [if_pos ⟨rfl, h2⟩, if_pos ⟨rfl, by omega, by omega⟩]
      · rw [if_neg (fun h => h2 h.2), if_neg (fun h => h2 (by omega))]
  · rw [if_neg (fun h => hr h.1), if_neg (fun h => hr h.1), if_neg (fun h => hr h.1)]
theorem zNote_ne {I : zI} {k : Int} {r : Nat} (h : r ≠ 24) : zNote I k r = I r := by
  funext j
  exact if_neg (fun h1 => h h1.1)
set_option maxRecDepth 20000 in
theorem m_note_l {I : zI} {π : Int → Nat} {D : zD}  (hN : 0 ≤ I 2 5 ∧ I 2 5 ≤ 24) (hO : 0 ≤ I 2 8 ∧ I 2 8 ≤ 6) (hP : ∀ c, 0 ≤ c → c < 24 → 0 ≤ I 6 c ∧ I 6 c < 24) : ∀ (n : Nat) (k : Int), 0 ≤ k → k + n = I 2 5 → zRuns 25 2 [(1, vi k), (0, vr 2)] [] ((zNote I k), zPp π, D, 147) none ((zNote I (I 2 5)), zPp π, D, 147) := by
  intro n
  induction n with
  | zero =>
    intro k h0 hn
    refine z_n 3 (7, [(1, vi k), (0, vr 2)], [vi (I 2 5), vi k], ((zNote I k), zPp π, D, 147)) rfl trivial ?_
    refine z_br ((I 2 5) ≤ k) 40 10 [] rfl (fun hx1 => ?_) (fun h => absurd (show (I 2 5) ≤ k from by omega) h)
    exact z_ret rfl rfl (by rw [show k = I 2 5 by omega])
  | succ n ih =>
  intro k h0 hn
  have hp := hP k h0 (by omega)
  refine z_n 3 (7, [(1, vi k), (0, vr 2)], [vi (I 2 5), vi k], ((zNote I k), zPp π, D, 147)) rfl trivial ?_
  refine z_br ((I 2 5) ≤ k) 40 10 [] rfl (fun h => absurd h (show ¬ ((I 2 5) ≤ k) from by omega)) (fun hx1 => ?_)
  refine z_n 11 (28, [(1, vi k), (0, vr 2)], [vi k, vr 5, vi (((I 2 8) * 24) + k), vr 23], ((zNote I k), zPp π, D, 147)) (G := (zr ((I 2 8) * 24)) ∧ (zr (((I 2 8) * 24) + k)) ∧ True) rfl ⟨by omega, by omega, trivial⟩ ?_
  refine z_ci 1 [vr 5, vi k] [vi (((I 2 8) * 24) + k), vr 23] rfl (m_get (n := 24) ⟨rfl, rfl, rfl, rfl⟩ (by omega) (by omega)) ?_
  refine z_cv 2 [vr 23, vi (((I 2 8) * 24) + k), vi (I 6 k)] [] rfl (m_put (n := 168) ⟨rfl, rfl, rfl, rfl⟩ (by omega) (by omega)) ?_
  refine z_n 2 (2, [(1, vi (k + 1)), (0, vr 2)], [], ((zup (zNote I k) 24 (((I 2 8) * 24) + k) (I 6 k)), zPp π, D, 147)) (G := (zr (k + 1)) ∧ True) rfl ⟨by omega, trivial⟩ ?_
  refine z_sub [(1, vi (k + 1)), (0, vr 2)] [0, 1] rfl ?_
  refine z_st (σ1 := (zNote I (k + 1), zPp π, D, 147)) (by rw [← zNote_s h0]) ?_
  exact ih (k + 1) (by omega) (by omega)
set_option maxRecDepth 20000 in
theorem m_note {I : zI} {π : Int → Nat} {D : zD}  (hN : 0 ≤ I 2 5 ∧ I 2 5 ≤ 24) (hO : 0 ≤ I 2 8 ∧ I 2 8 ≤ 6) (hP : ∀ c, 0 ≤ c → c < 24 → 0 ≤ I 6 c ∧ I 6 c < 24) : zMet 25 [vr 2] (I, zPp π, D, 147) none ((zNote I (I 2 5)), zPp π, D, 147) := by
  refine z_n 2 (2, [(1, vi 0), (0, vr 2)], [], (I, zPp π, D, 147)) rfl trivial ?_
  refine z_sub [(1, vi 0), (0, vr 2)] [0, 1] rfl ?_
  refine z_st (σ1 := (zNote I 0, zPp π, D, 147)) (by rw [zNote_0]) ?_
  exact m_note_l hN hO hP (I 2 5).toNat 0 (by omega) (by omega)
end
section
theorem zdiv_b {a b : Int} (h : 0 ≤ a) (h2 : 0 < b) : 0 ≤ a / b ∧ a / b ≤ a := ⟨Int.ediv_nonneg h (by omega), Int.ediv_le_self _ h⟩
def zAnew (I : zI) (k : Int) : zI := fun r j => if (r = 4 ∨ r = 6 ∨ r = 8) ∧ 0 ≤ j ∧ j < k then (if r = 4 then 400 else j) else I r j
theorem zAnew_0 {I : zI} : zAnew I 0 = I := by
  funext r j
  exact if_neg (fun h => by omega)
theorem zAnew_s {I : zI} {k : Int} (h : 0 ≤ k) : zup (zup (zup (zAnew I k) 4 k 400) 8 k k) 6 k k = zAnew I (k + 1) := by
  funext r j
  unfold zup zAnew
  by_cases h4 : r = 4
  · subst h4
    by_cases hj : j = k
    · subst hj; simp; omega
    · simp [hj]
      by_cases h2 : 0 ≤ j ∧ j < k
      · rw [if_pos h2, if_pos (by omega)]
      · rw [if_neg h2, if_neg (by omega)]
  · by_cases h6 : r = 6
    · subst h6
      by_cases hj : j = k
      · subst hj; simp; omega
      · simp [hj]
        by_cases h2 : 0 ≤ j ∧ j < k
        · rw [if_pos h2, if_pos (by omega)]
        · rw [if_neg h2, if_neg (by omega)]
    · by_cases h8 : r = 8
      · subst h8
        by_cases hj : j = k
        · subst hj; simp; omega
        · simp [hj]
          by_cases h2 : 0 ≤ j ∧ j < k
          · rw [if_pos h2, if_pos (by omega)]
          · rw [if_neg h2, if_neg (by omega)]
      · simp [h4, h6, h8]
theorem zAnew_6 {I : zI} {k c : Int} : zAnew I k 6 c = if 0 ≤ c ∧ c < k then c else I 6 c := by
  unfold zAnew
  simp
/-- a chart begun anew, its numbers in place -/
def zBeg (J : zI) : zI := zup (zup (zup (zNote (zAnew J (J 2 5)) (J 2 5)) 9 2 0) 14 4 0) 2 9 ((J 2 5 + J 2 6 - 1) / J 2 6 - 1)
set_option maxRecDepth 20000 in
theorem m_div2 {I : zI} {π : Int → Nat} {D : zD}  (h5 : 0 ≤ I 2 5 ∧ I 2 5 ≤ 24) (h6 : 3 ≤ I 2 6 ∧ I 2 6 ≤ 8) : zMet 9 [vr 2] (I, zPp π, D, 147) (some (vi ((I 2 5 + I 2 6 - 1) / I 2 6))) (I, zPp π, D, 147) := by
  refine z_n 2 (4, [(0, vr 2)], [vi (I 2 6)], (I, zPp π, D, 147)) rfl trivial ?_
  refine z_br ((I 2 6) ≤ 0) 26 7 [] rfl (fun h => absurd h (show ¬ ((I 2 6) ≤ 0) from by omega)) (fun hx1 => ?_)
  refine z_n 11 (27, [(0, vr 2)], [vi ((((I 2 5) + (I 2 6)) - 1) / (I 2 6))], (I, zPp π, D, 147)) (G := (zr ((I 2 5) + (I 2 6))) ∧ (zr (((I 2 5) + (I 2 6)) - 1)) ∧ (0 ≤ (((I 2 5) + (I 2 6)) - 1) ∧ 0 < (I 2 6)) ∧ True) rfl ⟨by omega, by omega, by omega, trivial⟩ ?_
  first | exact z_ret rfl rfl rfl | exact z_ret rfl (zv1 (by omega)) rfl | (exfalso; omega)
set_option maxRecDepth 20000 in
theorem m_anew_l {J : zI} {π : Int → Nat} {D : zD} {a b c : Int} (hN : 2 ≤ J 2 5 ∧ J 2 5 ≤ 24) (hD : 3 ≤ J 2 6 ∧ J 2 6 ≤ 8) (hO : J 2 8 = 0) (hP : ∀ c, 0 ≤ c → c < 24 → 0 ≤ J 6 c ∧ J 6 c < 24) : ∀ (n : Nat) (k : Int), 0 ≤ k → k + n = J 2 5 → zRuns 5 23 [(4, vi k), (0, vr 2), (1, vi a), (2, vi b), (3, vi c)] [] ((zAnew J k), zPp π, D, 147) none ((zBeg J), zPp π, D, 147) := by
  have hdv := zdiv_b (a := J 2 5 + J 2 6 - 1) (b := J 2 6) (by omega) (by omega)
  intro n
  induction n with
  | zero =>
    intro k h0 hn
    refine z_n 3 (29, [(4, vi k), (0, vr 2), (1, vi a), (2, vi b), (3, vi c)], [vi (J 2 5), vi k], ((zAnew J k), zPp π, D, 147)) rfl trivial ?_
    refine z_br ((J 2 5) ≤ k) 58 32 [] rfl (fun hx1 => ?_) (fun h => absurd (show (J 2 5) ≤ k from by omega) h)
    refine z_n 1 (59, [(4, vi k), (0, vr 2), (1, vi a), (2, vi b), (3, vi c)], [vr 2], ((zAnew J k), zPp π, D, 147)) rfl trivial ?_
    refine z_cv 25 [vr 2] [] rfl (m_note (show 0 ≤ J 2 5 ∧ J 2 5 ≤ 24 from by omega) (show 0 ≤ J 2 8 ∧ J 2 8 ≤ 6 from by omega) (fun c a b => by rw [zAnew_6]; have := hP c a b; split <;> omega)) ?_
    refine z_n 6 (74, [(4, vi k), (0, vr 2), (1, vi a), (2, vi b), (3, vi c)], [vr 14], ((zup (zNote (zAnew J k) (J 2 5)) 9 2 0), zPp π, D, 147)) rfl trivial ?_
    refine z_cv 45 [vr 14] [] rfl (m_lempty) ?_
    refine z_n 2 (79, [(4, vi k), (0, vr 2), (1, vi a), (2, vi b), (3, vi c)], [vr 2, vr 2], ((zup (zup (zNote (zAnew J k) (J 2 5)) 9 2 0) 14 4 0), zPp π, D, 147)) rfl trivial ?_
    refine z_ci 9 [vr 2] [vr 2] rfl (m_div2 (show 0 ≤ J 2 5 ∧ J 2 5 ≤ 24 from by omega) (show 3 ≤ J 2 6 ∧ J 2 6 ≤ 8 from by omega)) ?_
    refine z_n 3 (87, [(4, vi k), (0, vr 2), (1, vi a), (2, vi b), (3, vi c)], [], ((zup (zup (zup (zNote (zAnew J k) (J 2 5)) 9 2 0) 14 4 0) 2 9 ((((J 2 5) + (J 2 6) - 1) / (J 2 6)) - 1)), zPp π, D, 147)) (G := (zr ((((J 2 5) + (J 2 6) - 1) / (J 2 6)) - 1)) ∧ True) rfl ⟨by omega, trivial⟩ ?_
    exact z_ret rfl rfl (by rw [show k = J 2 5 by omega]; rfl)
  | succ n ih =>
  intro k h0 hn
  refine z_n 3 (29, [(4, vi k), (0, vr 2), (1, vi a), (2, vi b), (3, vi c)], [vi (J 2 5), vi k], ((zAnew J k), zPp π, D, 147)) rfl trivial ?_
  refine z_br ((J 2 5) ≤ k) 58 32 [] rfl (fun h => absurd h (show ¬ ((J 2 5) ≤ k) from by omega)) (fun hx1 => ?_)
  refine z_n 4 (41, [(4, vi k), (0, vr 2), (1, vi a), (2, vi b), (3, vi c)], [vi 400, vi k, vr 3], ((zAnew J k), zPp π, D, 147)) rfl trivial ?_
  refine z_cv 2 [vr 3, vi k, vi 400] [] rfl (m_put (n := 24) ⟨rfl, rfl, rfl, rfl⟩ (by omega) (by omega)) ?_
  refine z_n 3 (49, [(4, vi k), (0, vr 2), (1, vi a), (2, vi b), (3, vi c)], [vi k, vi k, vr 2], ((zup (zAnew J k) 4 k 400), zPp π, D, 147)) rfl trivial ?_
  refine z_cv 11 [vr 2, vi k, vi k] [] rfl (m_putAt (by omega) (by omega) (by omega) (by omega)) ?_
  refine z_n 2 (23, [(4, vi (k + 1)), (0, vr 2), (1, vi a), (2, vi b), (3, vi c)], [], ((zup (zup (zup (zAnew J k) 4 k 400) 8 k k) 6 k k), zPp π, D, 147)) (G := (zr (k + 1)) ∧ True) rfl ⟨by omega, trivial⟩ ?_
  refine z_sub [(4, vi (k + 1)), (0, vr 2), (1, vi a), (2, vi b), (3, vi c)] [0, 1, 2, 3, 4] rfl ?_
  refine z_st (σ1 := (zAnew J (k + 1), zPp π, D, 147)) (by rw [← zAnew_s h0]) ?_
  exact ih (k + 1) (by omega) (by omega)
set_option maxRecDepth 20000 in
theorem m_anew {I : zI} {π : Int → Nat} {D : zD} {a b c : Int} (ha : 2 ≤ a ∧ a ≤ 24) (hb : 3 ≤ b ∧ b ≤ 8) (hc : 1 ≤ c ∧ c ≤ 6) (hP : ∀ c, 0 ≤ c → c < 24 → 0 ≤ I 6 c ∧ I 6 c < 24) : zMet 5 [vr 2, vi a, vi b, vi c] (I, zPp π, D, 147) none ((zBeg (zup (zup (zup (zup I 2 5 a) 2 6 b) 2 7 c) 2 8 0)), zPp π, D, 147) := by
  refine z_n 14 (23, [(4, vi 0), (0, vr 2), (1, vi a), (2, vi b), (3, vi c)], [], ((zup (zup (zup (zup I 2 5 a) 2 6 b) 2 7 c) 2 8 0), zPp π, D, 147)) rfl trivial ?_
  refine z_sub [(4, vi 0), (0, vr 2), (1, vi a), (2, vi b), (3, vi c)] [0, 1, 2, 3, 4] rfl ?_
  refine z_st (σ1 := (zAnew (zup (zup (zup (zup I 2 5 a) 2 6 b) 2 7 c) 2 8 0) 0, zPp π, D, 147)) (by rw [zAnew_0]) ?_
  exact m_anew_l (J := (zup (zup (zup (zup I 2 5 a) 2 6 b) 2 7 c) 2 8 0)) ha hb rfl hP a.toNat 0 (by omega) (show 0 + (a.toNat : Int) = a from by omega)
set_option maxRecDepth 20000 in
theorem m_endDayA {I : zI} {π : Int → Nat} {D : zD} (hN : 2 ≤ I 2 5 ∧ I 2 5 ≤ 24) (hD : 3 ≤ I 2 6 ∧ I 2 6 ≤ 8) (hO : 0 ≤ I 2 8 ∧ I 2 8 ≤ 5) (hP : ∀ c, 0 ≤ c → c < 24 → 0 ≤ I 6 c ∧ I 6 c < 24) (h : I 2 8 + 1 < I 2 7) : zMet 23 [vr 2] (I, zPp π, D, 147) none ((zup (zNote (zup I 2 8 (I 2 8 + 1)) (I 2 5)) 2 9 ((I 2 5 + I 2 6 - 1) / I 2 6 - 1)), zPp π, D, 147) := by
  have hdv := zdiv_b (a := I 2 5 + I 2 6 - 1) (b := I 2 6) (by omega) (by omega)
  refine z_n 7 (11, [(0, vr 2)], [vr 2], ((zup I 2 8 ((I 2 8) + 1)), zPp π, D, 147)) (G := (zr ((I 2 8) + 1)) ∧ True) rfl ⟨by omega, trivial⟩ ?_
  refine z_cv 25 [vr 2] [] rfl (m_note (show 0 ≤ I 2 5 ∧ I 2 5 ≤ 24 from by omega) (show 0 ≤ (I 2 8) + 1 ∧ (I 2 8) + 1 ≤ 6 from by omega) hP) ?_
  refine z_n 5 (23, [(0, vr 2)], [vi (I 2 7), vi ((I 2 8) + 1), vr 2], ((zNote (zup I 2 8 ((I 2 8) + 1)) (I 2 5)), zPp π, D, 147)) rfl trivial ?_
  refine z_br ((I 2 7) ≤ ((I 2 8) + 1)) 35 26 [vr 2] rfl (fun h => absurd h (show ¬ ((I 2 7) ≤ ((I 2 8) + 1)) from by omega)) (fun hx1 => ?_)
  refine z_n 1 (27, [(0, vr 2)], [vr 2, vr 2], ((zNote (zup I 2 8 ((I 2 8) + 1)) (I 2 5)), zPp π, D, 147)) rfl trivial ?_
  refine z_ci 9 [vr 2] [vr 2] rfl (m_div2 (show 0 ≤ I 2 5 ∧ I 2 5 ≤ 24 from by omega) (show 3 ≤ I 2 6 ∧ I 2 6 ≤ 8 from by omega)) ?_
  refine z_n 4 (39, [(0, vr 2)], [], ((zup (zNote (zup I 2 8 ((I 2 8) + 1)) (I 2 5)) 2 9 ((((I 2 5) + (I 2 6) - 1) / (I 2 6)) - 1)), zPp π, D, 147)) (G := (zr ((((I 2 5) + (I 2 6) - 1) / (I 2 6)) - 1)) ∧ True) rfl ⟨by omega, trivial⟩ ?_
  first | exact z_ret rfl rfl rfl | exact z_ret rfl (zv1 (by omega)) rfl | (exfalso; omega)
set_option maxRecDepth 20000 in
theorem m_endDayB {I : zI} {π : Int → Nat} {D : zD} (hN : 2 ≤ I 2 5 ∧ I 2 5 ≤ 24) (hD : 3 ≤ I 2 6 ∧ I 2 6 ≤ 8) (hO : 0 ≤ I 2 8 ∧ I 2 8 ≤ 5) (hP : ∀ c, 0 ≤ c → c < 24 → 0 ≤ I 6 c ∧ I 6 c < 24) (h : I 2 7 ≤ I 2 8 + 1) : zMet 23 [vr 2] (I, zPp π, D, 147) none ((zup (zNote (zup I 2 8 (I 2 8 + 1)) (I 2 5)) 2 9 (-1)), zPp π, D, 147) := by
  have hdv := zdiv_b (a := I 2 5 + I 2 6 - 1) (b := I 2 6) (by omega) (by omega)
  refine z_n 7 (11, [(0, vr 2)], [vr 2], ((zup I 2 8 ((I 2 8) + 1)), zPp π, D, 147)) (G := (zr ((I 2 8) + 1)) ∧ True) rfl ⟨by omega, trivial⟩ ?_
  refine z_cv 25 [vr 2] [] rfl (m_note (show 0 ≤ I 2 5 ∧ I 2 5 ≤ 24 from by omega) (show 0 ≤ (I 2 8) + 1 ∧ (I 2 8) + 1 ≤ 6 from by omega) hP) ?_
  refine z_n 5 (23, [(0, vr 2)], [vi (I 2 7), vi ((I 2 8) + 1), vr 2], ((zNote (zup I 2 8 ((I 2 8) + 1)) (I 2 5)), zPp π, D, 147)) rfl trivial ?_
  refine z_br ((I 2 7) ≤ ((I 2 8) + 1)) 35 26 [vr 2] rfl (fun hx1 => ?_) (fun h => absurd (show (I 2 7) ≤ ((I 2 8) + 1) from by omega) h)
  refine z_n 2 (39, [(0, vr 2)], [], ((zup (zNote (zup I 2 8 ((I 2 8) + 1)) (I 2 5)) 2 9 (-1)), zPp π, D, 147)) rfl trivial ?_
  first | exact z_ret rfl rfl rfl | exact z_ret rfl (zv1 (by omega)) rfl | (exfalso; omega)
/-- one bump of a race that ends: noted, and the two exchange their places -/
def zStep (J : zI) (u d : Int) : zI := zup (zup (zup (zup (zup (zup (zup (zup (zup J 16 (J 14 4) (J 2 8 + 1)) 18 (J 14 4) u) 20 (J 14 4) d) 22 (J 14 4) (J 6 u - J 6 d)) 14 4 (J 14 4 + 1)) 8 (J 6 d) u) 6 u (J 6 d)) 8 (J 6 u) d) 6 d (J 6 u)
def zER (I : zI) : Nat → zI
  | 0 => I
  | n + 1 => zStep (zER I n) (I 11 n) (I 13 n)
theorem zStep_out {J : zI} {u d : Int} {r : Nat} (h : r ≠ 6 ∧ r ≠ 8 ∧ r ≠ 14 ∧ r ≠ 16 ∧ r ≠ 18 ∧ r ≠ 20 ∧ r ≠ 22) : zStep J u d r = J r := by
  obtain ⟨h1, h2, h3, h4, h5, h6, h7⟩ := h
  unfold zStep
  rw [zup_ne h1, zup_ne h2, zup_ne h1, zup_ne h2, zup_ne h3, zup_ne h7, zup_ne h6, zup_ne h5, zup_ne h4]
theorem zER_out {I : zI} {r : Nat} (h : r ≠ 6 ∧ r ≠ 8 ∧ r ≠ 14 ∧ r ≠ 16 ∧ r ≠ 18 ∧ r ≠ 20 ∧ r ≠ 22) : ∀ n : Nat, zER I n r = I r
  | 0 => rfl
  | n + 1 => by
    show zStep (zER I n) _ _ r = _
    rw [zStep_out h, zER_out h n]
/-- the same, with what doesn't change in sight -/
def zERw (I : zI) (n : Nat) : zI := fun r j => if r = 6 ∨ r = 8 ∨ r = 14 ∨ r = 16 ∨ r = 18 ∨ r = 20 ∨ r = 22 then zER I n r j else I r j
theorem zERw_eq {I : zI} {n : Nat} : zERw I n = zER I n := by
  funext r j
  unfold zERw
  by_cases h : r = 6 ∨ r = 8 ∨ r = 14 ∨ r = 16 ∨ r = 18 ∨ r = 20 ∨ r = 22
  · rw [if_pos h]
  · rw [if_neg h, zER_out (by omega)]
theorem zERw_s {I : zI} {k : Int} (h : 0 ≤ k) : zStep (zERw I k.toNat) (I 11 k) (I 13 k) = zERw I (k + 1).toNat := by
  obtain ⟨n, rfl⟩ : ∃ n : Nat, k = n := ⟨k.toNat, by omega⟩
  rw [zERw_eq, zERw_eq]
  rfl
theorem zER_14 {I : zI} : ∀ n : Nat, zER I n 14 4 = I 14 4 + n
  | 0 => by simp [zER]
  | n + 1 => by
    have ih := zER_14 (I := I) n
    show zStep (zER I n) _ _ 14 4 = _
    unfold zStep
    simp [zup, ih]
    omega
theorem zStep_6 {J : zI} {u d c : Int} : zStep J u d 6 c = if c = d then J 6 u else if c = u then J 6 d else J 6 c := by
  unfold zStep
  simp [zup]
theorem zER_6 {I : zI} (hP : ∀ c, 0 ≤ c → c < 24 → 0 ≤ I 6 c ∧ I 6 c < 24) : ∀ n : Nat, (∀ k : Int, 0 ≤ k → k < n → (0 ≤ I 11 k ∧ I 11 k < 24) ∧ (0 ≤ I 13 k ∧ I 13 k < 24)) → ∀ c, 0 ≤ c → c < 24 → 0 ≤ zER I n 6 c ∧ zER I n 6 c < 24
  | 0, _ => hP
  | n + 1, hb => by
    intro c h0 h1
    have ih := zER_6 hP n (fun k a b => hb k a (by omega))
    obtain ⟨b1, b2⟩ := hb n (by omega) (by omega)
    show 0 ≤ zStep (zER I n) (I 11 n) (I 13 n) 6 c ∧ zStep (zER I n) (I 11 n) (I 13 n) 6 c < 24
    rw [zStep_6]
    split
    · exact ih _ b1.1 b1.2
    · split
      · exact ih _ b2.1 b2.2
      · exact ih c h0 h1
set_option maxRecDepth 20000 in
theorem m_erA_l {I : zI} {π : Int → Nat} {D : zD}  (hM : 0 ≤ I 9 2 ∧ I 9 2 ≤ 4) (hN : 2 ≤ I 2 5 ∧ I 2 5 ≤ 24) (hD : 3 ≤ I 2 6 ∧ I 2 6 ≤ 8) (hO : 0 ≤ I 2 8 ∧ I 2 8 ≤ 5) (hR : 0 ≤ I 2 9 ∧ I 2 9 ≤ 7) (hP : ∀ c, 0 ≤ c → c < 24 → 0 ≤ I 6 c ∧ I 6 c < 24) (hB : ∀ k, 0 ≤ k → k < I 9 2 → (0 ≤ I 11 k ∧ I 11 k < 24) ∧ (0 ≤ I 13 k ∧ I 13 k < 24)) (hl : 0 ≤ I 14 4 ∧ I 14 4 + I 9 2 ≤ 96) (h : 0 < I 2 9) : ∀ (n : Nat) (k : Int), 0 ≤ k → k + n = I 9 2 → zRuns 21 10 [(2, vi k), (1, vi (I 9 2)), (0, vr 2)] [] ((zERw I k.toNat), zPp π, D, 147) (some (vi (I 9 2))) ((zup (zup (zERw I (I 9 2).toNat) 9 2 0) 2 9 (I 2 9 - 1)), zPp π, D, 147) := by
  intro n
  induction n with
  | zero =>
    intro k h0 hn
    have e9 : k = I 9 2 := by omega
    have hPk : ∀ c, 0 ≤ c → c < 24 → 0 ≤ (zERw I k.toNat) 6 c ∧ (zERw I k.toNat) 6 c < 24 := by rw [zERw_eq]; exact zER_6 hP k.toNat (fun j a b => hB j a (by omega))
    refine z_n 2 (12, [(2, vi k), (1, vi (I 9 2)), (0, vr 2)], [vi (I 9 2), vi k], ((zERw I k.toNat), zPp π, D, 147)) rfl trivial ?_
    refine z_br ((I 9 2) ≤ k) 74 15 [] rfl (fun hx1 => ?_) (fun h => absurd (show (I 9 2) ≤ k from by omega) h)
    refine z_n 6 (86, [(2, vi k), (1, vi (I 9 2)), (0, vr 2)], [vi (I 2 9)], ((zup (zERw I k.toNat) 9 2 0), zPp π, D, 147)) rfl trivial ?_
    refine z_br ((I 2 9) ≤ 0) 102 89 [] rfl (fun h => absurd h (show ¬ ((I 2 9) ≤ 0) from by omega)) (fun hx2 => ?_)
    refine z_n 8 (107, [(2, vi k), (1, vi (I 9 2)), (0, vr 2)], [vi (I 9 2)], ((zup (zup (zERw I k.toNat) 9 2 0) 2 9 ((I 2 9) - 1)), zPp π, D, 147)) (G := (zr ((I 2 9) - 1)) ∧ True) rfl ⟨by omega, trivial⟩ ?_
    exact z_ret rfl rfl (by subst e9; rfl)
  | succ n ih =>
  intro k h0 hn
  have hPk : ∀ c, 0 ≤ c → c < 24 → 0 ≤ (zERw I k.toNat) 6 c ∧ (zERw I k.toNat) 6 c < 24 := by rw [zERw_eq]; exact zER_6 hP k.toNat (fun j a b => hB j a (by omega))
  have e14 : zERw I k.toNat 14 4 = I 14 4 + k := by rw [zERw_eq, zER_14]; omega
  obtain ⟨bu, bd⟩ := hB k h0 (by omega)
  have pu := hPk _ bu.1 bu.2
  have pd := hPk _ bd.1 bd.2
  refine z_n 2 (12, [(2, vi k), (1, vi (I 9 2)), (0, vr 2)], [vi (I 9 2), vi k], ((zERw I k.toNat), zPp π, D, 147)) rfl trivial ?_
  refine z_br ((I 9 2) ≤ k) 74 15 [] rfl (fun h => absurd h (show ¬ ((I 9 2) ≤ k) from by omega)) (fun hx1 => ?_)
  refine z_n 4 (23, [(2, vi k), (1, vi (I 9 2)), (0, vr 2)], [vi k, vr 10], ((zERw I k.toNat), zPp π, D, 147)) rfl trivial ?_
  refine z_ci 1 [vr 10, vi k] [] rfl (m_get (n := 4) ⟨rfl, rfl, rfl, rfl⟩ (by omega) (by omega)) ?_
  refine z_n 5 (35, [(3, vi (I 11 k)), (2, vi k), (1, vi (I 9 2)), (0, vr 2)], [vi k, vr 12], ((zERw I k.toNat), zPp π, D, 147)) rfl trivial ?_
  refine z_ci 1 [vr 12, vi k] [] rfl (m_get (n := 4) ⟨rfl, rfl, rfl, rfl⟩ (by omega) (by omega)) ?_
  refine z_n 11 (55, [(4, vi (I 13 k)), (3, vi (I 11 k)), (2, vi k), (1, vi (I 9 2)), (0, vr 2)], [vi k, vr 2, vi (I 13 k), vi (I 11 k), vi ((I 2 8) + 1), vr 14], ((zERw I k.toNat), zPp π, D, 147)) (G := (zr ((I 2 8) + 1)) ∧ True) rfl ⟨by omega, trivial⟩ ?_
  refine z_ci 17 [vr 2, vi k] [vi (I 13 k), vi (I 11 k), vi ((I 2 8) + 1), vr 14] rfl (m_span (by omega) (by omega) bu bd pu pd) ?_
  refine z_cv 46 [vr 14, vi ((I 2 8) + 1), vi (I 11 k), vi (I 13 k), vi ((zERw I k.toNat) 6 (I 11 k) - (zERw I k.toNat) 6 (I 13 k))] [] rfl (m_ladd (show 0 ≤ (zERw I k.toNat) 14 4 ∧ (zERw I k.toNat) 14 4 < 96 from by omega)) ?_
  refine z_n 3 (65, [(4, vi (I 13 k)), (3, vi (I 11 k)), (2, vi k), (1, vi (I 9 2)), (0, vr 2)], [vi (I 13 k), vi (I 11 k), vr 2], ((zup (zup (zup (zup (zup (zERw I k.toNat) 16 ((zERw I k.toNat) 14 4) ((I 2 8) + 1)) 18 ((zERw I k.toNat) 14 4) (I 11 k)) 20 ((zERw I k.toNat) 14 4) (I 13 k)) 22 ((zERw I k.toNat) 14 4) ((zERw I k.toNat) 6 (I 11 k) - (zERw I k.toNat) 6 (I 13 k))) 14 4 ((zERw I k.toNat) 14 4 + 1)), zPp π, D, 147)) rfl trivial ?_
  refine z_cv 22 [vr 2, vi (I 11 k), vi (I 13 k)] [] rfl (m_exch bu bd pu pd) ?_
  refine z_n 2 (10, [(2, vi (k + 1)), (4, vi (I 13 k)), (3, vi (I 11 k)), (1, vi (I 9 2)), (0, vr 2)], [], ((zup (zup (zup (zup (zup (zup (zup (zup (zup (zERw I k.toNat) 16 ((zERw I k.toNat) 14 4) ((I 2 8) + 1)) 18 ((zERw I k.toNat) 14 4) (I 11 k)) 20 ((zERw I k.toNat) 14 4) (I 13 k)) 22 ((zERw I k.toNat) 14 4) ((zERw I k.toNat) 6 (I 11 k) - (zERw I k.toNat) 6 (I 13 k))) 14 4 ((zERw I k.toNat) 14 4 + 1)) 8 ((zERw I k.toNat) 6 (I 13 k)) (I 11 k)) 6 (I 11 k) ((zERw I k.toNat) 6 (I 13 k))) 8 ((zERw I k.toNat) 6 (I 11 k)) (I 13 k)) 6 (I 13 k) ((zERw I k.toNat) 6 (I 11 k))), zPp π, D, 147)) (G := (zr (k + 1)) ∧ True) rfl ⟨by omega, trivial⟩ ?_
  refine z_sub [(2, vi (k + 1)), (1, vi (I 9 2)), (0, vr 2)] [0, 3, 4] rfl ?_
  refine z_st (σ1 := (zERw I (k + 1).toNat, zPp π, D, 147)) (by rw [← zERw_s h0]; rfl) ?_
  exact ih (k + 1) (by omega) (by omega)
set_option maxRecDepth 20000 in
theorem m_endRaceA {I : zI} {π : Int → Nat} {D : zD}  (hM : 0 ≤ I 9 2 ∧ I 9 2 ≤ 4) (hN : 2 ≤ I 2 5 ∧ I 2 5 ≤ 24) (hD : 3 ≤ I 2 6 ∧ I 2 6 ≤ 8) (hO : 0 ≤ I 2 8 ∧ I 2 8 ≤ 5) (hR : 0 ≤ I 2 9 ∧ I 2 9 ≤ 7) (hP : ∀ c, 0 ≤ c → c < 24 → 0 ≤ I 6 c ∧ I 6 c < 24) (hB : ∀ k, 0 ≤ k → k < I 9 2 → (0 ≤ I 11 k ∧ I 11 k < 24) ∧ (0 ≤ I 13 k ∧ I 13 k < 24)) (hl : 0 ≤ I 14 4 ∧ I 14 4 + I 9 2 ≤ 96) (h : 0 < I 2 9) : zMet 21 [vr 2] (I, zPp π, D, 147) (some (vi (I 9 2))) ((zup (zup (zERw I (I 9 2).toNat) 9 2 0) 2 9 (I 2 9 - 1)), zPp π, D, 147) := by
  refine z_n 6 (10, [(2, vi 0), (1, vi (I 9 2)), (0, vr 2)], [], (I, zPp π, D, 147)) rfl trivial ?_
  refine z_sub [(2, vi 0), (1, vi (I 9 2)), (0, vr 2)] [0, 1, 2] rfl ?_
  refine z_st (σ1 := (zERw I (0 : Int).toNat, zPp π, D, 147)) (by rw [zERw_eq]; rfl) ?_
  exact m_erA_l hM hN hD hO hR hP hB hl h (I 9 2).toNat 0 (by omega) (by omega)
set_option maxRecDepth 20000 in
theorem m_erB_l {I : zI} {π : Int → Nat} {D : zD}  (hM : 0 ≤ I 9 2 ∧ I 9 2 ≤ 4) (hN : 2 ≤ I 2 5 ∧ I 2 5 ≤ 24) (hD : 3 ≤ I 2 6 ∧ I 2 6 ≤ 8) (hO : 0 ≤ I 2 8 ∧ I 2 8 ≤ 5) (hR : 0 ≤ I 2 9 ∧ I 2 9 ≤ 7) (hP : ∀ c, 0 ≤ c → c < 24 → 0 ≤ I 6 c ∧ I 6 c < 24) (hB : ∀ k, 0 ≤ k → k < I 9 2 → (0 ≤ I 11 k ∧ I 11 k < 24) ∧ (0 ≤ I 13 k ∧ I 13 k < 24)) (hl : 0 ≤ I 14 4 ∧ I 14 4 + I 9 2 ≤ 96) (h : I 2 9 = 0) (h2 : I 2 8 + 1 < I 2 7) : ∀ (n : Nat) (k : Int), 0 ≤ k → k + n = I 9 2 → zRuns 21 10 [(2, vi k), (1, vi (I 9 2)), (0, vr 2)] [] ((zERw I k.toNat), zPp π, D, 147) (some (vi (I 9 2))) ((zup (zNote (zup (zup (zERw I (I 9 2).toNat) 9 2 0) 2 8 (I 2 8 + 1)) (I 2 5)) 2 9 ((I 2 5 + I 2 6 - 1) / I 2 6 - 1)), zPp π, D, 147) := by
  intro n
  induction n with
  | zero =>
    intro k h0 hn
    have e9 : k = I 9 2 := by omega
    have hPk : ∀ c, 0 ≤ c → c < 24 → 0 ≤ (zERw I k.toNat) 6 c ∧ (zERw I k.toNat) 6 c < 24 := by rw [zERw_eq]; exact zER_6 hP k.toNat (fun j a b => hB j a (by omega))
    refine z_n 2 (12, [(2, vi k), (1, vi (I 9 2)), (0, vr 2)], [vi (I 9 2), vi k], ((zERw I k.toNat), zPp π, D, 147)) rfl trivial ?_
    refine z_br ((I 9 2) ≤ k) 74 15 [] rfl (fun hx1 => ?_) (fun h => absurd (show (I 9 2) ≤ k from by omega) h)
    refine z_n 6 (86, [(2, vi k), (1, vi (I 9 2)), (0, vr 2)], [vi (I 2 9)], ((zup (zERw I k.toNat) 9 2 0), zPp π, D, 147)) rfl trivial ?_
    refine z_br ((I 2 9) ≤ 0) 102 89 [] rfl (fun hx2 => ?_) (fun h => absurd (show (I 2 9) ≤ 0 from by omega) h)
    refine z_n 1 (103, [(2, vi k), (1, vi (I 9 2)), (0, vr 2)], [vr 2], ((zup (zERw I k.toNat) 9 2 0), zPp π, D, 147)) rfl trivial ?_
    refine z_cv 23 [vr 2] [] rfl (m_endDayA (show 2 ≤ I 2 5 ∧ I 2 5 ≤ 24 from hN) (show 3 ≤ I 2 6 ∧ I 2 6 ≤ 8 from hD) (show 0 ≤ I 2 8 ∧ I 2 8 ≤ 5 from hO) hPk h2) ?_
    refine z_n 1 (107, [(2, vi k), (1, vi (I 9 2)), (0, vr 2)], [vi (I 9 2)], ((zup (zNote (zup (zup (zERw I k.toNat) 9 2 0) 2 8 (I 2 8 + 1)) (I 2 5)) 2 9 ((I 2 5 + I 2 6 - 1) / I 2 6 - 1)), zPp π, D, 147)) rfl trivial ?_
    exact z_ret rfl rfl (by subst e9; rfl)
  | succ n ih =>
  intro k h0 hn
  have hPk : ∀ c, 0 ≤ c → c < 24 → 0 ≤ (zERw I k.toNat) 6 c ∧ (zERw I k.toNat) 6 c < 24 := by rw [zERw_eq]; exact zER_6 hP k.toNat (fun j a b => hB j a (by omega))
  have e14 : zERw I k.toNat 14 4 = I 14 4 + k := by rw [zERw_eq, zER_14]; omega
  obtain ⟨bu, bd⟩ := hB k h0 (by omega)
  have pu := hPk _ bu.1 bu.2
  have pd := hPk _ bd.1 bd.2
  refine z_n 2 (12, [(2, vi k), (1, vi (I 9 2)), (0, vr 2)], [vi (I 9 2), vi k], ((zERw I k.toNat), zPp π, D, 147)) rfl trivial ?_
  refine z_br ((I 9 2) ≤ k) 74 15 [] rfl (fun h => absurd h (show ¬ ((I 9 2) ≤ k) from by omega)) (fun hx1 => ?_)
  refine z_n 4 (23, [(2, vi k), (1, vi (I 9 2)), (0, vr 2)], [vi k, vr 10], ((zERw I k.toNat), zPp π, D, 147)) rfl trivial ?_
  refine z_ci 1 [vr 10, vi k] [] rfl (m_get (n := 4) ⟨rfl, rfl, rfl, rfl⟩ (by omega) (by omega)) ?_
  refine z_n 5 (35, [(3, vi (I 11 k)), (2, vi k), (1, vi (I 9 2)), (0, vr 2)], [vi k, vr 12], ((zERw I k.toNat), zPp π, D, 147)) rfl trivial ?_
  refine z_ci 1 [vr 12, vi k] [] rfl (m_get (n := 4) ⟨rfl, rfl, rfl, rfl⟩ (by omega) (by omega)) ?_
  refine z_n 11 (55, [(4, vi (I 13 k)), (3, vi (I 11 k)), (2, vi k), (1, vi (I 9 2)), (0, vr 2)], [vi k, vr 2, vi (I 13 k), vi (I 11 k), vi ((I 2 8) + 1), vr 14], ((zERw I k.toNat), zPp π, D, 147)) (G := (zr ((I 2 8) + 1)) ∧ True) rfl ⟨by omega, trivial⟩ ?_
  refine z_ci 17 [vr 2, vi k] [vi (I 13 k), vi (I 11 k), vi ((I 2 8) + 1), vr 14] rfl (m_span (by omega) (by omega) bu bd pu pd) ?_
  refine z_cv 46 [vr 14, vi ((I 2 8) + 1), vi (I 11 k), vi (I 13 k), vi ((zERw I k.toNat) 6 (I 11 k) - (zERw I k.toNat) 6 (I 13 k))] [] rfl (m_ladd (show 0 ≤ (zERw I k.toNat) 14 4 ∧ (zERw I k.toNat) 14 4 < 96 from by omega)) ?_
  refine z_n 3 (65, [(4, vi (I 13 k)), (3, vi (I 11 k)), (2, vi k), (1, vi (I 9 2)), (0, vr 2)], [vi (I 13 k), vi (I 11 k), vr 2], ((zup (zup (zup (zup (zup (zERw I k.toNat) 16 ((zERw I k.toNat) 14 4) ((I 2 8) + 1)) 18 ((zERw I k.toNat) 14 4) (I 11 k)) 20 ((zERw I k.toNat) 14 4) (I 13 k)) 22 ((zERw I k.toNat) 14 4) ((zERw I k.toNat) 6 (I 11 k) - (zERw I k.toNat) 6 (I 13 k))) 14 4 ((zERw I k.toNat) 14 4 + 1)), zPp π, D, 147)) rfl trivial ?_
  refine z_cv 22 [vr 2, vi (I 11 k), vi (I 13 k)] [] rfl (m_exch bu bd pu pd) ?_
  refine z_n 2 (10, [(2, vi (k + 1)), (4, vi (I 13 k)), (3, vi (I 11 k)), (1, vi (I 9 2)), (0, vr 2)], [], ((zup (zup (zup (zup (zup (zup (zup (zup (zup (zERw I k.toNat) 16 ((zERw I k.toNat) 14 4) ((I 2 8) + 1)) 18 ((zERw I k.toNat) 14 4) (I 11 k)) 20 ((zERw I k.toNat) 14 4) (I 13 k)) 22 ((zERw I k.toNat) 14 4) ((zERw I k.toNat) 6 (I 11 k) - (zERw I k.toNat) 6 (I 13 k))) 14 4 ((zERw I k.toNat) 14 4 + 1)) 8 ((zERw I k.toNat) 6 (I 13 k)) (I 11 k)) 6 (I 11 k) ((zERw I k.toNat) 6 (I 13 k))) 8 ((zERw I k.toNat) 6 (I 11 k)) (I 13 k)) 6 (I 13 k) ((zERw I k.toNat) 6 (I 11 k))), zPp π, D, 147)) (G := (zr (k + 1)) ∧ True) rfl ⟨by omega, trivial⟩ ?_
  refine z_sub [(2, vi (k + 1)), (1, vi (I 9 2)), (0, vr 2)] [0, 3, 4] rfl ?_
  refine z_st (σ1 := (zERw I (k + 1).toNat, zPp π, D, 147)) (by rw [← zERw_s h0]; rfl) ?_
  exact ih (k + 1) (by omega) (by omega)
set_option maxRecDepth 20000 in
theorem m_endRaceB {I : zI} {π : Int → Nat} {D : zD}  (hM : 0 ≤ I 9 2 ∧ I 9 2 ≤ 4) (hN : 2 ≤ I 2 5 ∧ I 2 5 ≤ 24) (hD : 3 ≤ I 2 6 ∧ I 2 6 ≤ 8) (hO : 0 ≤ I 2 8 ∧ I 2 8 ≤ 5) (hR : 0 ≤ I 2 9 ∧ I 2 9 ≤ 7) (hP : ∀ c, 0 ≤ c → c < 24 → 0 ≤ I 6 c ∧ I 6 c < 24) (hB : ∀ k, 0 ≤ k → k < I 9 2 → (0 ≤ I 11 k ∧ I 11 k < 24) ∧ (0 ≤ I 13 k ∧ I 13 k < 24)) (hl : 0 ≤ I 14 4 ∧ I 14 4 + I 9 2 ≤ 96) (h : I 2 9 = 0) (h2 : I 2 8 + 1 < I 2 7) : zMet 21 [vr 2] (I, zPp π, D, 147) (some (vi (I 9 2))) ((zup (zNote (zup (zup (zERw I (I 9 2).toNat) 9 2 0) 2 8 (I 2 8 + 1)) (I 2 5)) 2 9 ((I 2 5 + I 2 6 - 1) / I 2 6 - 1)), zPp π, D, 147) := by
  refine z_n 6 (10, [(2, vi 0), (1, vi (I 9 2)), (0, vr 2)], [], (I, zPp π, D, 147)) rfl trivial ?_
  refine z_sub [(2, vi 0), (1, vi (I 9 2)), (0, vr 2)] [0, 1, 2] rfl ?_
  refine z_st (σ1 := (zERw I (0 : Int).toNat, zPp π, D, 147)) (by rw [zERw_eq]; rfl) ?_
  exact m_erB_l hM hN hD hO hR hP hB hl h h2 (I 9 2).toNat 0 (by omega) (by omega)
set_option maxRecDepth 20000 in
theorem m_erC_l {I : zI} {π : Int → Nat} {D : zD}  (hM : 0 ≤ I 9 2 ∧ I 9 2 ≤ 4) (hN : 2 ≤ I 2 5 ∧ I 2 5 ≤ 24) (hD : 3 ≤ I 2 6 ∧ I 2 6 ≤ 8) (hO : 0 ≤ I 2 8 ∧ I 2 8 ≤ 5) (hR : 0 ≤ I 2 9 ∧ I 2 9 ≤ 7) (hP : ∀ c, 0 ≤ c → c < 24 → 0 ≤ I 6 c ∧ I 6 c < 24) (hB : ∀ k, 0 ≤ k → k < I 9 2 → (0 ≤ I 11 k ∧ I 11 k < 24) ∧ (0 ≤ I 13 k ∧ I 13 k < 24)) (hl : 0 ≤ I 14 4 ∧ I 14 4 + I 9 2 ≤ 96) (h : I 2 9 = 0) (h2 : I 2 7 ≤ I 2 8 + 1) : ∀ (n : Nat) (k : Int), 0 ≤ k → k + n = I 9 2 → zRuns 21 10 [(2, vi k), (1, vi (I 9 2)), (0, vr 2)] [] ((zERw I k.toNat), zPp π, D, 147) (some (vi (I 9 2))) ((zup (zNote (zup (zup (zERw I (I 9 2).toNat) 9 2 0) 2 8 (I 2 8 + 1)) (I 2 5)) 2 9 (-1)), zPp π, D, 147) := by
  intro n
  induction n with
  | zero =>
    intro k h0 hn
    have e9 : k = I 9 2 := by omega
    have hPk : ∀ c, 0 ≤ c → c < 24 → 0 ≤ (zERw I k.toNat) 6 c ∧ (zERw I k.toNat) 6 c < 24 := by rw [zERw_eq]; exact zER_6 hP k.toNat (fun j a b => hB j a (by omega))
    refine z_n 2 (12, [(2, vi k), (1, vi (I 9 2)), (0, vr 2)], [vi (I 9 2), vi k], ((zERw I k.toNat), zPp π, D, 147)) rfl trivial ?_
    refine z_br ((I 9 2) ≤ k) 74 15 [] rfl (fun hx1 => ?_) (fun h => absurd (show (I 9 2) ≤ k from by omega) h)
    refine z_n 6 (86, [(2, vi k), (1, vi (I 9 2)), (0, vr 2)], [vi (I 2 9)], ((zup (zERw I k.toNat) 9 2 0), zPp π, D, 147)) rfl trivial ?_
    refine z_br ((I 2 9) ≤ 0) 102 89 [] rfl (fun hx2 => ?_) (fun h => absurd (show (I 2 9) ≤ 0 from by omega) h)
    refine z_n 1 (103, [(2, vi k), (1, vi (I 9 2)), (0, vr 2)], [vr 2], ((zup (zERw I k.toNat) 9 2 0), zPp π, D, 147)) rfl trivial ?_
    refine z_cv 23 [vr 2] [] rfl (m_endDayB (show 2 ≤ I 2 5 ∧ I 2 5 ≤ 24 from hN) (show 3 ≤ I 2 6 ∧ I 2 6 ≤ 8 from hD) (show 0 ≤ I 2 8 ∧ I 2 8 ≤ 5 from hO) hPk h2) ?_
    refine z_n 1 (107, [(2, vi k), (1, vi (I 9 2)), (0, vr 2)], [vi (I 9 2)], ((zup (zNote (zup (zup (zERw I k.toNat) 9 2 0) 2 8 (I 2 8 + 1)) (I 2 5)) 2 9 (-1)), zPp π, D, 147)) rfl trivial ?_
    exact z_ret rfl rfl (by subst e9; rfl)
  | succ n ih =>
  intro k h0 hn
  have hPk : ∀ c, 0 ≤ c → c < 24 → 0 ≤ (zERw I k.toNat) 6 c ∧ (zERw I k.toNat) 6 c < 24 := by rw [zERw_eq]; exact zER_6 hP k.toNat (fun j a b => hB j a (by omega))
  have e14 : zERw I k.toNat 14 4 = I 14 4 + k := by rw [zERw_eq, zER_14]; omega
  obtain ⟨bu, bd⟩ := hB k h0 (by omega)
  have pu := hPk _ bu.1 bu.2
  have pd := hPk _ bd.1 bd.2
  refine z_n 2 (12, [(2, vi k), (1, vi (I 9 2)), (0, vr 2)], [vi (I 9 2), vi k], ((zERw I k.toNat), zPp π, D, 147)) rfl trivial ?_
  refine z_br ((I 9 2) ≤ k) 74 15 [] rfl (fun h => absurd h (show ¬ ((I 9 2) ≤ k) from by omega)) (fun hx1 => ?_)
  refine z_n 4 (23, [(2, vi k), (1, vi (I 9 2)), (0, vr 2)], [vi k, vr 10], ((zERw I k.toNat), zPp π, D, 147)) rfl trivial ?_
  refine z_ci 1 [vr 10, vi k] [] rfl (m_get (n := 4) ⟨rfl, rfl, rfl, rfl⟩ (by omega) (by omega)) ?_
  refine z_n 5 (35, [(3, vi (I 11 k)), (2, vi k), (1, vi (I 9 2)), (0, vr 2)], [vi k, vr 12], ((zERw I k.toNat), zPp π, D, 147)) rfl trivial ?_
  refine z_ci 1 [vr 12, vi k] [] rfl (m_get (n := 4) ⟨rfl, rfl, rfl, rfl⟩ (by omega) (by omega)) ?_
  refine z_n 11 (55, [(4, vi (I 13 k)), (3, vi (I 11 k)), (2, vi k), (1, vi (I 9 2)), (0, vr 2)], [vi k, vr 2, vi (I 13 k), vi (I 11 k), vi ((I 2 8) + 1), vr 14], ((zERw I k.toNat), zPp π, D, 147)) (G := (zr ((I 2 8) + 1)) ∧ True) rfl ⟨by omega, trivial⟩ ?_
  refine z_ci 17 [vr 2, vi k] [vi (I 13 k), vi (I 11 k), vi ((I 2 8) + 1), vr 14] rfl (m_span (by omega) (by omega) bu bd pu pd) ?_
  refine z_cv 46 [vr 14, vi ((I 2 8) + 1), vi (I 11 k), vi (I 13 k), vi ((zERw I k.toNat) 6 (I 11 k) - (zERw I k.toNat) 6 (I 13 k))] [] rfl (m_ladd (show 0 ≤ (zERw I k.toNat) 14 4 ∧ (zERw I k.toNat) 14 4 < 96 from by omega)) ?_
  refine z_n 3 (65, [(4, vi (I 13 k)), (3, vi (I 11 k)), (2, vi k), (1, vi (I 9 2)), (0, vr 2)], [vi (I 13 k), vi (I 11 k), vr 2], ((zup (zup (zup (zup (zup (zERw I k.toNat) 16 ((zERw I k.toNat) 14 4) ((I 2 8) + 1)) 18 ((zERw I k.toNat) 14 4) (I 11 k)) 20 ((zERw I k.toNat) 14 4) (I 13 k)) 22 ((zERw I k.toNat) 14 4) ((zERw I k.toNat) 6 (I 11 k) - (zERw I k.toNat) 6 (I 13 k))) 14 4 ((zERw I k.toNat) 14 4 + 1)), zPp π, D, 147)) rfl trivial ?_
  refine z_cv 22 [vr 2, vi (I 11 k), vi (I 13 k)] [] rfl (m_exch bu bd pu pd) ?_
  refine z_n 2 (10, [(2, vi (k + 1)), (4, vi (I 13 k)), (3, vi (I 11 k)), (1, vi (I 9 2)), (0, vr 2)], [], ((zup (zup (zup (zup (zup (zup (zup (zup (zup (zERw I k.toNat) 16 ((zERw I k.toNat) 14 4) ((I 2 8) + 1)) 18 ((zERw I k.toNat) 14 4) (I 11 k)) 20 ((zERw I k.toNat) 14 4) (I 13 k)) 22 ((zERw I k.toNat) 14 4) ((zERw I k.toNat) 6 (I 11 k) - (zERw I k.toNat) 6 (I 13 k))) 14 4 ((zERw I k.toNat) 14 4 + 1)) 8 ((zERw I k.toNat) 6 (I 13 k)) (I 11 k)) 6 (I 11 k) ((zERw I k.toNat) 6 (I 13 k))) 8 ((zERw I k.toNat) 6 (I 11 k)) (I 13 k)) 6 (I 13 k) ((zERw I k.toNat) 6 (I 11 k))), zPp π, D, 147)) (G := (zr (k + 1)) ∧ True) rfl ⟨by omega, trivial⟩ ?_
  refine z_sub [(2, vi (k + 1)), (1, vi (I 9 2)), (0, vr 2)] [0, 3, 4] rfl ?_
  refine z_st (σ1 := (zERw I (k + 1).toNat, zPp π, D, 147)) (by rw [← zERw_s h0]; rfl) ?_
  exact ih (k + 1) (by omega) (by omega)
set_option maxRecDepth 20000 in
theorem m_endRaceC {I : zI} {π : Int → Nat} {D : zD}  (hM : 0 ≤ I 9 2 ∧ I 9 2 ≤ 4) (hN : 2 ≤ I 2 5 ∧ I 2 5 ≤ 24) (hD : 3 ≤ I 2 6 ∧ I 2 6 ≤ 8) (hO : 0 ≤ I 2 8 ∧ I 2 8 ≤ 5) (hR : 0 ≤ I 2 9 ∧ I 2 9 ≤ 7) (hP : ∀ c, 0 ≤ c → c < 24 → 0 ≤ I 6 c ∧ I 6 c < 24) (hB : ∀ k, 0 ≤ k → k < I 9 2 → (0 ≤ I 11 k ∧ I 11 k < 24) ∧ (0 ≤ I 13 k ∧ I 13 k < 24)) (hl : 0 ≤ I 14 4 ∧ I 14 4 + I 9 2 ≤ 96) (h : I 2 9 = 0) (h2 : I 2 7 ≤ I 2 8 + 1) : zMet 21 [vr 2] (I, zPp π, D, 147) (some (vi (I 9 2))) ((zup (zNote (zup (zup (zERw I (I 9 2).toNat) 9 2 0) 2 8 (I 2 8 + 1)) (I 2 5)) 2 9 (-1)), zPp π, D, 147) := by
  refine z_n 6 (10, [(2, vi 0), (1, vi (I 9 2)), (0, vr 2)], [], (I, zPp π, D, 147)) rfl trivial ?_
  refine z_sub [(2, vi 0), (1, vi (I 9 2)), (0, vr 2)] [0, 1, 2] rfl ?_
  refine z_st (σ1 := (zERw I (0 : Int).toNat, zPp π, D, 147)) (by rw [zERw_eq]; rfl) ?_
  exact m_erC_l hM hN hD hO hR hP hB hl h h2 (I 9 2).toNat 0 (by omega) (by omega)
end
section
/-- the place k of the mask m -/
abbrev zbt (m k : Int) : Prop := m / 2 ^ k.toNat % 2 = 1
abbrev zsl1 (k : Int) : Int := (Int32.ofInt 1 <<< (Int32.ofInt k &&& 31)).toInt
theorem zfin16 {P : Int → Prop} (h : ∀ m : Fin 16, P m.val) {m : Int} (h0 : 0 ≤ m) (h1 : m < 16) : P m := by
  have := h ⟨m.toNat, by omega⟩
  rw [show (((⟨m.toNat, by omega⟩ : Fin 16).val : Nat) : Int) = m by simp; omega] at this
  exact this
theorem zfin4 {P : Int → Prop} (h : ∀ m : Fin 4, P m.val) {m : Int} (h0 : 0 ≤ m) (h1 : m < 4) : P m := by
  have := h ⟨m.toNat, by omega⟩
  rw [show (((⟨m.toNat, by omega⟩ : Fin 4).val : Nat) : Int) = m by simp; omega] at this
  exact this
theorem zb_or0 : ∀ m : Fin 16, ∀ k : Fin 4, (0 ≤ (Int32.ofInt m.val ||| Int32.ofInt (zsl1 k.val)).toInt ∧ (Int32.ofInt m.val ||| Int32.ofInt (zsl1 k.val)).toInt < 16) ∧ ∀ j : Fin 4, zbt (Int32.ofInt m.val ||| Int32.ofInt (zsl1 k.val)).toInt j.val ↔ (zbt m.val j.val ∨ j = k) := by decide +kernel
theorem zb_or {m k : Int} (h0 : 0 ≤ m) (h1 : m < 16) (k0 : 0 ≤ k) (k1 : k < 4) : (0 ≤ (Int32.ofInt m ||| Int32.ofInt (zsl1 k)).toInt ∧ (Int32.ofInt m ||| Int32.ofInt (zsl1 k)).toInt < 16) ∧ ∀ j, 0 ≤ j → j < 4 → (zbt (Int32.ofInt m ||| Int32.ofInt (zsl1 k)).toInt j ↔ (zbt m j ∨ j = k)) := by
  revert m k
  have h : ∀ m : Fin 16, ∀ k : Int, 0 ≤ k → k < 4 → (0 ≤ (Int32.ofInt m.val ||| Int32.ofInt (zsl1 k)).toInt ∧ (Int32.ofInt m.val ||| Int32.ofInt (zsl1 k)).toInt < 16) ∧ ∀ j, 0 ≤ j → j < 4 → (zbt (Int32.ofInt m.val ||| Int32.ofInt (zsl1 k)).toInt j ↔ (zbt m.val j ∨ j = k)) := by
    intro m k k0 k1
    obtain ⟨k, rfl⟩ : ∃ n : Nat, k = n := ⟨k.toNat, by omega⟩
    obtain ⟨a, b⟩ := zb_or0 m ⟨k, by omega⟩
    refine ⟨a, fun j j0 j1 => ?_⟩
    obtain ⟨j, rfl⟩ : ∃ n : Nat, j = n := ⟨j.toNat, by omega⟩
    have := b ⟨j, by omega⟩
    simp only [Fin.mk.injEq] at this
    rw [this]
    omega
  intro m k h0 h1 k0 k1
  exact zfin16 (P := fun m => (0 ≤ (Int32.ofInt m ||| Int32.ofInt (zsl1 k)).toInt ∧ (Int32.ofInt m ||| Int32.ofInt (zsl1 k)).toInt < 16) ∧ ∀ j, 0 ≤ j → j < 4 → (zbt (Int32.ofInt m ||| Int32.ofInt (zsl1 k)).toInt j ↔ (zbt m j ∨ j = k))) (fun m => h m k k0 k1) h0 h1
theorem zb_and0 : ∀ m w : Fin 16, (Int32.ofInt m.val &&& Int32.ofInt w.val).toInt = 0 ↔ ¬ ∃ j : Fin 4, zbt m.val j.val ∧ zbt w.val j.val := by decide +kernel
theorem zb_and {m w : Int} (h0 : 0 ≤ m) (h1 : m < 16) (k0 : 0 ≤ w) (k1 : w < 16) : (Int32.ofInt m &&& Int32.ofInt w).toInt = 0 ↔ ¬ ∃ j, 0 ≤ j ∧ j < 4 ∧ zbt m j ∧ zbt w j := by
  have h := zb_and0 ⟨m.toNat, by omega⟩ ⟨w.toNat, by omega⟩
  simp only [show ((m.toNat : Nat) : Int) = m by omega, show ((w.toNat : Nat) : Int) = w by omega] at h
  rw [h]
  constructor
  · rintro h1 ⟨j, j0, j1, j2⟩
    exact h1 ⟨⟨j.toNat, by omega⟩, by simpa only [show ((j.toNat : Nat) : Int) = j by omega] using j2⟩
  · rintro h1 ⟨j, j2⟩
    exact h1 ⟨j.val, by omega, by have := j.isLt; omega, j2⟩
theorem zb_one0 : ∀ k : Fin 4, (0 ≤ zsl1 k.val ∧ zsl1 k.val < 16) ∧ ∀ j : Fin 4, zbt (zsl1 k.val) j.val ↔ j = k := by decide +kernel
theorem zb_one {k : Int} (k0 : 0 ≤ k) (k1 : k < 4) : (0 ≤ zsl1 k ∧ zsl1 k < 16) ∧ ∀ j, 0 ≤ j → j < 4 → (zbt (zsl1 k) j ↔ j = k) := by
  obtain ⟨k, rfl⟩ : ∃ n : Nat, k = n := ⟨k.toNat, by omega⟩
  obtain ⟨a, b⟩ := zb_one0 ⟨k, by omega⟩
  refine ⟨a, fun j j0 j1 => ?_⟩
  obtain ⟨j, rfl⟩ : ∃ n : Nat, j = n := ⟨j.toNat, by omega⟩
  have := b ⟨j, by omega⟩
  simp only [Fin.mk.injEq] at this
  rw [this]
  omega
theorem zb_z : ∀ j, 0 ≤ j → j < 4 → ¬ zbt 0 j := by
  intro j h0 h1
  simp [zbt]
/-- bump k needs bump i -/
def zNeed (Pl Up Dn : Int → Int) (k i : Int) : Prop := (Pl (Dn k) < Pl (Up i) ∧ Pl (Up i) < Pl (Up k)) ∨ (Pl (Dn k) < Pl (Dn i) ∧ Pl (Dn i) < Pl (Up k))
/-- the mask m: bump b and those of the first n that need it -/
def zTk (nd : Int → Int → Prop) (b n m : Int) : Prop := (0 ≤ m ∧ m < 16) ∧ ∀ k, 0 ≤ k → k < 4 → (zbt m k ↔ (k = b ∨ (b < k ∧ k < n ∧ ∃ i, 0 ≤ i ∧ i < k ∧ zbt m i ∧ nd k i)))
theorem zTk_0 {nd : Int → Int → Prop} {b : Int} (h0 : 0 ≤ b) (h1 : b < 4) : zTk nd b (b + 1) (zsl1 b) := by
  obtain ⟨a, c⟩ := zb_one h0 h1
  refine ⟨a, fun k k0 k1 => ?_⟩
  rw [c k k0 k1]
  constructor
  · exact Or.inl
  · rintro (h | ⟨h2, h3, -⟩)
    · exact h
    · omega
theorem zTk_no {nd : Int → Int → Prop} {b n m : Int} (h : zTk nd b n m) (hn : ¬ ∃ i, 0 ≤ i ∧ i < n ∧ zbt m i ∧ nd n i) : zTk nd b (n + 1) m := by
  refine ⟨h.1, fun k k0 k1 => ?_⟩
  rw [h.2 k k0 k1]
  constructor
  · rintro (e | ⟨a1, a2, a3⟩)
    · exact Or.inl e
    · exact Or.inr ⟨a1, by omega, a3⟩
  · rintro (e | ⟨a1, a2, a3⟩)
    · exact Or.inl e
    · by_cases e : k = n
      · subst e; exact absurd a3 hn
      · exact Or.inr ⟨a1, by omega, a3⟩
theorem zTk_yes {nd : Int → Int → Prop} {b n m : Int} (h : zTk nd b n m) (hb : b < n) (hb0 : 0 ≤ b) (hn4 : n < 4) (hn : ∃ i, 0 ≤ i ∧ i < n ∧ zbt m i ∧ nd n i) : zTk nd b (n + 1) (Int32.ofInt m ||| Int32.ofInt (zsl1 n)).toInt := by
  obtain ⟨a, c⟩ := zb_or h.1.1 h.1.2 (show 0 ≤ n by omega) hn4
  have low : ∀ i, 0 ≤ i → i < n → (zbt (Int32.ofInt m ||| Int32.ofInt (zsl1 n)).toInt i ↔ zbt m i) := by
    intro i i0 i1
    rw [c i i0 (by omega)]
    constructor
    · rintro (e | e)
      · exact e
      · omega
    · exact Or.inl
  refine ⟨a, fun k k0 k1 => ?_⟩
  rw [c k k0 k1]
  constructor
  · rintro (e | e)
    · rcases (h.2 k k0 k1).mp e with e | ⟨a1, a2, i, i0, i1, i2, i3⟩
      · exact Or.inl e
      · exact Or.inr ⟨a1, by omega, i, i0, i1, (low i i0 (by omega)).mpr i2, i3⟩
    · subst e
      obtain ⟨i, i0, i1, i2, i3⟩ := hn
      exact Or.inr ⟨hb, by omega, i, i0, i1, (low i i0 i1).mpr i2, i3⟩
  · rintro (e | ⟨a1, a2, i, i0, i1, i2, i3⟩)
    · exact Or.inl ((h.2 k k0 k1).mpr (Or.inl e))
    · by_cases e : k = n
      · exact Or.inr e
      · exact Or.inl ((h.2 k k0 k1).mpr (Or.inr ⟨a1, by omega, i, i0, i1, (low i i0 (by omega)).mp i2, i3⟩))
theorem zmk_eq0 : ∀ m w : Fin 16, (∀ j : Fin 4, zbt m.val j.val ↔ zbt w.val j.val) → m = w := by decide +kernel
theorem zmk_eq {m w : Int} (h0 : 0 ≤ m) (h1 : m < 16) (k0 : 0 ≤ w) (k1 : w < 16) (h : ∀ j, 0 ≤ j → j < 4 → (zbt m j ↔ zbt w j)) : m = w := by
  have := zmk_eq0 ⟨m.toNat, by omega⟩ ⟨w.toNat, by omega⟩ (fun j => by
    have := h j.val (by omega) (by have := j.isLt; omega)
    simpa only [show ((m.toNat : Nat) : Int) = m by omega, show ((w.toNat : Nat) : Int) = w by omega] using this)
  simp only [Fin.mk.injEq] at this
  omega
theorem zTk_un {nd : Int → Int → Prop} {b n m w : Int} (h : zTk nd b n m) (h2 : zTk nd b n w) : m = w := by
  refine zmk_eq h.1.1 h.1.2 h2.1.1 h2.1.2 ?_
  have key : ∀ t : Nat, ∀ j : Int, 0 ≤ j → j < 4 → j < t → (zbt m j ↔ zbt w j) := by
    intro t
    induction t with
    | zero => intro j j0 _ j2; omega
    | succ t ih =>
      intro j j0 j1 j2
      rw [h.2 j j0 j1, h2.2 j j0 j1]
      constructor
      · rintro (e | ⟨a1, a2, i, i0, i1, i2, i3⟩)
        · exact Or.inl e
        · exact Or.inr ⟨a1, a2, i, i0, i1, (ih i i0 (by omega) (by omega)).mp i2, i3⟩
      · rintro (e | ⟨a1, a2, i, i0, i1, i2, i3⟩)
        · exact Or.inl e
        · exact Or.inr ⟨a1, a2, i, i0, i1, (ih i i0 (by omega) (by omega)).mpr i2, i3⟩
  exact fun j j0 j1 => key 4 j j0 j1 (by omega)
def zNb (nd : Int → Prop) (e m : Int) : Prop := (0 ≤ m ∧ m < 16) ∧ ∀ j, 0 ≤ j → j < 4 → (zbt m j ↔ (j < e ∧ nd j))
theorem zNb_0 {nd : Int → Prop} : zNb nd 0 0 := ⟨⟨by decide, by decide⟩, fun j h0 h1 => ⟨fun h => absurd h (zb_z j h0 h1), fun h => by omega⟩⟩
theorem zNb_no {nd : Int → Prop} {e m : Int} (h : zNb nd e m) (hn : ¬ nd e) : zNb nd (e + 1) m := ⟨h.1, fun j h0 h1 => by
  rw [h.2 j h0 h1]
  constructor
  · rintro ⟨a, b⟩; exact ⟨by omega, b⟩
  · rintro ⟨a, b⟩
    by_cases q : j = e
    · subst q; exact absurd b hn
    · exact ⟨by omega, b⟩⟩
theorem zNb_yes {nd : Int → Prop} {e m : Int} (h : zNb nd e m) (h0 : 0 ≤ e) (h1 : e < 4) (hn : nd e) : zNb nd (e + 1) (Int32.ofInt m ||| Int32.ofInt (zsl1 e)).toInt := by
  obtain ⟨a, c⟩ := zb_or h.1.1 h.1.2 h0 h1
  refine ⟨a, fun j j0 j1 => ?_⟩
  rw [c j j0 j1, h.2 j j0 j1]
  constructor
  · rintro (⟨p, q⟩ | q)
    · exact ⟨by omega, q⟩
    · subst q; exact ⟨by omega, hn⟩
  · rintro ⟨p, q⟩
    by_cases r : j = e
    · exact Or.inr r
    · exact Or.inl ⟨by omega, q⟩
set_option maxRecDepth 20000 in
theorem m_lies1 {I : zI} {π : Int → Nat} {D : zD} {c b : Int} (hc : 0 ≤ c ∧ c < 24) (hb : 0 ≤ b ∧ b < 4) (hu : 0 ≤ I 11 b ∧ I 11 b < 24) (hd : 0 ≤ I 13 b ∧ I 13 b < 24) (h : (I 6 (I 13 b) < I 6 c ∧ I 6 c < I 6 (I 11 b))) : zMet 20 [vr 2, vi c, vi b] (I, zPp π, D, 147) (some (vi 1)) (I, zPp π, D, 147) := by
  refine z_n 3 (5, [(0, vr 2), (1, vi c), (2, vi b)], [vi c, vr 5], (I, zPp π, D, 147)) rfl trivial ?_
  refine z_ci 1 [vr 5, vi c] [] rfl (m_get (n := 24) ⟨rfl, rfl, rfl, rfl⟩ (by omega) (by omega)) ?_
  refine z_n 8 (22, [(3, vi (I 6 c)), (0, vr 2), (1, vi c), (2, vi b)], [vi b, vr 12, vr 5, vi (I 6 c)], (I, zPp π, D, 147)) rfl trivial ?_
  refine z_ci 1 [vr 12, vi b] [vr 5, vi (I 6 c)] rfl (m_get (n := 4) ⟨rfl, rfl, rfl, rfl⟩ (by omega) (by omega)) ?_
  refine z_ci 1 [vr 5, vi (I 13 b)] [vi (I 6 c)] rfl (m_get (n := 24) ⟨rfl, rfl, rfl, rfl⟩ (by omega) (by omega)) ?_
  refine z_br ((I 6 c) ≤ (I 6 (I 13 b))) 57 31 [] rfl (fun hx1 => ?_) (fun hx1 => ?_)
  · refine z_n 1 (58, [(3, vi (I 6 c)), (0, vr 2), (1, vi c), (2, vi b)], [vi 0], (I, zPp π, D, 147)) rfl trivial ?_
    first | exact z_ret rfl rfl rfl | exact z_ret rfl (zv1 (by omega)) rfl | (exfalso; omega)
  · refine z_n 7 (44, [(3, vi (I 6 c)), (0, vr 2), (1, vi c), (2, vi b)], [vi b, vr 10, vr 5, vi (I 6 c)], (I, zPp π, D, 147)) rfl trivial ?_
    refine z_ci 1 [vr 10, vi b] [vr 5, vi (I 6 c)] rfl (m_get (n := 4) ⟨rfl, rfl, rfl, rfl⟩ (by omega) (by omega)) ?_
    refine z_ci 1 [vr 5, vi (I 11 b)] [vi (I 6 c)] rfl (m_get (n := 24) ⟨rfl, rfl, rfl, rfl⟩ (by omega) (by omega)) ?_
    refine z_br ((I 6 (I 11 b)) ≤ (I 6 c)) 57 53 [] rfl (fun hx2 => ?_) (fun hx2 => ?_)
    · refine z_n 1 (58, [(3, vi (I 6 c)), (0, vr 2), (1, vi c), (2, vi b)], [vi 0], (I, zPp π, D, 147)) rfl trivial ?_
      first | exact z_ret rfl rfl rfl | exact z_ret rfl (zv1 (by omega)) rfl | (exfalso; omega)
    · refine z_n 2 (58, [(3, vi (I 6 c)), (0, vr 2), (1, vi c), (2, vi b)], [vi 1], (I, zPp π, D, 147)) rfl trivial ?_
      first | exact z_ret rfl rfl rfl | exact z_ret rfl (zv1 (by omega)) rfl | (exfalso; omega)
set_option maxRecDepth 20000 in
theorem m_lies0 {I : zI} {π : Int → Nat} {D : zD} {c b : Int} (hc : 0 ≤ c ∧ c < 24) (hb : 0 ≤ b ∧ b < 4) (hu : 0 ≤ I 11 b ∧ I 11 b < 24) (hd : 0 ≤ I 13 b ∧ I 13 b < 24) (h : ¬ (I 6 (I 13 b) < I 6 c ∧ I 6 c < I 6 (I 11 b))) : zMet 20 [vr 2, vi c, vi b] (I, zPp π, D, 147) (some (vi 0)) (I, zPp π, D, 147) := by
  refine z_n 3 (5, [(0, vr 2), (1, vi c), (2, vi b)], [vi c, vr 5], (I, zPp π, D, 147)) rfl trivial ?_
  refine z_ci 1 [vr 5, vi c] [] rfl (m_get (n := 24) ⟨rfl, rfl, rfl, rfl⟩ (by omega) (by omega)) ?_
  refine z_n 8 (22, [(3, vi (I 6 c)), (0, vr 2), (1, vi c), (2, vi b)], [vi b, vr 12, vr 5, vi (I 6 c)], (I, zPp π, D, 147)) rfl trivial ?_
  refine z_ci 1 [vr 12, vi b] [vr 5, vi (I 6 c)] rfl (m_get (n := 4) ⟨rfl, rfl, rfl, rfl⟩ (by omega) (by omega)) ?_
  refine z_ci 1 [vr 5, vi (I 13 b)] [vi (I 6 c)] rfl (m_get (n := 24) ⟨rfl, rfl, rfl, rfl⟩ (by omega) (by omega)) ?_
  refine z_br ((I 6 c) ≤ (I 6 (I 13 b))) 57 31 [] rfl (fun hx1 => ?_) (fun hx1 => ?_)
  · refine z_n 1 (58, [(3, vi (I 6 c)), (0, vr 2), (1, vi c), (2, vi b)], [vi 0], (I, zPp π, D, 147)) rfl trivial ?_
    first | exact z_ret rfl rfl rfl | exact z_ret rfl (zv1 (by omega)) rfl | (exfalso; omega)
  · refine z_n 7 (44, [(3, vi (I 6 c)), (0, vr 2), (1, vi c), (2, vi b)], [vi b, vr 10, vr 5, vi (I 6 c)], (I, zPp π, D, 147)) rfl trivial ?_
    refine z_ci 1 [vr 10, vi b] [vr 5, vi (I 6 c)] rfl (m_get (n := 4) ⟨rfl, rfl, rfl, rfl⟩ (by omega) (by omega)) ?_
    refine z_ci 1 [vr 5, vi (I 11 b)] [vi (I 6 c)] rfl (m_get (n := 24) ⟨rfl, rfl, rfl, rfl⟩ (by omega) (by omega)) ?_
    refine z_br ((I 6 (I 11 b)) ≤ (I 6 c)) 57 53 [] rfl (fun hx2 => ?_) (fun hx2 => ?_)
    · refine z_n 1 (58, [(3, vi (I 6 c)), (0, vr 2), (1, vi c), (2, vi b)], [vi 0], (I, zPp π, D, 147)) rfl trivial ?_
      first | exact z_ret rfl rfl rfl | exact z_ret rfl (zv1 (by omega)) rfl | (exfalso; omega)
    · refine z_n 2 (58, [(3, vi (I 6 c)), (0, vr 2), (1, vi c), (2, vi b)], [vi 1], (I, zPp π, D, 147)) rfl trivial ?_
      first | exact z_ret rfl rfl rfl | exact z_ret rfl (zv1 (by omega)) rfl | (exfalso; omega)
set_option maxRecDepth 20000 in
theorem m_nb_l {I : zI} {π : Int → Nat} {D : zD} {b w : Int} (hb : 0 ≤ b ∧ b < 4) (hB : ∀ k, 0 ≤ k → k ≤ b → (0 ≤ I 11 k ∧ I 11 k < 24) ∧ (0 ≤ I 13 k ∧ I 13 k < 24)) (hw : ∀ m, zNb (zNeed (I 6) (I 11) (I 13) b) b m → m = w) : ∀ (n : Nat) (e m : Int), 0 ≤ e → e + n = b → zNb (zNeed (I 6) (I 11) (I 13) b) e m → zRuns 19 4 [(3, vi e), (2, vi m), (0, vr 2), (1, vi b)] [] (I, zPp π, D, 147) (some (vi w)) (I, zPp π, D, 147) := by
  intro n
  induction n with
  | zero =>
    intro e m h0 hn hm
    refine z_n 2 (6, [(3, vi e), (2, vi m), (0, vr 2), (1, vi b)], [vi b, vi e], (I, zPp π, D, 147)) rfl trivial ?_
    refine z_br (b ≤ e) 59 9 [] rfl (fun hx1 => ?_) (fun h => absurd (show b ≤ e from by omega) h)
    refine z_n 1 (60, [(3, vi e), (2, vi m), (0, vr 2), (1, vi b)], [vi m], (I, zPp π, D, 147)) rfl trivial ?_
    exact z_ret rfl (zv1 (hw m (by rw [← show e = b by omega]; rw [show e = b by omega] at hm ⊢; exact hm))) rfl
  | succ n ih =>
  intro e m h0 hn hm
  have hbb := hB b hb.1 (by omega)
  have he := hB e h0 (by omega)
  refine z_n 2 (6, [(3, vi e), (2, vi m), (0, vr 2), (1, vi b)], [vi b, vi e], (I, zPp π, D, 147)) rfl trivial ?_
  refine z_br (b ≤ e) 59 9 [] rfl (fun h => absurd h (show ¬ (b ≤ e) from by omega)) (fun hx1 => ?_)
  refine z_n 5 (18, [(3, vi e), (2, vi m), (0, vr 2), (1, vi b)], [vi e, vr 10, vr 2], (I, zPp π, D, 147)) rfl trivial ?_
  refine z_ci 1 [vr 10, vi e] [vr 2] rfl (m_get (n := 4) ⟨rfl, rfl, rfl, rfl⟩ (by omega) (by omega)) ?_
  refine z_n 1 (22, [(3, vi e), (2, vi m), (0, vr 2), (1, vi b)], [vi b, vi (I 11 e), vr 2], (I, zPp π, D, 147)) rfl trivial ?_
  by_cases hx2 : I 6 (I 13 b) < I 6 (I 11 e) ∧ I 6 (I 11 e) < I 6 (I 11 b)
  · refine z_ci 20 [vr 2, vi (I 11 e), vi b] [] rfl (m_lies1 he.1 hb hbb.1 hbb.2 hx2) ?_
    refine z_br (¬ (1 : Int) = 0) 47 28 [] rfl (fun hx3 => ?_) (fun h => absurd (show ¬ (1 : Int) = 0 from by decide) h)
    refine z_n 8 (4, [(3, vi (e + 1)), (2, vi ((Int32.ofInt m ||| Int32.ofInt ((Int32.ofInt 1 <<< (Int32.ofInt e &&& 31)).toInt)).toInt)), (0, vr 2), (1, vi b)], [], (I, zPp π, D, 147)) (G := (zr (e + 1)) ∧ True) rfl ⟨by omega, trivial⟩ ?_
    refine z_sub [(3, vi (e + 1)), (2, vi ((Int32.ofInt m ||| Int32.ofInt ((Int32.ofInt 1 <<< (Int32.ofInt e &&& 31)).toInt)).toInt)), (0, vr 2), (1, vi b)] [0, 1, 2, 3] rfl ?_
    exact ih (e + 1) _ (by omega) (by omega) (zNb_yes hm h0 (by omega) (by unfold zNeed; omega))
  · refine z_ci 20 [vr 2, vi (I 11 e), vi b] [] rfl (m_lies0 he.1 hb hbb.1 hbb.2 hx2) ?_
    refine z_br (¬ (0 : Int) = 0) 47 28 [] rfl (fun h => absurd h (show ¬ (¬ (0 : Int) = 0) from by decide)) (fun hx4 => ?_)
    refine z_n 5 (37, [(3, vi e), (2, vi m), (0, vr 2), (1, vi b)], [vi e, vr 12, vr 2], (I, zPp π, D, 147)) rfl trivial ?_
    refine z_ci 1 [vr 12, vi e] [vr 2] rfl (m_get (n := 4) ⟨rfl, rfl, rfl, rfl⟩ (by omega) (by omega)) ?_
    refine z_n 1 (41, [(3, vi e), (2, vi m), (0, vr 2), (1, vi b)], [vi b, vi (I 13 e), vr 2], (I, zPp π, D, 147)) rfl trivial ?_
    by_cases hx5 : I 6 (I 13 b) < I 6 (I 13 e) ∧ I 6 (I 13 e) < I 6 (I 11 b)
    · refine z_ci 20 [vr 2, vi (I 13 e), vi b] [] rfl (m_lies1 he.2 hb hbb.1 hbb.2 hx5) ?_
      refine z_br ((1 : Int) = 0) 53 47 [] rfl (fun h => absurd h (show ¬ ((1 : Int) = 0) from by decide)) (fun hx6 => ?_)
      refine z_n 8 (4, [(3, vi (e + 1)), (2, vi ((Int32.ofInt m ||| Int32.ofInt ((Int32.ofInt 1 <<< (Int32.ofInt e &&& 31)).toInt)).toInt)), (0, vr 2), (1, vi b)], [], (I, zPp π, D, 147)) (G := (zr (e + 1)) ∧ True) rfl ⟨by omega, trivial⟩ ?_
      refine z_sub [(3, vi (e + 1)), (2, vi ((Int32.ofInt m ||| Int32.ofInt ((Int32.ofInt 1 <<< (Int32.ofInt e &&& 31)).toInt)).toInt)), (0, vr 2), (1, vi b)] [0, 1, 2, 3] rfl ?_
      exact ih (e + 1) _ (by omega) (by omega) (zNb_yes hm h0 (by omega) (by unfold zNeed; omega))
    · refine z_ci 20 [vr 2, vi (I 13 e), vi b] [] rfl (m_lies0 he.2 hb hbb.1 hbb.2 hx5) ?_
      refine z_br ((0 : Int) = 0) 53 47 [] rfl (fun hx7 => ?_) (fun h => absurd (show (0 : Int) = 0 from by decide) h)
      refine z_n 2 (4, [(3, vi (e + 1)), (2, vi m), (0, vr 2), (1, vi b)], [], (I, zPp π, D, 147)) (G := (zr (e + 1)) ∧ True) rfl ⟨by omega, trivial⟩ ?_
      refine z_sub [(3, vi (e + 1)), (2, vi m), (0, vr 2), (1, vi b)] [0, 1, 2, 3] rfl ?_
      exact ih (e + 1) m (by omega) (by omega) (zNb_no hm (by unfold zNeed; omega))
theorem zNb_un {nd : Int → Prop} {e m w : Int} (h : zNb nd e m) (h2 : zNb nd e w) : m = w := zmk_eq h.1.1 h.1.2 h2.1.1 h2.1.2 (fun j h0 h1 => by rw [h.2 j h0 h1, h2.2 j h0 h1])
theorem zNb_ex {nd : Int → Prop} : ∀ e : Nat, (e : Int) ≤ 4 → ∃ m, zNb nd e m
  | 0, _ => ⟨0, zNb_0⟩
  | e + 1, h => by
    obtain ⟨m, hm⟩ := zNb_ex e (by omega)
    by_cases hn : nd e
    · exact ⟨_, zNb_yes hm (by omega) (by omega) hn⟩
    · exact ⟨_, zNb_no hm hn⟩
set_option maxRecDepth 20000 in
theorem m_nb {I : zI} {π : Int → Nat} {D : zD} {b w : Int} (hb : 0 ≤ b ∧ b < 4) (hB : ∀ k, 0 ≤ k → k ≤ b → (0 ≤ I 11 k ∧ I 11 k < 24) ∧ (0 ≤ I 13 k ∧ I 13 k < 24)) (hw : zNb (zNeed (I 6) (I 11) (I 13) b) b w) : zMet 19 [vr 2, vi b] (I, zPp π, D, 147) (some (vi w)) (I, zPp π, D, 147) := by
  refine z_n 4 (4, [(3, vi 0), (2, vi 0), (0, vr 2), (1, vi b)], [], (I, zPp π, D, 147)) rfl trivial ?_
  refine z_sub [(3, vi 0), (2, vi 0), (0, vr 2), (1, vi b)] [0, 1, 2, 3] rfl ?_
  exact m_nb_l hb hB (fun m h => zNb_un h hw) b.toNat 0 0 (by omega) (by omega) zNb_0
set_option maxRecDepth 20000 in
theorem m_wt_l {I : zI} {π : Int → Nat} {D : zD} {b w : Int} (hb : 0 ≤ b ∧ b < I 9 2) (hM : I 9 2 ≤ 4) (hB : ∀ k, 0 ≤ k → k < I 9 2 → (0 ≤ I 11 k ∧ I 11 k < 24) ∧ (0 ≤ I 13 k ∧ I 13 k < 24)) (hw : ∀ m, zTk (zNeed (I 6) (I 11) (I 13)) b (I 9 2) m → m = w) : ∀ (n : Nat) (k m : Int), b < k → k + n = I 9 2 → zTk (zNeed (I 6) (I 11) (I 13)) b k m → zRuns 18 8 [(3, vi k), (2, vi m), (0, vr 2), (1, vi b)] [] (I, zPp π, D, 147) (some (vi w)) (I, zPp π, D, 147) := by
  intro n
  induction n with
  | zero =>
    intro k m h0 hn hm
    refine z_n 4 (16, [(3, vi k), (2, vi m), (0, vr 2), (1, vi b)], [vi (I 9 2), vi k], (I, zPp π, D, 147)) rfl trivial ?_
    refine z_br ((I 9 2) ≤ k) 41 19 [] rfl (fun hx1 => ?_) (fun h => absurd (show (I 9 2) ≤ k from by omega) h)
    refine z_n 1 (42, [(3, vi k), (2, vi m), (0, vr 2), (1, vi b)], [vi m], (I, zPp π, D, 147)) rfl trivial ?_
    exact z_ret rfl (zv1 (hw m (by rw [show k = I 9 2 by omega] at hm; exact hm))) rfl
  | succ n ih =>
  intro k m h0 hn hm
  obtain ⟨v, hv⟩ := zNb_ex (nd := zNeed (I 6) (I 11) (I 13) k) k.toNat (by omega)
  rw [show ((k.toNat : Nat) : Int) = k by omega] at hv
  refine z_n 4 (16, [(3, vi k), (2, vi m), (0, vr 2), (1, vi b)], [vi (I 9 2), vi k], (I, zPp π, D, 147)) rfl trivial ?_
  refine z_br ((I 9 2) ≤ k) 41 19 [] rfl (fun h => absurd h (show ¬ ((I 9 2) ≤ k) from by omega)) (fun hx1 => ?_)
  refine z_n 3 (22, [(3, vi k), (2, vi m), (0, vr 2), (1, vi b)], [vi k, vr 2, vi m], (I, zPp π, D, 147)) rfl trivial ?_
  refine z_ci 19 [vr 2, vi k] [vi m] rfl (m_nb ⟨by omega, by omega⟩ (fun j a c => hB j a (by omega)) hv) ?_
  refine z_n 1 (26, [(3, vi k), (2, vi m), (0, vr 2), (1, vi b)], [vi ((Int32.ofInt m &&& Int32.ofInt v).toInt)], (I, zPp π, D, 147)) rfl trivial ?_
  refine z_br (((Int32.ofInt m &&& Int32.ofInt v).toInt) = 0) 35 29 [] rfl (fun hx => ?_) (fun hx => ?_)
  · refine z_n 2 (8, [(3, vi (k + 1)), (2, vi m), (0, vr 2), (1, vi b)], [], (I, zPp π, D, 147)) (G := (zr (k + 1)) ∧ True) rfl ⟨by omega, trivial⟩ ?_
    refine z_sub [(3, vi (k + 1)), (2, vi m), (0, vr 2), (1, vi b)] [0, 1, 2, 3] rfl ?_
    exact ih (k + 1) m (by omega) (by omega) (zTk_no hm (fun hh => by obtain ⟨j, j0, j1, j2, j3⟩ := hh; exact (zb_and hm.1.1 hm.1.2 hv.1.1 hv.1.2).mp (by omega) ⟨j, j0, by omega, j2, (hv.2 j j0 (by omega)).mpr ⟨j1, j3⟩⟩))
  · refine z_n 8 (8, [(3, vi (k + 1)), (2, vi ((Int32.ofInt m ||| Int32.ofInt ((Int32.ofInt 1 <<< (Int32.ofInt k &&& 31)).toInt)).toInt)), (0, vr 2), (1, vi b)], [], (I, zPp π, D, 147)) (G := (zr (k + 1)) ∧ True) rfl ⟨by omega, trivial⟩ ?_
    refine z_sub [(3, vi (k + 1)), (2, vi ((Int32.ofInt m ||| Int32.ofInt ((Int32.ofInt 1 <<< (Int32.ofInt k &&& 31)).toInt)).toInt)), (0, vr 2), (1, vi b)] [0, 1, 2, 3] rfl ?_
    exact ih (k + 1) _ (by omega) (by omega) (zTk_yes hm (by omega) hb.1 (by omega) (by obtain ⟨j, j0, j1, j2, j3⟩ := Classical.byContradiction (fun hq => hx ((zb_and hm.1.1 hm.1.2 hv.1.1 hv.1.2).mpr hq)); exact ⟨j, j0, ((hv.2 j j0 j1).mp j3).1, j2, ((hv.2 j j0 j1).mp j3).2⟩))
set_option maxRecDepth 20000 in
theorem m_wt {I : zI} {π : Int → Nat} {D : zD} {b w : Int} (hb : 0 ≤ b ∧ b < I 9 2) (hM : I 9 2 ≤ 4) (hB : ∀ k, 0 ≤ k → k < I 9 2 → (0 ≤ I 11 k ∧ I 11 k < 24) ∧ (0 ≤ I 13 k ∧ I 13 k < 24)) (hw : zTk (zNeed (I 6) (I 11) (I 13)) b (I 9 2) w) : zMet 18 [vr 2, vi b] (I, zPp π, D, 147) (some (vi w)) (I, zPp π, D, 147) := by
  refine z_n 8 (8, [(3, vi (b + 1)), (2, vi ((Int32.ofInt 1 <<< (Int32.ofInt b &&& 31)).toInt)), (0, vr 2), (1, vi b)], [], (I, zPp π, D, 147)) (G := (zr (b + 1)) ∧ True) rfl ⟨by omega, trivial⟩ ?_
  refine z_sub [(3, vi (b + 1)), (2, vi ((Int32.ofInt 1 <<< (Int32.ofInt b &&& 31)).toInt)), (0, vr 2), (1, vi b)] [0, 1, 2, 3] rfl ?_
  exact m_wt_l hb hM hB (fun m h => zTk_un h hw) (I 9 2 - b - 1).toNat (b + 1) _ (by omega) (by omega) (zTk_0 hb.1 (by omega))
/-- what is left of the first n bumps -/
def zTB (I : zI) (m : Int) : Nat → zI
  | 0 => zup I 9 2 0
  | n + 1 => if zbt m n then zTB I m n else zup (zup (zup (zTB I m n) 11 (zTB I m n 9 2) (zTB I m n 11 n)) 13 (zTB I m n 9 2) (zTB I m n 13 n)) 9 2 (zTB I m n 9 2 + 1)
theorem zTB_out {I : zI} {m : Int} {r : Nat} (h : r ≠ 9 ∧ r ≠ 11 ∧ r ≠ 13) : ∀ n : Nat, zTB I m n r = I r
  | 0 => zup_ne h.1
  | n + 1 => by
    unfold zTB
    split
    · exact zTB_out h n
    · rw [zup_ne h.1, zup_ne h.2.2, zup_ne h.2.1]; exact zTB_out h n
theorem zTB_n {I : zI} {m : Int} : ∀ n : Nat, 0 ≤ zTB I m n 9 2 ∧ zTB I m n 9 2 ≤ n
  | 0 => by simp [zTB, zup]
  | n + 1 => by
    have := zTB_n (I := I) (m := m) n
    unfold zTB
    split
    · omega
    · simp [zup]; omega
def zTBw (I : zI) (m : Int) (n : Nat) : zI := fun r j => if r = 9 ∨ r = 11 ∨ r = 13 then zTB I m n r j else I r j
theorem zTBw_eq {I : zI} {m : Int} {n : Nat} : zTBw I m n = zTB I m n := by
  funext r j
  unfold zTBw
  by_cases h : r = 9 ∨ r = 11 ∨ r = 13
  · rw [if_pos h]
  · rw [if_neg h, zTB_out (by omega)]
theorem zTBw_y {I : zI} {m k : Int} (h : 0 ≤ k) (hb : zbt m k) : zTBw I m k.toNat = zTBw I m (k + 1).toNat := by
  obtain ⟨n, rfl⟩ : ∃ n : Nat, k = n := ⟨k.toNat, by omega⟩
  rw [zTBw_eq, zTBw_eq]
  show zTB I m n = zTB I m (n + 1)
  conv => rhs; unfold zTB
  rw [if_pos hb]
theorem zTBw_n {I : zI} {m k : Int} (h : 0 ≤ k) (hb : ¬ zbt m k) : zup (zup (zup (zTBw I m k.toNat) 11 (zTBw I m k.toNat 9 2) (zTBw I m k.toNat 11 k)) 13 (zTBw I m k.toNat 9 2) (zTBw I m k.toNat 13 k)) 9 2 (zTBw I m k.toNat 9 2 + 1) = zTBw I m (k + 1).toNat := by
  obtain ⟨n, rfl⟩ : ∃ n : Nat, k = n := ⟨k.toNat, by omega⟩
  rw [zTBw_eq, zTBw_eq]
  show _ = zTB I m (n + 1)
  conv => rhs; unfold zTB
  rw [if_neg hb]
  rfl
set_option maxRecDepth 20000 in
theorem m_tb_l {I : zI} {π : Int → Nat} {D : zD} {m : Int} (hM : 0 ≤ I 9 2 ∧ I 9 2 ≤ 4) (hm : 0 ≤ m ∧ m < 16) : ∀ (n : Nat) (k : Int), 0 ≤ k → k + n = I 9 2 → zRuns 56 12 [(3, vi k), (2, vi (I 9 2)), (0, vr 9), (1, vi m)] [] ((zTBw I m k.toNat), zPp π, D, 147) none ((zTBw I m ((I 9 2).toNat)), zPp π, D, 147) := by
  intro n
  induction n with
  | zero =>
    intro k h0 hn
    refine z_n 2 (14, [(3, vi k), (2, vi (I 9 2)), (0, vr 9), (1, vi m)], [vi (I 9 2), vi k], ((zTBw I m k.toNat), zPp π, D, 147)) rfl trivial ?_
    refine z_br ((I 9 2) ≤ k) 51 17 [] rfl (fun hx1 => ?_) (fun h => absurd (show (I 9 2) ≤ k from by omega) h)
    exact z_ret rfl rfl (by rw [show k = I 9 2 by omega])
  | succ n ih =>
  intro k h0 hn
  have hbit : (¬ (Int32.ofInt m &&& Int32.ofInt (zsl1 k)).toInt = 0) ↔ zbt m k := by
    obtain ⟨c1, c2⟩ := zb_one h0 (show k < 4 by omega)
    rw [zb_and hm.1 hm.2 c1.1 c1.2]
    constructor
    · intro hq
      obtain ⟨j, j0, j1, j2, j3⟩ := Classical.byContradiction hq
      rw [(c2 j j0 j1).mp j3] at j2; exact j2
    · intro hq hz
      exact hz ⟨k, h0, by omega, hq, (c2 k h0 (by omega)).mpr rfl⟩
  have hbn : 0 ≤ zTBw I m k.toNat 9 2 ∧ zTBw I m k.toNat 9 2 ≤ k := by rw [zTBw_eq]; have := zTB_n (I := I) (m := m) k.toNat; omega
  refine z_n 2 (14, [(3, vi k), (2, vi (I 9 2)), (0, vr 9), (1, vi m)], [vi (I 9 2), vi k], ((zTBw I m k.toNat), zPp π, D, 147)) rfl trivial ?_
  refine z_br ((I 9 2) ≤ k) 51 17 [] rfl (fun h => absurd h (show ¬ ((I 9 2) ≤ k) from by omega)) (fun hx1 => ?_)
  refine z_n 5 (22, [(3, vi k), (2, vi (I 9 2)), (0, vr 9), (1, vi m)], [vi ((Int32.ofInt m &&& Int32.ofInt ((Int32.ofInt 1 <<< (Int32.ofInt k &&& 31)).toInt)).toInt)], ((zTBw I m k.toNat), zPp π, D, 147)) rfl trivial ?_
  refine z_br (¬ (((Int32.ofInt m &&& Int32.ofInt ((Int32.ofInt 1 <<< (Int32.ofInt k &&& 31)).toInt)).toInt) = 0)) 45 25 [] rfl (fun hx => ?_) (fun hx => ?_)
  · refine z_n 2 (12, [(3, vi (k + 1)), (2, vi (I 9 2)), (0, vr 9), (1, vi m)], [], ((zTBw I m k.toNat), zPp π, D, 147)) (G := (zr (k + 1)) ∧ True) rfl ⟨by omega, trivial⟩ ?_
    refine z_sub [(3, vi (k + 1)), (2, vi (I 9 2)), (0, vr 9), (1, vi m)] [0, 1, 2, 3] rfl ?_
    refine z_st (σ1 := (zTBw I m (k + 1).toNat, zPp π, D, 147)) (by rw [← zTBw_y h0 (hbit.mp hx)]) ?_
    exact ih (k + 1) (by omega) (by omega)
  · refine z_n 4 (31, [(3, vi k), (2, vi (I 9 2)), (0, vr 9), (1, vi m)], [vi k, vr 10, vr 9], ((zTBw I m k.toNat), zPp π, D, 147)) rfl trivial ?_
    refine z_ci 1 [vr 10, vi k] [vr 9] rfl (m_get (n := 4) ⟨rfl, rfl, rfl, rfl⟩ (by omega) (by omega)) ?_
    refine z_n 3 (39, [(3, vi k), (2, vi (I 9 2)), (0, vr 9), (1, vi m)], [vi k, vr 12, vi ((zTBw I m k.toNat) 11 k), vr 9], ((zTBw I m k.toNat), zPp π, D, 147)) rfl trivial ?_
    refine z_ci 1 [vr 12, vi k] [vi ((zTBw I m k.toNat) 11 k), vr 9] rfl (m_get (n := 4) ⟨rfl, rfl, rfl, rfl⟩ (by omega) (by omega)) ?_
    refine z_cv 54 [vr 9, vi ((zTBw I m k.toNat) 11 k), vi ((zTBw I m k.toNat) 13 k)] [] rfl (m_add9 (show 0 ≤ zTBw I m k.toNat 9 2 ∧ zTBw I m k.toNat 9 2 < 4 from by omega)) ?_
    refine z_n 2 (12, [(3, vi (k + 1)), (2, vi (I 9 2)), (0, vr 9), (1, vi m)], [], ((zup (zup (zup (zTBw I m k.toNat) 11 (zTBw I m k.toNat 9 2) ((zTBw I m k.toNat) 11 k)) 13 (zTBw I m k.toNat 9 2) ((zTBw I m k.toNat) 13 k)) 9 2 (zTBw I m k.toNat 9 2 + 1)), zPp π, D, 147)) (G := (zr (k + 1)) ∧ True) rfl ⟨by omega, trivial⟩ ?_
    refine z_sub [(3, vi (k + 1)), (2, vi (I 9 2)), (0, vr 9), (1, vi m)] [0, 1, 2, 3] rfl ?_
    refine z_st (σ1 := (zTBw I m (k + 1).toNat, zPp π, D, 147)) (by rw [← zTBw_n h0 (fun h => hx (hbit.mpr h))]) ?_
    exact ih (k + 1) (by omega) (by omega)
set_option maxRecDepth 20000 in
theorem m_tb {I : zI} {π : Int → Nat} {D : zD} {m : Int} (hM : 0 ≤ I 9 2 ∧ I 9 2 ≤ 4) (hm : 0 ≤ m ∧ m < 16) : zMet 56 [vr 9, vi m] (I, zPp π, D, 147) none ((zTBw I m ((I 9 2).toNat)), zPp π, D, 147) := by
  refine z_n 8 (12, [(3, vi 0), (2, vi (I 9 2)), (0, vr 9), (1, vi m)], [], ((zup I 9 2 0), zPp π, D, 147)) rfl trivial ?_
  refine z_sub [(3, vi 0), (2, vi (I 9 2)), (0, vr 9), (1, vi m)] [0, 1, 2, 3] rfl ?_
  refine z_st (σ1 := (zTBw I m (0 : Int).toNat, zPp π, D, 147)) (by rw [zTBw_eq]; rfl) ?_
  exact m_tb_l hM hm (I 9 2).toNat 0 (by omega) (by omega)
end
section
theorem vf64 {a : UInt64} (h : FP.Core.val64 a ≠ .nan) : vf_n64 a := by
  unfold vf_n64
  rw [UInt64.le_iff_toNat_le, FP.Core.mask_toNat]
  exact (FP.Core.ne_nan a).mp h
theorem vf32 {a : UInt32} (h : FP.Core.val32 a ≠ .nan) : vf_n32 a := by
  unfold vf_n32
  rw [UInt32.le_iff_toNat_le, FP.Core.mask_toNat32]
  exact (FP.Core.ne_nan32 a).mp h
theorem zfn {a : UInt64} (h : FP.Core.DFin a) : FP.Core.val64 a ≠ .nan := by
  obtain ⟨s, c, q, e⟩ := h
  rw [e]; nofun
theorem zi2f {x : Int32} : FP.Core.DFin (FP.i2d x) := FP.Core.fin_of_lt (FP.Core.i2d_mag x) (by decide)
theorem zi2n {x : Int32} : FP.Core.val64 (FP.i2d x) ≠ .nan := zfn zi2f
theorem zdd {x y : Int} (hy : zr y) (h : ¬ y = 0) : FP.Core.DFin (FP.ddiv (FP.i2d (Int32.ofInt x)) (FP.i2d (Int32.ofInt y))) := by
  have h1 := FP.Core.i2d_mag (Int32.ofInt x)
  have h2 := FP.Core.i2d_big (v := Int32.ofInt y) (by rw [zti hy]; exact h)
  exact FP.Core.fin_of_lt (FP.Core.ddiv_mag h1 h2.1 h2.2 (by decide) (by decide)) (by decide)
theorem zd2c {a : UInt64} (h : FP.Core.val64 a ≠ .nan) : FP.d2f a = FP.Core.d2f a := by
  unfold FP.d2f
  rw [(FP.Core.notNaN_iff a).mpr h]
  rfl
theorem zd2f {a : UInt64} (h : FP.Core.val64 a ≠ .nan) : FP.Core.val32 (FP.d2f a) ≠ .nan := by
  rw [zd2c h, FP.Core.val32_d2f]
  cases e : FP.Core.val64 a with
  | nan => exact absurd e h
  | inf s => nofun
  | fin s c q => exact FP.Core.roundRatio_ne_nan _ _ _ _ _
abbrev zdk (a : UInt64) : Int := FP.Core.dkey a
theorem zc_cmp {a b : UInt64} (ha : FP.Core.val64 a ≠ .nan) (hb : FP.Core.val64 b ≠ .nan) (op : CmpOp) : ((Op.cmpValue (FP.dcmp a b) op).toInt < 0 ↔ zdk a < zdk b) ∧ ((Op.cmpValue (FP.dcmp a b) op).toInt = 0 ↔ zdk a = zdk b) := by
  rw [show FP.dcmp a b = some (compare (zdk a) (zdk b)) from FP.Core.dcmp_key ha hb]
  have h1 := FP.Core.compare_lt_iff (zdk a) (zdk b)
  have h2 := FP.Core.compare_eq_iff (zdk a) (zdk b)
  have h3 := FP.Core.compare_gt_iff (zdk a) (zdk b)
  cases e : compare (zdk a) (zdk b)
  · have := h1.mp e
    rw [show (Op.cmpValue (some Ordering.lt) op).toInt = -1 from rfl]; omega
  · have := h2.mp e
    rw [show (Op.cmpValue (some Ordering.eq) op).toInt = 0 from rfl]; omega
  · have := h3.mp e
    rw [show (Op.cmpValue (some Ordering.gt) op).toInt = 1 from rfl]; omega
end
section
theorem zmulb {a b A B : Int} (h0 : 0 ≤ a) (h1 : a ≤ A) (h2 : 0 ≤ b) (h3 : b ≤ B) : 0 ≤ a * b ∧ a * b ≤ A * B := ⟨Int.mul_nonneg h0 h2, Int.mul_le_mul h1 h3 h2 (by omega)⟩
def zu1 (f : Int → Int) (k v : Int) : Int → Int := fun j => if j = k then v else f j
def zuD (f : Int → UInt64) (k : Int) (v : UInt64) : Int → UInt64 := fun j => if j = k then v else f j
/-- what the forecast has written -/
def zFS (I : zI) (n : Int) (s f : Int → Int) (m : Int) (u d : Int → Int) : zI := fun r j => if r = 126 then s j else if r = 128 then f j else if r = 121 then u j else if r = 123 then d j else if r = 119 ∧ j = 2 then m else if r = 119 ∧ j = 6 then n else I r j
def zFD (D : zD) (t : Int → UInt64) : zD := fun r j => if r = 124 then t j else D r j
section
variable {I : zI} {n m k v : Int} {s f u d : Int → Int}
theorem zFS_126 : zup (zFS I n s f m u d) 126 k v = zFS I n (zu1 s k v) f m u d := by
  funext r j
  by_cases h : r = 126
  · subst h; simp [zup, zFS, zu1]
  · simp [zup, zFS, h]
theorem zFS_128 : zup (zFS I n s f m u d) 128 k v = zFS I n s (zu1 f k v) m u d := by
  funext r j
  by_cases h : r = 128
  · subst h; simp [zup, zFS, zu1]
  · simp [zup, zFS, h]
theorem zFS_121 : zup (zFS I n s f m u d) 121 k v = zFS I n s f m (zu1 u k v) d := by
  funext r j
  by_cases h : r = 121
  · subst h; simp [zup, zFS, zu1]
  · simp [zup, zFS, h]
theorem zFS_123 : zup (zFS I n s f m u d) 123 k v = zFS I n s f m u (zu1 d k v) := by
  funext r j
  by_cases h : r = 123
  · subst h; simp [zup, zFS, zu1]
  · simp [zup, zFS, h]
theorem zFS_m : zup (zFS I n s f m u d) 119 2 v = zFS I n s f v u d := by
  funext r j
  by_cases h : r = 119
  · subst h
    by_cases h2 : j = 2
    · subst h2; simp [zup, zFS]
    · simp [zup, zFS, h2]
  · simp [zup, zFS, h]
theorem zFS_n : zup I 119 6 v = zFS I v (I 126) (I 128) (I 119 2) (I 121) (I 123) := by
  funext r j
  unfold zup zFS
  by_cases h1 : r = 126
  · subst h1; simp
  · by_cases h2 : r = 128
    · subst h2; simp
    · by_cases h3 : r = 121
      · subst h3; simp
      · by_cases h4 : r = 123
        · subst h4; simp
        · by_cases h5 : r = 119
          · subst h5
            by_cases h6 : j = 2
            · subst h6; simp
            · simp [h6]
          · simp [h1, h2, h3, h4, h5]
end
theorem zFD_124 {D : zD} {t : Int → UInt64} {k : Int} {x : UInt64} : zupD (zFD D t) 124 k x = zFD D (zuD t k x) := by
  funext r j
  by_cases h : r = 124
  · subst h; simp [zupD, zFD, zuD]
  · simp [zupD, zFD, h]
theorem zFD_id {D : zD} : zFD D (D 124) = D := by
  funext r j
  unfold zFD
  split
  · next h => rw [h]
  · rfl
abbrev zq4 : Type := Int × (Int × (UInt64 × Int))
abbrev ztm (s : Int → Int) (g k a : Int) : UInt64 := FP.ddiv (FP.i2d (Int32.ofInt ((k - a) * g))) (FP.i2d (Int32.ofInt (s k - s a)))
/-- one starter looked at -/
def zsc1 (s f : Int → Int) (g k : Int) (q : zq4) : zq4 :=
  if f k = 0 then
    if ¬ q.2.2.2 = -1 then
      if s k - s q.2.2.2 ≤ 0 then (q.1, q.2.1, q.2.2.1, k)
      else if (Op.cmpValue (FP.dcmp (ztm s g k q.2.2.2) q.2.2.1) .g).toInt < 0 then (k, q.2.2.2, ztm s g k q.2.2.2, k)
      else if ¬ q.1 = -1 then (q.1, q.2.1, q.2.2.1, k)
      else if ¬ (Op.cmpValue (FP.dcmp (ztm s g k q.2.2.2) q.2.2.1) .l).toInt = 0 then (q.1, q.2.1, q.2.2.1, k)
      else (k, q.2.2.2, ztm s g k q.2.2.2, k)
    else (q.1, q.2.1, q.2.2.1, k)
  else q
def zsc (s f : Int → Int) (g : Int) (X : UInt64) : Nat → zq4
  | 0 => (-1, -1, X, -1)
  | n + 1 => zsc1 s f g n (zsc s f g X n)
theorem zsc_s {s f : Int → Int} {g : Int} {X : UInt64} {k : Int} (h : 0 ≤ k) : zsc s f g X (k + 1).toNat = zsc1 s f g k (zsc s f g X k.toNat) := by
  obtain ⟨j, rfl⟩ : ∃ j : Nat, k = j := ⟨k.toNat, by omega⟩
  rfl
theorem zsc_b {s f : Int → Int} {g : Int} {X : UInt64} : ∀ n : Nat, (-1 ≤ (zsc s f g X n).2.2.2 ∧ (zsc s f g X n).2.2.2 < n) ∧ ((zsc s f g X n).1 = -1 ∨ ((0 ≤ (zsc s f g X n).1 ∧ (zsc s f g X n).1 < n) ∧ (0 ≤ (zsc s f g X n).2.1 ∧ (zsc s f g X n).2.1 < (zsc s f g X n).1)))
  | 0 => by simp [zsc]
  | n + 1 => by
    have ih := zsc_b (s := s) (f := f) (g := g) (X := X) n
    show (-1 ≤ (zsc1 s f g n (zsc s f g X n)).2.2.2 ∧ (zsc1 s f g n (zsc s f g X n)).2.2.2 < ((n + 1 : Nat) : Int)) ∧ ((zsc1 s f g n (zsc s f g X n)).1 = -1 ∨ ((0 ≤ (zsc1 s f g n (zsc s f g X n)).1 ∧ (zsc1 s f g n (zsc s f g X n)).1 < ((n + 1 : Nat) : Int)) ∧ (0 ≤ (zsc1 s f g n (zsc s f g X n)).2.1 ∧ (zsc1 s f g n (zsc s f g X n)).2.1 < (zsc1 s f g n (zsc s f g X n)).1)))
    generalize zsc s f g X n = q at ih ⊢
    unfold zsc1
    repeat' split
    all_goals ((try simp only []); omega)
/-- outs, found, who, whom, when -/
abbrev zFA : Type := (Int → Int) × (Int × ((Int → Int) × ((Int → Int) × (Int → UInt64))))
def zf1 (n : Int) (s : Int → Int) (g : Int) (X : UInt64) (A : zFA) : zFA :=
  if (zsc s A.1 g X n.toNat).1 = -1 then A
  else (zu1 (zu1 A.1 (zsc s A.1 g X n.toNat).1 1) (zsc s A.1 g X n.toNat).2.1 1, A.2.1 + 1, zu1 A.2.2.1 A.2.1 (zsc s A.1 g X n.toNat).1, zu1 A.2.2.2.1 A.2.1 (zsc s A.1 g X n.toNat).2.1, zuD A.2.2.2.2 A.2.1 (zsc s A.1 g X n.toNat).2.2.1)
def zfi (n : Int) (s : Int → Int) (g : Int) (X : UInt64) (A : zFA) : Nat → zFA
  | 0 => A
  | k + 1 => zf1 n s g X (zfi n s g X A k)
section
variable {n : Int} {s : Int → Int} {g : Int} {X : UInt64} {A : zFA}
theorem zfi_s {k : Int} (h : 0 ≤ k) : zfi n s g X A (k + 1).toNat = zf1 n s g X (zfi n s g X A k.toNat) := by
  obtain ⟨j, rfl⟩ : ∃ j : Nat, k = j := ⟨k.toNat, by omega⟩
  rfl
theorem zfi_fix {k : Nat} (h : (zsc s (zfi n s g X A k).1 g X n.toNat).1 = -1) : ∀ j : Nat, zfi n s g X A (k + j) = zfi n s g X A k
  | 0 => rfl
  | j + 1 => by
    show zf1 n s g X (zfi n s g X A (k + j)) = _
    rw [zfi_fix h j]
    unfold zf1
    rw [if_pos h]
theorem zfi_m (h : A.2.1 = 0) : ∀ k : Nat, 0 ≤ (zfi n s g X A k).2.1 ∧ (zfi n s g X A k).2.1 ≤ k
  | 0 => by unfold zfi; omega
  | k + 1 => by
    have ih := zfi_m h k
    show 0 ≤ (zf1 n s g X (zfi n s g X A k)).2.1 ∧ (zf1 n s g X (zfi n s g X A k)).2.1 ≤ ((k + 1 : Nat) : Int)
    unfold zf1
    split <;> ((try simp only []); omega)
end
set_option maxRecDepth 20000 in
theorem m_fadd {I : zI} {π : Int → Nat} {D : zD} {n m : Int} {s f u d : Int → Int} {t : Int → UInt64} {a b : Int} {X : UInt64} (hm : 0 ≤ m ∧ m < 4) (ha : 0 ≤ a ∧ a < 9) (hb : 0 ≤ b ∧ b < 9) : zMet 36 [vr 119, vi a, vi b, vd X] ((zFS I n s f m u d), zPp π, (zFD D t), 147) none (zFS I n s (zu1 (zu1 f a 1) b 1) (m + 1) (zu1 u m a) (zu1 d m b), zPp π, zFD D (zuD t m X), 147) := by
  refine z_n 2 (4, [(0, vr 119), (1, vi a), (2, vi b), (3, vd X)], [vi m], ((zFS I n s f m u d), zPp π, (zFD D t), 147)) rfl trivial ?_
  refine z_br (m < 0) 63 7 [] rfl (fun h => absurd h (show ¬ (m < 0) from by omega)) (fun hx1 => ?_)
  refine z_n 5 (16, [(0, vr 119), (1, vi a), (2, vi b), (3, vd X)], [vi 4, vi m], ((zFS I n s f m u d), zPp π, (zFD D t), 147)) rfl trivial ?_
  refine z_br (4 ≤ m) 63 19 [] rfl (fun h => absurd h (show ¬ (4 ≤ m) from by omega)) (fun hx2 => ?_)
  refine z_n 5 (28, [(0, vr 119), (1, vi a), (2, vi b), (3, vd X)], [vi a, vi m, vr 120], ((zFS I n s f m u d), zPp π, (zFD D t), 147)) rfl trivial ?_
  refine z_cv 2 [vr 120, vi m, vi a] [] rfl (m_put (n := 4) ⟨rfl, rfl, rfl, rfl⟩ (by omega) (by omega)) ?_
  refine z_n 5 (40, [(0, vr 119), (1, vi a), (2, vi b), (3, vd X)], [vi b, vi m, vr 122], ((zup (zFS I n s f m u d) 121 m a), zPp π, (zFD D t), 147)) rfl trivial ?_
  refine z_cv 2 [vr 122, vi m, vi b] [] rfl (m_put (n := 4) ⟨rfl, rfl, rfl, rfl⟩ (by omega) (by omega)) ?_
  refine z_n 16 (69, [(0, vr 119), (1, vi a), (2, vi b), (3, vd X)], [vi 1, vi a, vr 127], ((zup (zup (zup (zFS I n s f m u d) 121 m a) 123 m b) 119 2 (m + 1)), zPp π, (zupD (zFD D t) 124 m X), 147)) (G := (0 ≤ m ∧ m < 4) ∧ (zr (m + 1)) ∧ True) rfl ⟨by omega, by omega, trivial⟩ ?_
  refine z_cv 2 [vr 127, vi a, vi 1] [] rfl (m_put (n := 9) ⟨rfl, rfl, rfl, rfl⟩ (by omega) (by omega)) ?_
  refine z_n 4 (78, [(0, vr 119), (1, vi a), (2, vi b), (3, vd X)], [vi 1, vi b, vr 127], ((zup (zup (zup (zup (zFS I n s f m u d) 121 m a) 123 m b) 119 2 (m + 1)) 128 a 1), zPp π, (zupD (zFD D t) 124 m X), 147)) rfl trivial ?_
  refine z_cv 2 [vr 127, vi b, vi 1] [] rfl (m_put (n := 9) ⟨rfl, rfl, rfl, rfl⟩ (by omega) (by omega)) ?_
  exact z_ret rfl rfl (by rw [zFS_121, zFS_123, zFS_m, zFS_128, zFS_128, zFD_124])
set_option maxRecDepth 20000 in
theorem m_fn0_l {I : zI} {π : Int → Nat} {D : zD} {n m : Int} {s f u d : Int → Int} {t : Int → UInt64} {g : Int} {X : UInt64} (hn : 0 ≤ n ∧ n ≤ 9) (hm : 0 ≤ m ∧ m < 4) (hg : 0 ≤ g ∧ g ≤ 5000) (hs : ∀ j, 0 ≤ j → j < n → 0 ≤ s j ∧ s j ≤ 1000) (hq : (zsc s f g X n.toNat).1 = -1) : ∀ (N : Nat) (k : Int), 0 ≤ k → k + N = n → zRuns 35 15 [(9, vi k), (8, vi ((zsc s f g X k.toNat).2.2.2)), (6, vd ((zsc s f g X k.toNat).2.2.1)), (5, vi ((zsc s f g X k.toNat).2.1)), (4, vi ((zsc s f g X k.toNat).1)), (0, vr 119), (1, vi g)] [] ((zFS I n s f m u d), zPp π, (zFD D t), 147) (some (vi 0)) ((zFS I n s f m u d), zPp π, (zFD D t), 147) := by
  intro N
  induction N with
  | zero =>
    intro k h0 hN
    have e9 : k = n := by omega
    subst e9
    refine z_n 3 (21, [(9, vi k), (8, vi ((zsc s f g X k.toNat).2.2.2)), (6, vd ((zsc s f g X k.toNat).2.2.1)), (5, vi ((zsc s f g X k.toNat).2.1)), (4, vi ((zsc s f g X k.toNat).1)), (0, vr 119), (1, vi g)], [vi k, vi k], ((zFS I k s f m u d), zPp π, (zFD D t), 147)) rfl trivial ?_
    refine z_br (k ≤ k) 133 24 [] rfl (fun hx1 => ?_) (fun h => absurd (show k ≤ k from by omega) h)
    refine z_n 2 (136, [(9, vi k), (8, vi ((zsc s f g X k.toNat).2.2.2)), (6, vd ((zsc s f g X k.toNat).2.2.1)), (5, vi ((zsc s f g X k.toNat).2.1)), (4, vi ((zsc s f g X k.toNat).1)), (0, vr 119), (1, vi g)], [vi (-1), vi ((zsc s f g X k.toNat).1)], ((zFS I k s f m u d), zPp π, (zFD D t), 147)) rfl trivial ?_
    refine z_br (¬ ((zsc s f g X k.toNat).1) = (-1)) 141 139 [] rfl (fun h => absurd h (show ¬ (¬ ((zsc s f g X k.toNat).1) = (-1)) from fun h9 => h9 hq)) (fun hx2 => ?_)
    refine z_n 1 (140, [(9, vi k), (8, vi ((zsc s f g X k.toNat).2.2.2)), (6, vd ((zsc s f g X k.toNat).2.2.1)), (5, vi ((zsc s f g X k.toNat).2.1)), (4, vi ((zsc s f g X k.toNat).1)), (0, vr 119), (1, vi g)], [vi 0], ((zFS I k s f m u d), zPp π, (zFD D t), 147)) rfl trivial ?_
    first | exact z_ret rfl rfl rfl | exact z_ret rfl (zv1 (by omega)) rfl | (exfalso; omega)
  | succ N ih =>
  intro k h0 hN
  have hb := zsc_b (s := s) (f := f) (g := g) (X := X) k.toNat
  have hs1 := hs k h0 (by omega)
  have hs2 := hs (zsc s f g X k.toNat).2.2.2
  have hmul := zmulb (a := k - (zsc s f g X k.toNat).2.2.2) (b := g) (A := 10) (B := 5000) (by omega) (by omega) hg.1 hg.2
  refine z_n 3 (21, [(9, vi k), (8, vi ((zsc s f g X k.toNat).2.2.2)), (6, vd ((zsc s f g X k.toNat).2.2.1)), (5, vi ((zsc s f g X k.toNat).2.1)), (4, vi ((zsc s f g X k.toNat).1)), (0, vr 119), (1, vi g)], [vi n, vi k], ((zFS I n s f m u d), zPp π, (zFD D t), 147)) rfl trivial ?_
  refine z_br (n ≤ k) 133 24 [] rfl (fun h => absurd h (show ¬ (n ≤ k) from by omega)) (fun hx1 => ?_)
  refine z_n 3 (30, [(9, vi k), (8, vi ((zsc s f g X k.toNat).2.2.2)), (6, vd ((zsc s f g X k.toNat).2.2.1)), (5, vi ((zsc s f g X k.toNat).2.1)), (4, vi ((zsc s f g X k.toNat).1)), (0, vr 119), (1, vi g)], [vi k, vr 127], ((zFS I n s f m u d), zPp π, (zFD D t), 147)) rfl trivial ?_
  refine z_ci 1 [vr 127, vi k] [] rfl (m_get (n := 9) ⟨rfl, rfl, rfl, rfl⟩ (by omega) (by omega)) ?_
  refine z_br ((f k) = 0) 39 36 [] rfl (fun hx2 => ?_) (fun hx2 => ?_)
  · refine z_n 2 (42, [(9, vi k), (8, vi ((zsc s f g X k.toNat).2.2.2)), (6, vd ((zsc s f g X k.toNat).2.2.1)), (5, vi ((zsc s f g X k.toNat).2.1)), (4, vi ((zsc s f g X k.toNat).1)), (0, vr 119), (1, vi g)], [vi (-1), vi ((zsc s f g X k.toNat).2.2.2)], ((zFS I n s f m u d), zPp π, (zFD D t), 147)) rfl trivial ?_
    refine z_br (¬ ((zsc s f g X k.toNat).2.2.2) = (-1)) 49 45 [] rfl (fun hx3 => ?_) (fun hx3 => ?_)
    · refine z_n 3 (55, [(9, vi k), (8, vi ((zsc s f g X k.toNat).2.2.2)), (6, vd ((zsc s f g X k.toNat).2.2.1)), (5, vi ((zsc s f g X k.toNat).2.1)), (4, vi ((zsc s f g X k.toNat).1)), (0, vr 119), (1, vi g)], [vi k, vr 125], ((zFS I n s f m u d), zPp π, (zFD D t), 147)) rfl trivial ?_
      refine z_ci 1 [vr 125, vi k] [] rfl (m_get (n := 9) ⟨rfl, rfl, rfl, rfl⟩ (by omega) (by omega)) ?_
      refine z_n 3 (64, [(9, vi k), (8, vi ((zsc s f g X k.toNat).2.2.2)), (6, vd ((zsc s f g X k.toNat).2.2.1)), (5, vi ((zsc s f g X k.toNat).2.1)), (4, vi ((zsc s f g X k.toNat).1)), (0, vr 119), (1, vi g)], [vi ((zsc s f g X k.toNat).2.2.2), vr 125, vi (s k)], ((zFS I n s f m u d), zPp π, (zFD D t), 147)) rfl trivial ?_
      refine z_ci 1 [vr 125, vi ((zsc s f g X k.toNat).2.2.2)] [vi (s k)] rfl (m_get (n := 9) ⟨rfl, rfl, rfl, rfl⟩ (by omega) (by omega)) ?_
      refine z_n 3 (72, [(10, vi ((s k) - (s ((zsc s f g X k.toNat).2.2.2)))), (9, vi k), (8, vi ((zsc s f g X k.toNat).2.2.2)), (6, vd ((zsc s f g X k.toNat).2.2.1)), (5, vi ((zsc s f g X k.toNat).2.1)), (4, vi ((zsc s f g X k.toNat).1)), (0, vr 119), (1, vi g)], [vi ((s k) - (s ((zsc s f g X k.toNat).2.2.2)))], ((zFS I n s f m u d), zPp π, (zFD D t), 147)) (G := (zr ((s k) - (s ((zsc s f g X k.toNat).2.2.2)))) ∧ True) rfl ⟨by omega, trivial⟩ ?_
      refine z_br (((s k) - (s ((zsc s f g X k.toNat).2.2.2))) ≤ 0) 123 75 [] rfl (fun hx4 => ?_) (fun hx4 => ?_)
      · refine z_n 4 (15, [(9, vi (k + 1)), (8, vi k), (10, vi ((s k) - (s ((zsc s f g X k.toNat).2.2.2)))), (6, vd ((zsc s f g X k.toNat).2.2.1)), (5, vi ((zsc s f g X k.toNat).2.1)), (4, vi ((zsc s f g X k.toNat).1)), (0, vr 119), (1, vi g)], [], ((zFS I n s f m u d), zPp π, (zFD D t), 147)) (G := (zr (k + 1)) ∧ True) rfl ⟨by omega, trivial⟩ ?_
        refine z_sub [(9, vi (k + 1)), (8, vi k), (6, vd ((zsc s f g X k.toNat).2.2.1)), (5, vi ((zsc s f g X k.toNat).2.1)), (4, vi ((zsc s f g X k.toNat).1)), (0, vr 119), (1, vi g)] [0, 1, 3, 4, 5, 6, 7] rfl ?_
        refine z_lk (L1 := [(9, vi (k + 1)), (8, vi ((zsc s f g X (k + 1).toNat).2.2.2)), (6, vd ((zsc s f g X (k + 1).toNat).2.2.1)), (5, vi ((zsc s f g X (k + 1).toNat).2.1)), (4, vi ((zsc s f g X (k + 1).toNat).1)), (0, vr 119), (1, vi g)]) (by rw [zsc_s h0]; unfold zsc1; repeat (first | rw [if_pos (by assumption)] | rw [if_neg (by assumption)])) ?_
        exact ih (k + 1) (by omega) (by omega)
      · refine z_n 13 (94, [(11, vd (FP.ddiv (FP.i2d (Int32.ofInt ((k - ((zsc s f g X k.toNat).2.2.2)) * g))) (FP.i2d (Int32.ofInt ((s k) - (s ((zsc s f g X k.toNat).2.2.2))))))), (10, vi ((s k) - (s ((zsc s f g X k.toNat).2.2.2)))), (9, vi k), (8, vi ((zsc s f g X k.toNat).2.2.2)), (6, vd ((zsc s f g X k.toNat).2.2.1)), (5, vi ((zsc s f g X k.toNat).2.1)), (4, vi ((zsc s f g X k.toNat).1)), (0, vr 119), (1, vi g)], [vi ((Op.cmpValue (FP.dcmp (FP.ddiv (FP.i2d (Int32.ofInt ((k - ((zsc s f g X k.toNat).2.2.2)) * g))) (FP.i2d (Int32.ofInt ((s k) - (s ((zsc s f g X k.toNat).2.2.2)))))) ((zsc s f g X k.toNat).2.2.1)) .g).toInt)], ((zFS I n s f m u d), zPp π, (zFD D t), 147)) (G := (zr (k - ((zsc s f g X k.toNat).2.2.2))) ∧ (zr ((k - ((zsc s f g X k.toNat).2.2.2)) * g)) ∧ (vf_n64 (FP.ddiv (FP.i2d (Int32.ofInt ((k - ((zsc s f g X k.toNat).2.2.2)) * g))) (FP.i2d (Int32.ofInt ((s k) - (s ((zsc s f g X k.toNat).2.2.2))))))) ∧ True) rfl ⟨by omega, by omega, vf64 (zfn (zdd (by omega) (by omega))), trivial⟩ ?_
        refine z_br (((Op.cmpValue (FP.dcmp (FP.ddiv (FP.i2d (Int32.ofInt ((k - ((zsc s f g X k.toNat).2.2.2)) * g))) (FP.i2d (Int32.ofInt ((s k) - (s ((zsc s f g X k.toNat).2.2.2)))))) ((zsc s f g X k.toNat).2.2.1)) .g).toInt) < 0) 111 97 [] rfl (fun hx5 => ?_) (fun hx5 => ?_)
        · refine z_n 10 (15, [(9, vi (k + 1)), (8, vi k), (6, vd (FP.ddiv (FP.i2d (Int32.ofInt ((k - ((zsc s f g X k.toNat).2.2.2)) * g))) (FP.i2d (Int32.ofInt ((s k) - (s ((zsc s f g X k.toNat).2.2.2))))))), (5, vi ((zsc s f g X k.toNat).2.2.2)), (4, vi k), (11, vd (FP.ddiv (FP.i2d (Int32.ofInt ((k - ((zsc s f g X k.toNat).2.2.2)) * g))) (FP.i2d (Int32.ofInt ((s k) - (s ((zsc s f g X k.toNat).2.2.2))))))), (10, vi ((s k) - (s ((zsc s f g X k.toNat).2.2.2)))), (0, vr 119), (1, vi g)], [], ((zFS I n s f m u d), zPp π, (zFD D t), 147)) (G := (zr (k + 1)) ∧ True) rfl ⟨by omega, trivial⟩ ?_
          refine z_sub [(9, vi (k + 1)), (8, vi k), (6, vd (FP.ddiv (FP.i2d (Int32.ofInt ((k - ((zsc s f g X k.toNat).2.2.2)) * g))) (FP.i2d (Int32.ofInt ((s k) - (s ((zsc s f g X k.toNat).2.2.2))))))), (5, vi ((zsc s f g X k.toNat).2.2.2)), (4, vi k), (0, vr 119), (1, vi g)] [0, 1, 2, 3, 4, 7, 8] rfl ?_
          refine z_lk (L1 := [(9, vi (k + 1)), (8, vi ((zsc s f g X (k + 1).toNat).2.2.2)), (6, vd ((zsc s f g X (k + 1).toNat).2.2.1)), (5, vi ((zsc s f g X (k + 1).toNat).2.1)), (4, vi ((zsc s f g X (k + 1).toNat).1)), (0, vr 119), (1, vi g)]) (by rw [zsc_s h0]; unfold zsc1; repeat (first | rw [if_pos (by assumption)] | rw [if_neg (by assumption)])) ?_
          exact ih (k + 1) (by omega) (by omega)
        · refine z_n 2 (100, [(11, vd (FP.ddiv (FP.i2d (Int32.ofInt ((k - ((zsc s f g X k.toNat).2.2.2)) * g))) (FP.i2d (Int32.ofInt ((s k) - (s ((zsc s f g X k.toNat).2.2.2))))))), (10, vi ((s k) - (s ((zsc s f g X k.toNat).2.2.2)))), (9, vi k), (8, vi ((zsc s f g X k.toNat).2.2.2)), (6, vd ((zsc s f g X k.toNat).2.2.1)), (5, vi ((zsc s f g X k.toNat).2.1)), (4, vi ((zsc s f g X k.toNat).1)), (0, vr 119), (1, vi g)], [vi (-1), vi ((zsc s f g X k.toNat).1)], ((zFS I n s f m u d), zPp π, (zFD D t), 147)) rfl trivial ?_
          refine z_br (¬ ((zsc s f g X k.toNat).1) = (-1)) 123 103 [] rfl (fun hx6 => ?_) (fun hx6 => ?_)
          · refine z_n 4 (15, [(9, vi (k + 1)), (8, vi k), (11, vd (FP.ddiv (FP.i2d (Int32.ofInt ((k - ((zsc s f g X k.toNat).2.2.2)) * g))) (FP.i2d (Int32.ofInt ((s k) - (s ((zsc s f g X k.toNat).2.2.2))))))), (10, vi ((s k) - (s ((zsc s f g X k.toNat).2.2.2)))), (6, vd ((zsc s f g X k.toNat).2.2.1)), (5, vi ((zsc s f g X k.toNat).2.1)), (4, vi ((zsc s f g X k.toNat).1)), (0, vr 119), (1, vi g)], [], ((zFS I n s f m u d), zPp π, (zFD D t), 147)) (G := (zr (k + 1)) ∧ True) rfl ⟨by omega, trivial⟩ ?_
            refine z_sub [(9, vi (k + 1)), (8, vi k), (6, vd ((zsc s f g X k.toNat).2.2.1)), (5, vi ((zsc s f g X k.toNat).2.1)), (4, vi ((zsc s f g X k.toNat).1)), (0, vr 119), (1, vi g)] [0, 1, 4, 5, 6, 7, 8] rfl ?_
            refine z_lk (L1 := [(9, vi (k + 1)), (8, vi ((zsc s f g X (k + 1).toNat).2.2.2)), (6, vd ((zsc s f g X (k + 1).toNat).2.2.1)), (5, vi ((zsc s f g X (k + 1).toNat).2.1)), (4, vi ((zsc s f g X (k + 1).toNat).1)), (0, vr 119), (1, vi g)]) (by rw [zsc_s h0]; unfold zsc1; repeat (first | rw [if_pos (by assumption)] | rw [if_neg (by assumption)])) ?_
            exact ih (k + 1) (by omega) (by omega)
          · refine z_n 3 (108, [(11, vd (FP.ddiv (FP.i2d (Int32.ofInt ((k - ((zsc s f g X k.toNat).2.2.2)) * g))) (FP.i2d (Int32.ofInt ((s k) - (s ((zsc s f g X k.toNat).2.2.2))))))), (10, vi ((s k) - (s ((zsc s f g X k.toNat).2.2.2)))), (9, vi k), (8, vi ((zsc s f g X k.toNat).2.2.2)), (6, vd ((zsc s f g X k.toNat).2.2.1)), (5, vi ((zsc s f g X k.toNat).2.1)), (4, vi ((zsc s f g X k.toNat).1)), (0, vr 119), (1, vi g)], [vi ((Op.cmpValue (FP.dcmp (FP.ddiv (FP.i2d (Int32.ofInt ((k - ((zsc s f g X k.toNat).2.2.2)) * g))) (FP.i2d (Int32.ofInt ((s k) - (s ((zsc s f g X k.toNat).2.2.2)))))) ((zsc s f g X k.toNat).2.2.1)) .l).toInt)], ((zFS I n s f m u d), zPp π, (zFD D t), 147)) rfl trivial ?_
            refine z_br (¬ ((Op.cmpValue (FP.dcmp (FP.ddiv (FP.i2d (Int32.ofInt ((k - ((zsc s f g X k.toNat).2.2.2)) * g))) (FP.i2d (Int32.ofInt ((s k) - (s ((zsc s f g X k.toNat).2.2.2)))))) ((zsc s f g X k.toNat).2.2.1)) .l).toInt) = 0) 123 111 [] rfl (fun hx7 => ?_) (fun hx7 => ?_)
            · refine z_n 4 (15, [(9, vi (k + 1)), (8, vi k), (11, vd (FP.ddiv (FP.i2d (Int32.ofInt ((k - ((zsc s f g X k.toNat).2.2.2)) * g))) (FP.i2d (Int32.ofInt ((s k) - (s ((zsc s f g X k.toNat).2.2.2))))))), (10, vi ((s k) - (s ((zsc s f g X k.toNat).2.2.2)))), (6, vd ((zsc s f g X k.toNat).2.2.1)), (5, vi ((zsc s f g X k.toNat).2.1)), (4, vi ((zsc s f g X k.toNat).1)), (0, vr 119), (1, vi g)], [], ((zFS I n s f m u d), zPp π, (zFD D t), 147)) (G := (zr (k + 1)) ∧ True) rfl ⟨by omega, trivial⟩ ?_
              refine z_sub [(9, vi (k + 1)), (8, vi k), (6, vd ((zsc s f g X k.toNat).2.2.1)), (5, vi ((zsc s f g X k.toNat).2.1)), (4, vi ((zsc s f g X k.toNat).1)), (0, vr 119), (1, vi g)] [0, 1, 4, 5, 6, 7, 8] rfl ?_
              refine z_lk (L1 := [(9, vi (k + 1)), (8, vi ((zsc s f g X (k + 1).toNat).2.2.2)), (6, vd ((zsc s f g X (k + 1).toNat).2.2.1)), (5, vi ((zsc s f g X (k + 1).toNat).2.1)), (4, vi ((zsc s f g X (k + 1).toNat).1)), (0, vr 119), (1, vi g)]) (by rw [zsc_s h0]; unfold zsc1; repeat (first | rw [if_pos (by assumption)] | rw [if_neg (by assumption)])) ?_
              exact ih (k + 1) (by omega) (by omega)
            · refine z_n 10 (15, [(9, vi (k + 1)), (8, vi k), (6, vd (FP.ddiv (FP.i2d (Int32.ofInt ((k - ((zsc s f g X k.toNat).2.2.2)) * g))) (FP.i2d (Int32.ofInt ((s k) - (s ((zsc s f g X k.toNat).2.2.2))))))), (5, vi ((zsc s f g X k.toNat).2.2.2)), (4, vi k), (11, vd (FP.ddiv (FP.i2d (Int32.ofInt ((k - ((zsc s f g X k.toNat).2.2.2)) * g))) (FP.i2d (Int32.ofInt ((s k) - (s ((zsc s f g X k.toNat).2.2.2))))))), (10, vi ((s k) - (s ((zsc s f g X k.toNat).2.2.2)))), (0, vr 119), (1, vi g)], [], ((zFS I n s f m u d), zPp π, (zFD D t), 147)) (G := (zr (k + 1)) ∧ True) rfl ⟨by omega, trivial⟩ ?_
              refine z_sub [(9, vi (k + 1)), (8, vi k), (6, vd (FP.ddiv (FP.i2d (Int32.ofInt ((k - ((zsc s f g X k.toNat).2.2.2)) * g))) (FP.i2d (Int32.ofInt ((s k) - (s ((zsc s f g X k.toNat).2.2.2))))))), (5, vi ((zsc s f g X k.toNat).2.2.2)), (4, vi k), (0, vr 119), (1, vi g)] [0, 1, 2, 3, 4, 7, 8] rfl ?_
              refine z_lk (L1 := [(9, vi (k + 1)), (8, vi ((zsc s f g X (k + 1).toNat).2.2.2)), (6, vd ((zsc s f g X (k + 1).toNat).2.2.1)), (5, vi ((zsc s f g X (k + 1).toNat).2.1)), (4, vi ((zsc s f g X (k + 1).toNat).1)), (0, vr 119), (1, vi g)]) (by rw [zsc_s h0]; unfold zsc1; repeat (first | rw [if_pos (by assumption)] | rw [if_neg (by assumption)])) ?_
              exact ih (k + 1) (by omega) (by omega)
    · refine z_n 4 (72, [(10, vi 0), (9, vi k), (8, vi ((zsc s f g X k.toNat).2.2.2)), (6, vd ((zsc s f g X k.toNat).2.2.1)), (5, vi ((zsc s f g X k.toNat).2.1)), (4, vi ((zsc s f g X k.toNat).1)), (0, vr 119), (1, vi g)], [vi 0], ((zFS I n s f m u d), zPp π, (zFD D t), 147)) rfl trivial ?_
      refine z_br ((0 : Int) ≤ 0) 123 75 [] rfl (fun hx8 => ?_) (fun h => absurd (show (0 : Int) ≤ 0 from by decide) h)
      refine z_n 4 (15, [(9, vi (k + 1)), (8, vi k), (10, vi 0), (6, vd ((zsc s f g X k.toNat).2.2.1)), (5, vi ((zsc s f g X k.toNat).2.1)), (4, vi ((zsc s f g X k.toNat).1)), (0, vr 119), (1, vi g)], [], ((zFS I n s f m u d), zPp π, (zFD D t), 147)) (G := (zr (k + 1)) ∧ True) rfl ⟨by omega, trivial⟩ ?_
      refine z_sub [(9, vi (k + 1)), (8, vi k), (6, vd ((zsc s f g X k.toNat).2.2.1)), (5, vi ((zsc s f g X k.toNat).2.1)), (4, vi ((zsc s f g X k.toNat).1)), (0, vr 119), (1, vi g)] [0, 1, 3, 4, 5, 6, 7] rfl ?_
      refine z_lk (L1 := [(9, vi (k + 1)), (8, vi ((zsc s f g X (k + 1).toNat).2.2.2)), (6, vd ((zsc s f g X (k + 1).toNat).2.2.1)), (5, vi ((zsc s f g X (k + 1).toNat).2.1)), (4, vi ((zsc s f g X (k + 1).toNat).1)), (0, vr 119), (1, vi g)]) (by rw [zsc_s h0]; unfold zsc1; repeat (first | rw [if_pos (by assumption)] | rw [if_neg (by assumption)])) ?_
      exact ih (k + 1) (by omega) (by omega)
  · refine z_n 3 (15, [(9, vi (k + 1)), (8, vi ((zsc s f g X k.toNat).2.2.2)), (6, vd ((zsc s f g X k.toNat).2.2.1)), (5, vi ((zsc s f g X k.toNat).2.1)), (4, vi ((zsc s f g X k.toNat).1)), (0, vr 119), (1, vi g)], [], ((zFS I n s f m u d), zPp π, (zFD D t), 147)) (G := (zr (k + 1)) ∧ True) rfl ⟨by omega, trivial⟩ ?_
    refine z_sub [(9, vi (k + 1)), (8, vi ((zsc s f g X k.toNat).2.2.2)), (6, vd ((zsc s f g X k.toNat).2.2.1)), (5, vi ((zsc s f g X k.toNat).2.1)), (4, vi ((zsc s f g X k.toNat).1)), (0, vr 119), (1, vi g)] [0, 1, 2, 3, 4, 5, 6] rfl ?_
    refine z_lk (L1 := [(9, vi (k + 1)), (8, vi ((zsc s f g X (k + 1).toNat).2.2.2)), (6, vd ((zsc s f g X (k + 1).toNat).2.2.1)), (5, vi ((zsc s f g X (k + 1).toNat).2.1)), (4, vi ((zsc s f g X (k + 1).toNat).1)), (0, vr 119), (1, vi g)]) (by rw [zsc_s h0]; unfold zsc1; repeat (first | rw [if_pos (by assumption)] | rw [if_neg (by assumption)])) ?_
    exact ih (k + 1) (by omega) (by omega)
set_option maxRecDepth 20000 in
theorem m_fn0 {I : zI} {π : Int → Nat} {D : zD} {n m : Int} {s f u d : Int → Int} {t : Int → UInt64} {g : Int} {X : UInt64} (hn : 0 ≤ n ∧ n ≤ 9) (hm : 0 ≤ m ∧ m < 4) (hg : 0 ≤ g ∧ g ≤ 5000) (hs : ∀ j, 0 ≤ j → j < n → 0 ≤ s j ∧ s j ≤ 1000) (hq : (zsc s f g X n.toNat).1 = -1) : zMet 35 [vr 119, vi g, vd X] ((zFS I n s f m u d), zPp π, (zFD D t), 147) (some (vi 0)) ((zFS I n s f m u d), zPp π, (zFD D t), 147) := by
  refine z_n 10 (15, [(9, vi 0), (8, vi (-1)), (6, vd X), (5, vi (-1)), (4, vi (-1)), (0, vr 119), (1, vi g), (2, vd X)], [], ((zFS I n s f m u d), zPp π, (zFD D t), 147)) rfl trivial ?_
  refine z_sub [(9, vi 0), (8, vi (-1)), (6, vd X), (5, vi (-1)), (4, vi (-1)), (0, vr 119), (1, vi g)] [0, 1, 2, 3, 4, 5, 6] rfl ?_
  refine z_lk (L1 := [(9, vi 0), (8, vi ((zsc s f g X (0 : Int).toNat).2.2.2)), (6, vd ((zsc s f g X (0 : Int).toNat).2.2.1)), (5, vi ((zsc s f g X (0 : Int).toNat).2.1)), (4, vi ((zsc s f g X (0 : Int).toNat).1)), (0, vr 119), (1, vi g)]) (by rfl) ?_
  exact m_fn0_l hn hm hg hs hq n.toNat 0 (by omega) (by omega)
set_option maxRecDepth 20000 in
theorem m_fn1_l {I : zI} {π : Int → Nat} {D : zD} {n m : Int} {s f u d : Int → Int} {t : Int → UInt64} {g : Int} {X : UInt64} (hn : 0 ≤ n ∧ n ≤ 9) (hm : 0 ≤ m ∧ m < 4) (hg : 0 ≤ g ∧ g ≤ 5000) (hs : ∀ j, 0 ≤ j → j < n → 0 ≤ s j ∧ s j ≤ 1000) (hq : ¬ (zsc s f g X n.toNat).1 = -1) : ∀ (N : Nat) (k : Int), 0 ≤ k → k + N = n → zRuns 35 15 [(9, vi k), (8, vi ((zsc s f g X k.toNat).2.2.2)), (6, vd ((zsc s f g X k.toNat).2.2.1)), (5, vi ((zsc s f g X k.toNat).2.1)), (4, vi ((zsc s f g X k.toNat).1)), (0, vr 119), (1, vi g)] [] ((zFS I n s f m u d), zPp π, (zFD D t), 147) (some (vi 1)) (zFS I n s (zu1 (zu1 f (zsc s f g X n.toNat).1 1) (zsc s f g X n.toNat).2.1 1) (m + 1) (zu1 u m (zsc s f g X n.toNat).1) (zu1 d m (zsc s f g X n.toNat).2.1), zPp π, zFD D (zuD t m (zsc s f g X n.toNat).2.2.1), 147) := by
  intro N
  induction N with
  | zero =>
    intro k h0 hN
    have e9 : k = n := by omega
    subst e9
    have hbn := zsc_b (s := s) (f := f) (g := g) (X := X) k.toNat
    have hb1 : 0 ≤ (zsc s f g X k.toNat).1 ∧ (zsc s f g X k.toNat).1 < 9 := by omega
    have hb2 : 0 ≤ (zsc s f g X k.toNat).2.1 ∧ (zsc s f g X k.toNat).2.1 < 9 := by omega
    refine z_n 3 (21, [(9, vi k), (8, vi ((zsc s f g X k.toNat).2.2.2)), (6, vd ((zsc s f g X k.toNat).2.2.1)), (5, vi ((zsc s f g X k.toNat).2.1)), (4, vi ((zsc s f g X k.toNat).1)), (0, vr 119), (1, vi g)], [vi k, vi k], ((zFS I k s f m u d), zPp π, (zFD D t), 147)) rfl trivial ?_
    refine z_br (k ≤ k) 133 24 [] rfl (fun hx1 => ?_) (fun h => absurd (show k ≤ k from by omega) h)
    refine z_n 2 (136, [(9, vi k), (8, vi ((zsc s f g X k.toNat).2.2.2)), (6, vd ((zsc s f g X k.toNat).2.2.1)), (5, vi ((zsc s f g X k.toNat).2.1)), (4, vi ((zsc s f g X k.toNat).1)), (0, vr 119), (1, vi g)], [vi (-1), vi ((zsc s f g X k.toNat).1)], ((zFS I k s f m u d), zPp π, (zFD D t), 147)) rfl trivial ?_
    refine z_br (¬ ((zsc s f g X k.toNat).1) = (-1)) 141 139 [] rfl (fun hx2 => ?_) (fun h => absurd (show ¬ ((zsc s f g X k.toNat).1) = (-1) from hq) h)
    refine z_n 4 (148, [(9, vi k), (8, vi ((zsc s f g X k.toNat).2.2.2)), (6, vd ((zsc s f g X k.toNat).2.2.1)), (5, vi ((zsc s f g X k.toNat).2.1)), (4, vi ((zsc s f g X k.toNat).1)), (0, vr 119), (1, vi g)], [vd ((zsc s f g X k.toNat).2.2.1), vi ((zsc s f g X k.toNat).2.1), vi ((zsc s f g X k.toNat).1), vr 119], ((zFS I k s f m u d), zPp π, (zFD D t), 147)) rfl trivial ?_
    refine z_cv 36 [vr 119, vi ((zsc s f g X k.toNat).1), vi ((zsc s f g X k.toNat).2.1), vd ((zsc s f g X k.toNat).2.2.1)] [] rfl (m_fadd hm hb1 hb2) ?_
    refine z_n 1 (152, [(9, vi k), (8, vi ((zsc s f g X k.toNat).2.2.2)), (6, vd ((zsc s f g X k.toNat).2.2.1)), (5, vi ((zsc s f g X k.toNat).2.1)), (4, vi ((zsc s f g X k.toNat).1)), (0, vr 119), (1, vi g)], [vi 1], (zFS I k s (zu1 (zu1 f (zsc s f g X k.toNat).1 1) (zsc s f g X k.toNat).2.1 1) (m + 1) (zu1 u m (zsc s f g X k.toNat).1) (zu1 d m (zsc s f g X k.toNat).2.1), zPp π, (zFD D (zuD t m (zsc s f g X k.toNat).2.2.1)), 147)) rfl trivial ?_
    first | exact z_ret rfl rfl rfl | exact z_ret rfl (zv1 (by omega)) rfl | (exfalso; omega)
  | succ N ih =>
  intro k h0 hN
  have hb := zsc_b (s := s) (f := f) (g := g) (X := X) k.toNat
  have hs1 := hs k h0 (by omega)
  have hs2 := hs (zsc s f g X k.toNat).2.2.2
  have hmul := zmulb (a := k - (zsc s f g X k.toNat).2.2.2) (b := g) (A := 10) (B := 5000) (by omega) (by omega) hg.1 hg.2
  refine z_n 3 (21, [(9, vi k), (8, vi ((zsc s f g X k.toNat).2.2.2)), (6, vd ((zsc s f g X k.toNat).2.2.1)), (5, vi ((zsc s f g X k.toNat).2.1)), (4, vi ((zsc s f g X k.toNat).1)), (0, vr 119), (1, vi g)], [vi n, vi k], ((zFS I n s f m u d), zPp π, (zFD D t), 147)) rfl trivial ?_
  refine z_br (n ≤ k) 133 24 [] rfl (fun h => absurd h (show ¬ (n ≤ k) from by omega)) (fun hx1 => ?_)
  refine z_n 3 (30, [(9, vi k), (8, vi ((zsc s f g X k.toNat).2.2.2)), (6, vd ((zsc s f g X k.toNat).2.2.1)), (5, vi ((zsc s f g X k.toNat).2.1)), (4, vi ((zsc s f g X k.toNat).1)), (0, vr 119), (1, vi g)], [vi k, vr 127], ((zFS I n s f m u d), zPp π, (zFD D t), 147)) rfl trivial ?_
  refine z_ci 1 [vr 127, vi k] [] rfl (m_get (n := 9) ⟨rfl, rfl, rfl, rfl⟩ (by omega) (by omega)) ?_
  refine z_br ((f k) = 0) 39 36 [] rfl (fun hx2 => ?_) (fun hx2 => ?_)
  · refine z_n 2 (42, [(9, vi k), (8, vi ((zsc s f g X k.toNat).2.2.2)), (6, vd ((zsc s f g X k.toNat).2.2.1)), (5, vi ((zsc s f g X k.toNat).2.1)), (4, vi ((zsc s f g X k.toNat).1)), (0, vr 119), (1, vi g)], [vi (-1), vi ((zsc s f g X k.toNat).2.2.2)], ((zFS I n s f m u d), zPp π, (zFD D t), 147)) rfl trivial ?_
    refine z_br (¬ ((zsc s f g X k.toNat).2.2.2) = (-1)) 49 45 [] rfl (fun hx3 => ?_) (fun hx3 => ?_)
    · refine z_n 3 (55, [(9, vi k), (8, vi ((zsc s f g X k.toNat).2.2.2)), (6, vd ((zsc s f g X k.toNat).2.2.1)), (5, vi ((zsc s f g X k.toNat).2.1)), (4, vi ((zsc s f g X k.toNat).1)), (0, vr 119), (1, vi g)], [vi k, vr 125], ((zFS I n s f m u d), zPp π, (zFD D t), 147)) rfl trivial ?_
      refine z_ci 1 [vr 125, vi k] [] rfl (m_get (n := 9) ⟨rfl, rfl, rfl, rfl⟩ (by omega) (by omega)) ?_
      refine z_n 3 (64, [(9, vi k), (8, vi ((zsc s f g X k.toNat).2.2.2)), (6, vd ((zsc s f g X k.toNat).2.2.1)), (5, vi ((zsc s f g X k.toNat).2.1)), (4, vi ((zsc s f g X k.toNat).1)), (0, vr 119), (1, vi g)], [vi ((zsc s f g X k.toNat).2.2.2), vr 125, vi (s k)], ((zFS I n s f m u d), zPp π, (zFD D t), 147)) rfl trivial ?_
      refine z_ci 1 [vr 125, vi ((zsc s f g X k.toNat).2.2.2)] [vi (s k)] rfl (m_get (n := 9) ⟨rfl, rfl, rfl, rfl⟩ (by omega) (by omega)) ?_
      refine z_n 3 (72, [(10, vi ((s k) - (s ((zsc s f g X k.toNat).2.2.2)))), (9, vi k), (8, vi ((zsc s f g X k.toNat).2.2.2)), (6, vd ((zsc s f g X k.toNat).2.2.1)), (5, vi ((zsc s f g X k.toNat).2.1)), (4, vi ((zsc s f g X k.toNat).1)), (0, vr 119), (1, vi g)], [vi ((s k) - (s ((zsc s f g X k.toNat).2.2.2)))], ((zFS I n s f m u d), zPp π, (zFD D t), 147)) (G := (zr ((s k) - (s ((zsc s f g X k.toNat).2.2.2)))) ∧ True) rfl ⟨by omega, trivial⟩ ?_
      refine z_br (((s k) - (s ((zsc s f g X k.toNat).2.2.2))) ≤ 0) 123 75 [] rfl (fun hx4 => ?_) (fun hx4 => ?_)
      · refine z_n 4 (15, [(9, vi (k + 1)), (8, vi k), (10, vi ((s k) - (s ((zsc s f g X k.toNat).2.2.2)))), (6, vd ((zsc s f g X k.toNat).2.2.1)), (5, vi ((zsc s f g X k.toNat).2.1)), (4, vi ((zsc s f g X k.toNat).1)), (0, vr 119), (1, vi g)], [], ((zFS I n s f m u d), zPp π, (zFD D t), 147)) (G := (zr (k + 1)) ∧ True) rfl ⟨by omega, trivial⟩ ?_
        refine z_sub [(9, vi (k + 1)), (8, vi k), (6, vd ((zsc s f g X k.toNat).2.2.1)), (5, vi ((zsc s f g X k.toNat).2.1)), (4, vi ((zsc s f g X k.toNat).1)), (0, vr 119), (1, vi g)] [0, 1, 3, 4, 5, 6, 7] rfl ?_
        refine z_lk (L1 := [(9, vi (k + 1)), (8, vi ((zsc s f g X (k + 1).toNat).2.2.2)), (6, vd ((zsc s f g X (k + 1).toNat).2.2.1)), (5, vi ((zsc s f g X (k + 1).toNat).2.1)), (4, vi ((zsc s f g X (k + 1).toNat).1)), (0, vr 119), (1, vi g)]) (by rw [zsc_s h0]; unfold zsc1; repeat (first | rw [if_pos (by assumption)] | rw [if_neg (by assumption)])) ?_
        exact ih (k + 1) (by omega) (by omega)
      · refine z_n 13 (94, [(11, vd (FP.ddiv (FP.i2d (Int32.ofInt ((k - ((zsc s f g X k.toNat).2.2.2)) * g))) (FP.i2d (Int32.ofInt ((s k) - (s ((zsc s f g X k.toNat).2.2.2))))))), (10, vi ((s k) - (s ((zsc s f g X k.toNat).2.2.2)))), (9, vi k), (8, vi ((zsc s f g X k.toNat).2.2.2)), (6, vd ((zsc s f g X k.toNat).2.2.1)), (5, vi ((zsc s f g X k.toNat).2.1)), (4, vi ((zsc s f g X k.toNat).1)), (0, vr 119), (1, vi g)], [vi ((Op.cmpValue (FP.dcmp (FP.ddiv (FP.i2d (Int32.ofInt ((k - ((zsc s f g X k.toNat).2.2.2)) * g))) (FP.i2d (Int32.ofInt ((s k) - (s ((zsc s f g X k.toNat).2.2.2)))))) ((zsc s f g X k.toNat).2.2.1)) .g).toInt)], ((zFS I n s f m u d), zPp π, (zFD D t), 147)) (G := (zr (k - ((zsc s f g X k.toNat).2.2.2))) ∧ (zr ((k - ((zsc s f g X k.toNat).2.2.2)) * g)) ∧ (vf_n64 (FP.ddiv (FP.i2d (Int32.ofInt ((k - ((zsc s f g X k.toNat).2.2.2)) * g))) (FP.i2d (Int32.ofInt ((s k) - (s ((zsc s f g X k.toNat).2.2.2))))))) ∧ True) rfl ⟨by omega, by omega, vf64 (zfn (zdd (by omega) (by omega))), trivial⟩ ?_
        refine z_br (((Op.cmpValue (FP.dcmp (FP.ddiv (FP.i2d (Int32.ofInt ((k - ((zsc s f g X k.toNat).2.2.2)) * g))) (FP.i2d (Int32.ofInt ((s k) - (s ((zsc s f g X k.toNat).2.2.2)))))) ((zsc s f g X k.toNat).2.2.1)) .g).toInt) < 0) 111 97 [] rfl (fun hx5 => ?_) (fun hx5 => ?_)
        · refine z_n 10 (15, [(9, vi (k + 1)), (8, vi k), (6, vd (FP.ddiv (FP.i2d (Int32.ofInt ((k - ((zsc s f g X k.toNat).2.2.2)) * g))) (FP.i2d (Int32.ofInt ((s k) - (s ((zsc s f g X k.toNat).2.2.2))))))), (5, vi ((zsc s f g X k.toNat).2.2.2)), (4, vi k), (11, vd (FP.ddiv (FP.i2d (Int32.ofInt ((k - ((zsc s f g X k.toNat).2.2.2)) * g))) (FP.i2d (Int32.ofInt ((s k) - (s ((zsc s f g X k.toNat).2.2.2))))))), (10, vi ((s k) - (s ((zsc s f g X k.toNat).2.2.2)))), (0, vr 119), (1, vi g)], [], ((zFS I n s f m u d), zPp π, (zFD D t), 147)) (G := (zr (k + 1)) ∧ True) rfl ⟨by omega, trivial⟩ ?_
          refine z_sub [(9, vi (k + 1)), (8, vi k), (6, vd (FP.ddiv (FP.i2d (Int32.ofInt ((k - ((zsc s f g X k.toNat).2.2.2)) * g))) (FP.i2d (Int32.ofInt ((s k) - (s ((zsc s f g X k.toNat).2.2.2))))))), (5, vi ((zsc s f g X k.toNat).2.2.2)), (4, vi k), (0, vr 119), (1, vi g)] [0, 1, 2, 3, 4, 7, 8] rfl ?_
          refine z_lk (L1 := [(9, vi (k + 1)), (8, vi ((zsc s f g X (k + 1).toNat).2.2.2)), (6, vd ((zsc s f g X (k + 1).toNat).2.2.1)), (5, vi ((zsc s f g X (k + 1).toNat).2.1)), (4, vi ((zsc s f g X (k + 1).toNat).1)), (0, vr 119), (1, vi g)]) (by rw [zsc_s h0]; unfold zsc1; repeat (first | rw [if_pos (by assumption)] | rw [if_neg (by assumption)])) ?_
          exact ih (k + 1) (by omega) (by omega)
        · refine z_n 2 (100, [(11, vd (FP.ddiv (FP.i2d (Int32.ofInt ((k - ((zsc s f g X k.toNat).2.2.2)) * g))) (FP.i2d (Int32.ofInt ((s k) - (s ((zsc s f g X k.toNat).2.2.2))))))), (10, vi ((s k) - (s ((zsc s f g X k.toNat).2.2.2)))), (9, vi k), (8, vi ((zsc s f g X k.toNat).2.2.2)), (6, vd ((zsc s f g X k.toNat).2.2.1)), (5, vi ((zsc s f g X k.toNat).2.1)), (4, vi ((zsc s f g X k.toNat).1)), (0, vr 119), (1, vi g)], [vi (-1), vi ((zsc s f g X k.toNat).1)], ((zFS I n s f m u d), zPp π, (zFD D t), 147)) rfl trivial ?_
          refine z_br (¬ ((zsc s f g X k.toNat).1) = (-1)) 123 103 [] rfl (fun hx6 => ?_) (fun hx6 => ?_)
          · refine z_n 4 (15, [(9, vi (k + 1)), (8, vi k), (11, vd (FP.ddiv (FP.i2d (Int32.ofInt ((k - ((zsc s f g X k.toNat).2.2.2)) * g))) (FP.i2d (Int32.ofInt ((s k) - (s ((zsc s f g X k.toNat).2.2.2))))))), (10, vi ((s k) - (s ((zsc s f g X k.toNat).2.2.2)))), (6, vd ((zsc s f g X k.toNat).2.2.1)), (5, vi ((zsc s f g X k.toNat).2.1)), (4, vi ((zsc s f g X k.toNat).1)), (0, vr 119), (1, vi g)], [], ((zFS I n s f m u d), zPp π, (zFD D t), 147)) (G := (zr (k + 1)) ∧ True) rfl ⟨by omega, trivial⟩ ?_
            refine z_sub [(9, vi (k + 1)), (8, vi k), (6, vd ((zsc s f g X k.toNat).2.2.1)), (5, vi ((zsc s f g X k.toNat).2.1)), (4, vi ((zsc s f g X k.toNat).1)), (0, vr 119), (1, vi g)] [0, 1, 4, 5, 6, 7, 8] rfl ?_
            refine z_lk (L1 := [(9, vi (k + 1)), (8, vi ((zsc s f g X (k + 1).toNat).2.2.2)), (6, vd ((zsc s f g X (k + 1).toNat).2.2.1)), (5, vi ((zsc s f g X (k + 1).toNat).2.1)), (4, vi ((zsc s f g X (k + 1).toNat).1)), (0, vr 119), (1, vi g)]) (by rw [zsc_s h0]; unfold zsc1; repeat (first | rw [if_pos (by assumption)] | rw [if_neg (by assumption)])) ?_
            exact ih (k + 1) (by omega) (by omega)
          · refine z_n 3 (108, [(11, vd (FP.ddiv (FP.i2d (Int32.ofInt ((k - ((zsc s f g X k.toNat).2.2.2)) * g))) (FP.i2d (Int32.ofInt ((s k) - (s ((zsc s f g X k.toNat).2.2.2))))))), (10, vi ((s k) - (s ((zsc s f g X k.toNat).2.2.2)))), (9, vi k), (8, vi ((zsc s f g X k.toNat).2.2.2)), (6, vd ((zsc s f g X k.toNat).2.2.1)), (5, vi ((zsc s f g X k.toNat).2.1)), (4, vi ((zsc s f g X k.toNat).1)), (0, vr 119), (1, vi g)], [vi ((Op.cmpValue (FP.dcmp (FP.ddiv (FP.i2d (Int32.ofInt ((k - ((zsc s f g X k.toNat).2.2.2)) * g))) (FP.i2d (Int32.ofInt ((s k) - (s ((zsc s f g X k.toNat).2.2.2)))))) ((zsc s f g X k.toNat).2.2.1)) .l).toInt)], ((zFS I n s f m u d), zPp π, (zFD D t), 147)) rfl trivial ?_
            refine z_br (¬ ((Op.cmpValue (FP.dcmp (FP.ddiv (FP.i2d (Int32.ofInt ((k - ((zsc s f g X k.toNat).2.2.2)) * g))) (FP.i2d (Int32.ofInt ((s k) - (s ((zsc s f g X k.toNat).2.2.2)))))) ((zsc s f g X k.toNat).2.2.1)) .l).toInt) = 0) 123 111 [] rfl (fun hx7 => ?_) (fun hx7 => ?_)
            · refine z_n 4 (15, [(9, vi (k + 1)), (8, vi k), (11, vd (FP.ddiv (FP.i2d (Int32.ofInt ((k - ((zsc s f g X k.toNat).2.2.2)) * g))) (FP.i2d (Int32.ofInt ((s k) - (s ((zsc s f g X k.toNat).2.2.2))))))), (10, vi ((s k) - (s ((zsc s f g X k.toNat).2.2.2)))), (6, vd ((zsc s f g X k.toNat).2.2.1)), (5, vi ((zsc s f g X k.toNat).2.1)), (4, vi ((zsc s f g X k.toNat).1)), (0, vr 119), (1, vi g)], [], ((zFS I n s f m u d), zPp π, (zFD D t), 147)) (G := (zr (k + 1)) ∧ True) rfl ⟨by omega, trivial⟩ ?_
              refine z_sub [(9, vi (k + 1)), (8, vi k), (6, vd ((zsc s f g X k.toNat).2.2.1)), (5, vi ((zsc s f g X k.toNat).2.1)), (4, vi ((zsc s f g X k.toNat).1)), (0, vr 119), (1, vi g)] [0, 1, 4, 5, 6, 7, 8] rfl ?_
              refine z_lk (L1 := [(9, vi (k + 1)), (8, vi ((zsc s f g X (k + 1).toNat).2.2.2)), (6, vd ((zsc s f g X (k + 1).toNat).2.2.1)), (5, vi ((zsc s f g X (k + 1).toNat).2.1)), (4, vi ((zsc s f g X (k + 1).toNat).1)), (0, vr 119), (1, vi g)]) (by rw [zsc_s h0]; unfold zsc1; repeat (first | rw [if_pos (by assumption)] | rw [if_neg (by assumption)])) ?_
              exact ih (k + 1) (by omega) (by omega)
            · refine z_n 10 (15, [(9, vi (k + 1)), (8, vi k), (6, vd (FP.ddiv (FP.i2d (Int32.ofInt ((k - ((zsc s f g X k.toNat).2.2.2)) * g))) (FP.i2d (Int32.ofInt ((s k) - (s ((zsc s f g X k.toNat).2.2.2))))))), (5, vi ((zsc s f g X k.toNat).2.2.2)), (4, vi k), (11, vd (FP.ddiv (FP.i2d (Int32.ofInt ((k - ((zsc s f g X k.toNat).2.2.2)) * g))) (FP.i2d (Int32.ofInt ((s k) - (s ((zsc s f g X k.toNat).2.2.2))))))), (10, vi ((s k) - (s ((zsc s f g X k.toNat).2.2.2)))), (0, vr 119), (1, vi g)], [], ((zFS I n s f m u d), zPp π, (zFD D t), 147)) (G := (zr (k + 1)) ∧ True) rfl ⟨by omega, trivial⟩ ?_
              refine z_sub [(9, vi (k + 1)), (8, vi k), (6, vd (FP.ddiv (FP.i2d (Int32.ofInt ((k - ((zsc s f g X k.toNat).2.2.2)) * g))) (FP.i2d (Int32.ofInt ((s k) - (s ((zsc s f g X k.toNat).2.2.2))))))), (5, vi ((zsc s f g X k.toNat).2.2.2)), (4, vi k), (0, vr 119), (1, vi g)] [0, 1, 2, 3, 4, 7, 8] rfl ?_
              refine z_lk (L1 := [(9, vi (k + 1)), (8, vi ((zsc s f g X (k + 1).toNat).2.2.2)), (6, vd ((zsc s f g X (k + 1).toNat).2.2.1)), (5, vi ((zsc s f g X (k + 1).toNat).2.1)), (4, vi ((zsc s f g X (k + 1).toNat).1)), (0, vr 119), (1, vi g)]) (by rw [zsc_s h0]; unfold zsc1; repeat (first | rw [if_pos (by assumption)] | rw [if_neg (by assumption)])) ?_
              exact ih (k + 1) (by omega) (by omega)
    · refine z_n 4 (72, [(10, vi 0), (9, vi k), (8, vi ((zsc s f g X k.toNat).2.2.2)), (6, vd ((zsc s f g X k.toNat).2.2.1)), (5, vi ((zsc s f g X k.toNat).2.1)), (4, vi ((zsc s f g X k.toNat).1)), (0, vr 119), (1, vi g)], [vi 0], ((zFS I n s f m u d), zPp π, (zFD D t), 147)) rfl trivial ?_
      refine z_br ((0 : Int) ≤ 0) 123 75 [] rfl (fun hx8 => ?_) (fun h => absurd (show (0 : Int) ≤ 0 from by decide) h)
      refine z_n 4 (15, [(9, vi (k + 1)), (8, vi k), (10, vi 0), (6, vd ((zsc s f g X k.toNat).2.2.1)), (5, vi ((zsc s f g X k.toNat).2.1)), (4, vi ((zsc s f g X k.toNat).1)), (0, vr 119), (1, vi g)], [], ((zFS I n s f m u d), zPp π, (zFD D t), 147)) (G := (zr (k + 1)) ∧ True) rfl ⟨by omega, trivial⟩ ?_
      refine z_sub [(9, vi (k + 1)), (8, vi k), (6, vd ((zsc s f g X k.toNat).2.2.1)), (5, vi ((zsc s f g X k.toNat).2.1)), (4, vi ((zsc s f g X k.toNat).1)), (0, vr 119), (1, vi g)] [0, 1, 3, 4, 5, 6, 7] rfl ?_
      refine z_lk (L1 := [(9, vi (k + 1)), (8, vi ((zsc s f g X (k + 1).toNat).2.2.2)), (6, vd ((zsc s f g X (k + 1).toNat).2.2.1)), (5, vi ((zsc s f g X (k + 1).toNat).2.1)), (4, vi ((zsc s f g X (k + 1).toNat).1)), (0, vr 119), (1, vi g)]) (by rw [zsc_s h0]; unfold zsc1; repeat (first | rw [if_pos (by assumption)] | rw [if_neg (by assumption)])) ?_
      exact ih (k + 1) (by omega) (by omega)
  · refine z_n 3 (15, [(9, vi (k + 1)), (8, vi ((zsc s f g X k.toNat).2.2.2)), (6, vd ((zsc s f g X k.toNat).2.2.1)), (5, vi ((zsc s f g X k.toNat).2.1)), (4, vi ((zsc s f g X k.toNat).1)), (0, vr 119), (1, vi g)], [], ((zFS I n s f m u d), zPp π, (zFD D t), 147)) (G := (zr (k + 1)) ∧ True) rfl ⟨by omega, trivial⟩ ?_
    refine z_sub [(9, vi (k + 1)), (8, vi ((zsc s f g X k.toNat).2.2.2)), (6, vd ((zsc s f g X k.toNat).2.2.1)), (5, vi ((zsc s f g X k.toNat).2.1)), (4, vi ((zsc s f g X k.toNat).1)), (0, vr 119), (1, vi g)] [0, 1, 2, 3, 4, 5, 6] rfl ?_
    refine z_lk (L1 := [(9, vi (k + 1)), (8, vi ((zsc s f g X (k + 1).toNat).2.2.2)), (6, vd ((zsc s f g X (k + 1).toNat).2.2.1)), (5, vi ((zsc s f g X (k + 1).toNat).2.1)), (4, vi ((zsc s f g X (k + 1).toNat).1)), (0, vr 119), (1, vi g)]) (by rw [zsc_s h0]; unfold zsc1; repeat (first | rw [if_pos (by assumption)] | rw [if_neg (by assumption)])) ?_
    exact ih (k + 1) (by omega) (by omega)
set_option maxRecDepth 20000 in
theorem m_fn1 {I : zI} {π : Int → Nat} {D : zD} {n m : Int} {s f u d : Int → Int} {t : Int → UInt64} {g : Int} {X : UInt64} (hn : 0 ≤ n ∧ n ≤ 9) (hm : 0 ≤ m ∧ m < 4) (hg : 0 ≤ g ∧ g ≤ 5000) (hs : ∀ j, 0 ≤ j → j < n → 0 ≤ s j ∧ s j ≤ 1000) (hq : ¬ (zsc s f g X n.toNat).1 = -1) : zMet 35 [vr 119, vi g, vd X] ((zFS I n s f m u d), zPp π, (zFD D t), 147) (some (vi 1)) (zFS I n s (zu1 (zu1 f (zsc s f g X n.toNat).1 1) (zsc s f g X n.toNat).2.1 1) (m + 1) (zu1 u m (zsc s f g X n.toNat).1) (zu1 d m (zsc s f g X n.toNat).2.1), zPp π, zFD D (zuD t m (zsc s f g X n.toNat).2.2.1), 147) := by
  refine z_n 10 (15, [(9, vi 0), (8, vi (-1)), (6, vd X), (5, vi (-1)), (4, vi (-1)), (0, vr 119), (1, vi g), (2, vd X)], [], ((zFS I n s f m u d), zPp π, (zFD D t), 147)) rfl trivial ?_
  refine z_sub [(9, vi 0), (8, vi (-1)), (6, vd X), (5, vi (-1)), (4, vi (-1)), (0, vr 119), (1, vi g)] [0, 1, 2, 3, 4, 5, 6] rfl ?_
  refine z_lk (L1 := [(9, vi 0), (8, vi ((zsc s f g X (0 : Int).toNat).2.2.2)), (6, vd ((zsc s f g X (0 : Int).toNat).2.2.1)), (5, vi ((zsc s f g X (0 : Int).toNat).2.1)), (4, vi ((zsc s f g X (0 : Int).toNat).1)), (0, vr 119), (1, vi g)]) (by rfl) ?_
  exact m_fn1_l hn hm hg hs hq n.toNat 0 (by omega) (by omega)
end
section
theorem zns_b {F : Int → Int} (w : zW1 F) : (0 ≤ zns F ∧ zns F ≤ 9) ∧ (zns F = 0 ∨ ((0 ≤ F 9 * F 6 ∧ F 9 * F 6 + zns F ≤ F 5) ∧ F 5 ≤ 24)) := by
  obtain ⟨⟨w1, w2⟩, ⟨w3, w4⟩, ⟨w5, w6⟩, ⟨w7, w8⟩, ⟨w9, w10⟩, w11, ⟨⟨w12, w12b⟩, w12c⟩, ⟨w13, w14⟩, ⟨w15, w16⟩⟩ := w
  unfold zns
  split
  · omega
  · split <;> omega
/-- the speed with which a starter is foretold: v for the crew c -/
def zsp (I : zI) (c v j : Int) : Int := if I 8 (I 2 9 * I 2 6 + j) = c then v else I 4 (I 8 (I 2 9 * I 2 6 + j))
def zso (I : zI) (c v k : Int) : Int → Int := fun j => if 0 ≤ j ∧ j < k then zsp I c v j else I 126 j
def zoo (I : zI) (k : Int) : Int → Int := fun j => if 0 ≤ j ∧ j < k then 0 else I 128 j
theorem zso_0 {I : zI} {c v : Int} : zso I c v 0 = I 126 := by
  funext j
  exact if_neg (by omega)
theorem zoo_0 {I : zI} : zoo I 0 = I 128 := by
  funext j
  exact if_neg (by omega)
theorem zoo_s {I : zI} {k : Int} (h : 0 ≤ k) : zu1 (zoo I k) k 0 = zoo I (k + 1) := by
  funext j
  unfold zu1 zoo
  by_cases e : j = k
  · rw [if_pos e, if_pos (by omega)]
  · rw [if_neg e]
    by_cases e2 : 0 ≤ j ∧ j < k
    · rw [if_pos e2, if_pos (by omega)]
    · rw [if_neg e2, if_neg (by omega)]
theorem zso_s {I : zI} {c v k x : Int} (h : 0 ≤ k) (hx : x = zsp I c v k) : zu1 (zso I c v k) k x = zso I c v (k + 1) := by
  funext j
  unfold zu1 zso
  by_cases e : j = k
  · rw [if_pos e, if_pos (by omega), hx, e]
  · rw [if_neg e]
    by_cases e2 : 0 ≤ j ∧ j < k
    · rw [if_pos e2, if_pos (by omega)]
    · rw [if_neg e2, if_neg (by omega)]
theorem zso_b {I : zI} {c v n : Int} (hp : ∀ j, 0 ≤ j → j < n → 0 ≤ I 4 (I 8 (I 2 9 * I 2 6 + j)) ∧ I 4 (I 8 (I 2 9 * I 2 6 + j)) ≤ 1000) (hv : 0 ≤ v ∧ v ≤ 1000) : ∀ j, 0 ≤ j → j < n → 0 ≤ zso I c v n j ∧ zso I c v n j ≤ 1000 := by
  intro j h0 h1
  unfold zso zsp
  rw [if_pos ⟨h0, h1⟩]
  split
  · exact hv
  · exact hp j h0 h1
def zFA0 (I : zI) (D : zD) : zFA := (zoo I (zns (I 2)), 0, I 121, I 123, D 124)
/-- what is foretold of the chart, were the speed of c v -/
def zFR (I : zI) (D : zD) (c v : Int) : zFA := zfi (zns (I 2)) (zso I c v (zns (I 2))) (I 2 10) (FP.i2d (Int32.ofInt (I 2 11))) (zFA0 I D) 4
def zFI (I : zI) (D : zD) (c v : Int) : zI := zFS I (zns (I 2)) (zso I c v (zns (I 2))) (zFR I D c v).1 (zFR I D c v).2.1 (zFR I D c v).2.2.1 (zFR I D c v).2.2.2.1
def zFDR (I : zI) (D : zD) (c v : Int) : zD := zFD D (zFR I D c v).2.2.2.2
set_option maxRecDepth 20000 in
theorem m_fw_l {I : zI} {π : Int → Nat} {D : zD} {n : Int} {s : Int → Int} {A : zFA} (hn : 0 ≤ n ∧ n ≤ 9) (hg : 0 ≤ I 2 10 ∧ I 2 10 ≤ 5000) (hs : ∀ j, 0 ≤ j → j < n → 0 ≤ s j ∧ s j ≤ 1000) (hA : A.2.1 = 0) : ∀ (N : Nat) (k q : Int), 0 ≤ k → k + N = 4 → (q = 0 ∨ q = 1) → (q = 0 → (zsc s (zfi n s (I 2 10) (FP.i2d (Int32.ofInt (I 2 11))) A k.toNat).1 (I 2 10) (FP.i2d (Int32.ofInt (I 2 11))) n.toNat).1 = -1) → zRuns 34 83 [(5, vi k), (4, vi q), (0, vr 119), (1, vr 2)] [] ((zFS I n s (zfi n s (I 2 10) (FP.i2d (Int32.ofInt (I 2 11))) A k.toNat).1 (zfi n s (I 2 10) (FP.i2d (Int32.ofInt (I 2 11))) A k.toNat).2.1 (zfi n s (I 2 10) (FP.i2d (Int32.ofInt (I 2 11))) A k.toNat).2.2.1 (zfi n s (I 2 10) (FP.i2d (Int32.ofInt (I 2 11))) A k.toNat).2.2.2.1), zPp π, (zFD D (zfi n s (I 2 10) (FP.i2d (Int32.ofInt (I 2 11))) A k.toNat).2.2.2.2), 147) none ((zFS I n s (zfi n s (I 2 10) (FP.i2d (Int32.ofInt (I 2 11))) A 4).1 (zfi n s (I 2 10) (FP.i2d (Int32.ofInt (I 2 11))) A 4).2.1 (zfi n s (I 2 10) (FP.i2d (Int32.ofInt (I 2 11))) A 4).2.2.1 (zfi n s (I 2 10) (FP.i2d (Int32.ofInt (I 2 11))) A 4).2.2.2.1), zPp π, (zFD D (zfi n s (I 2 10) (FP.i2d (Int32.ofInt (I 2 11))) A 4).2.2.2.2), 147) := by
  intro N
  induction N with
  | zero =>
    intro k q h0 hN hq2 hmo
    refine z_n 2 (86, [(5, vi k), (4, vi q), (0, vr 119), (1, vr 2)], [vi 4, vi k], ((zFS I n s (zfi n s (I 2 10) (FP.i2d (Int32.ofInt (I 2 11))) A k.toNat).1 (zfi n s (I 2 10) (FP.i2d (Int32.ofInt (I 2 11))) A k.toNat).2.1 (zfi n s (I 2 10) (FP.i2d (Int32.ofInt (I 2 11))) A k.toNat).2.2.1 (zfi n s (I 2 10) (FP.i2d (Int32.ofInt (I 2 11))) A k.toNat).2.2.2.1), zPp π, (zFD D (zfi n s (I 2 10) (FP.i2d (Int32.ofInt (I 2 11))) A k.toNat).2.2.2.2), 147)) rfl trivial ?_
    refine z_br (4 ≤ k) 115 89 [] rfl (fun hx1 => ?_) (fun h => absurd (show 4 ≤ k from by omega) h)
    exact z_ret rfl rfl (by rw [show k = 4 by omega]; rfl)
  | succ N ih =>
  intro k q h0 hN hq2 hmo
  have hm := zfi_m (n := n) (s := s) (g := I 2 10) (X := FP.i2d (Int32.ofInt (I 2 11))) hA k.toNat
  have hm : 0 ≤ (zfi n s (I 2 10) (FP.i2d (Int32.ofInt (I 2 11))) A k.toNat).2.1 ∧ (zfi n s (I 2 10) (FP.i2d (Int32.ofInt (I 2 11))) A k.toNat).2.1 < 4 := by omega
  have efx : q = 0 → (zfi n s (I 2 10) (FP.i2d (Int32.ofInt (I 2 11))) A 4) = (zfi n s (I 2 10) (FP.i2d (Int32.ofInt (I 2 11))) A k.toNat) := fun e => by
    have := zfi_fix (hmo e) (4 - k.toNat)
    rwa [show k.toNat + (4 - k.toNat) = 4 by omega] at this
  refine z_n 2 (86, [(5, vi k), (4, vi q), (0, vr 119), (1, vr 2)], [vi 4, vi k], ((zFS I n s (zfi n s (I 2 10) (FP.i2d (Int32.ofInt (I 2 11))) A k.toNat).1 (zfi n s (I 2 10) (FP.i2d (Int32.ofInt (I 2 11))) A k.toNat).2.1 (zfi n s (I 2 10) (FP.i2d (Int32.ofInt (I 2 11))) A k.toNat).2.2.1 (zfi n s (I 2 10) (FP.i2d (Int32.ofInt (I 2 11))) A k.toNat).2.2.2.1), zPp π, (zFD D (zfi n s (I 2 10) (FP.i2d (Int32.ofInt (I 2 11))) A k.toNat).2.2.2.2), 147)) rfl trivial ?_
  refine z_br (4 ≤ k) 115 89 [] rfl (fun h => absurd h (show ¬ (4 ≤ k) from by omega)) (fun hx1 => ?_)
  refine z_n 1 (91, [(5, vi k), (4, vi q), (0, vr 119), (1, vr 2)], [vi q], ((zFS I n s (zfi n s (I 2 10) (FP.i2d (Int32.ofInt (I 2 11))) A k.toNat).1 (zfi n s (I 2 10) (FP.i2d (Int32.ofInt (I 2 11))) A k.toNat).2.1 (zfi n s (I 2 10) (FP.i2d (Int32.ofInt (I 2 11))) A k.toNat).2.2.1 (zfi n s (I 2 10) (FP.i2d (Int32.ofInt (I 2 11))) A k.toNat).2.2.2.1), zPp π, (zFD D (zfi n s (I 2 10) (FP.i2d (Int32.ofInt (I 2 11))) A k.toNat).2.2.2.2), 147)) rfl trivial ?_
  refine z_br (q = 0) 115 94 [] rfl (fun hx2 => ?_) (fun hx2 => ?_)
  · exact z_ret rfl rfl (by rw [efx (by assumption)])
  · refine z_n 6 (104, [(5, vi k), (4, vi q), (0, vr 119), (1, vr 2)], [vd (FP.i2d (Int32.ofInt (I 2 11))), vi (I 2 10), vr 119], ((zFS I n s (zfi n s (I 2 10) (FP.i2d (Int32.ofInt (I 2 11))) A k.toNat).1 (zfi n s (I 2 10) (FP.i2d (Int32.ofInt (I 2 11))) A k.toNat).2.1 (zfi n s (I 2 10) (FP.i2d (Int32.ofInt (I 2 11))) A k.toNat).2.2.1 (zfi n s (I 2 10) (FP.i2d (Int32.ofInt (I 2 11))) A k.toNat).2.2.2.1), zPp π, (zFD D (zfi n s (I 2 10) (FP.i2d (Int32.ofInt (I 2 11))) A k.toNat).2.2.2.2), 147)) rfl trivial ?_
    by_cases hx3 : (zsc s (zfi n s (I 2 10) (FP.i2d (Int32.ofInt (I 2 11))) A k.toNat).1 (I 2 10) (FP.i2d (Int32.ofInt (I 2 11))) n.toNat).1 = -1
    · have hq := hx3
      refine z_ci 35 [vr 119, vi (I 2 10), vd (FP.i2d (Int32.ofInt (I 2 11)))] [] rfl (m_fn0 hn hm hg hs hx3) ?_
      refine z_n 3 (83, [(5, vi (k + 1)), (4, vi 0), (0, vr 119), (1, vr 2)], [], ((zFS I n s (zfi n s (I 2 10) (FP.i2d (Int32.ofInt (I 2 11))) A k.toNat).1 (zfi n s (I 2 10) (FP.i2d (Int32.ofInt (I 2 11))) A k.toNat).2.1 (zfi n s (I 2 10) (FP.i2d (Int32.ofInt (I 2 11))) A k.toNat).2.2.1 (zfi n s (I 2 10) (FP.i2d (Int32.ofInt (I 2 11))) A k.toNat).2.2.2.1), zPp π, (zFD D (zfi n s (I 2 10) (FP.i2d (Int32.ofInt (I 2 11))) A k.toNat).2.2.2.2), 147)) (G := (zr (k + 1)) ∧ True) rfl ⟨by omega, trivial⟩ ?_
      refine z_sub [(5, vi (k + 1)), (4, vi 0), (0, vr 119), (1, vr 2)] [0, 1, 2, 3] rfl ?_
      have e1 : (zfi n s (I 2 10) (FP.i2d (Int32.ofInt (I 2 11))) A (k + 1).toNat) = (zfi n s (I 2 10) (FP.i2d (Int32.ofInt (I 2 11))) A k.toNat) := by rw [zfi_s h0]; unfold zf1; rw [if_pos hq]
      refine z_st (σ1 := ((zFS I n s (zfi n s (I 2 10) (FP.i2d (Int32.ofInt (I 2 11))) A (k + 1).toNat).1 (zfi n s (I 2 10) (FP.i2d (Int32.ofInt (I 2 11))) A (k + 1).toNat).2.1 (zfi n s (I 2 10) (FP.i2d (Int32.ofInt (I 2 11))) A (k + 1).toNat).2.2.1 (zfi n s (I 2 10) (FP.i2d (Int32.ofInt (I 2 11))) A (k + 1).toNat).2.2.2.1), zPp π, (zFD D (zfi n s (I 2 10) (FP.i2d (Int32.ofInt (I 2 11))) A (k + 1).toNat).2.2.2.2), 147)) (by rw [e1]) ?_
      exact ih (k + 1) 0 (by omega) (by omega) (by omega) (fun _ => by rw [e1]; exact hq)
    · have hq := hx3
      refine z_ci 35 [vr 119, vi (I 2 10), vd (FP.i2d (Int32.ofInt (I 2 11)))] [] rfl (m_fn1 hn hm hg hs hx3) ?_
      refine z_n 3 (83, [(5, vi (k + 1)), (4, vi 1), (0, vr 119), (1, vr 2)], [], ((zFS I n s (zu1 (zu1 (zfi n s (I 2 10) (FP.i2d (Int32.ofInt (I 2 11))) A k.toNat).1 (zsc s (zfi n s (I 2 10) (FP.i2d (Int32.ofInt (I 2 11))) A k.toNat).1 (I 2 10) (FP.i2d (Int32.ofInt (I 2 11))) n.toNat).1 1) (zsc s (zfi n s (I 2 10) (FP.i2d (Int32.ofInt (I 2 11))) A k.toNat).1 (I 2 10) (FP.i2d (Int32.ofInt (I 2 11))) n.toNat).2.1 1) ((zfi n s (I 2 10) (FP.i2d (Int32.ofInt (I 2 11))) A k.toNat).2.1 + 1) (zu1 (zfi n s (I 2 10) (FP.i2d (Int32.ofInt (I 2 11))) A k.toNat).2.2.1 (zfi n s (I 2 10) (FP.i2d (Int32.ofInt (I 2 11))) A k.toNat).2.1 (zsc s (zfi n s (I 2 10) (FP.i2d (Int32.ofInt (I 2 11))) A k.toNat).1 (I 2 10) (FP.i2d (Int32.ofInt (I 2 11))) n.toNat).1) (zu1 (zfi n s (I 2 10) (FP.i2d (Int32.ofInt (I 2 11))) A k.toNat).2.2.2.1 (zfi n s (I 2 10) (FP.i2d (Int32.ofInt (I 2 11))) A k.toNat).2.1 (zsc s (zfi n s (I 2 10) (FP.i2d (Int32.ofInt (I 2 11))) A k.toNat).1 (I 2 10) (FP.i2d (Int32.ofInt (I 2 11))) n.toNat).2.1)), zPp π, (zFD D (zuD (zfi n s (I 2 10) (FP.i2d (Int32.ofInt (I 2 11))) A k.toNat).2.2.2.2 (zfi n s (I 2 10) (FP.i2d (Int32.ofInt (I 2 11))) A k.toNat).2.1 (zsc s (zfi n s (I 2 10) (FP.i2d (Int32.ofInt (I 2 11))) A k.toNat).1 (I 2 10) (FP.i2d (Int32.ofInt (I 2 11))) n.toNat).2.2.1)), 147)) (G := (zr (k + 1)) ∧ True) rfl ⟨by omega, trivial⟩ ?_
      refine z_sub [(5, vi (k + 1)), (4, vi 1), (0, vr 119), (1, vr 2)] [0, 1, 2, 3] rfl ?_
      refine z_st (σ1 := ((zFS I n s (zfi n s (I 2 10) (FP.i2d (Int32.ofInt (I 2 11))) A (k + 1).toNat).1 (zfi n s (I 2 10) (FP.i2d (Int32.ofInt (I 2 11))) A (k + 1).toNat).2.1 (zfi n s (I 2 10) (FP.i2d (Int32.ofInt (I 2 11))) A (k + 1).toNat).2.2.1 (zfi n s (I 2 10) (FP.i2d (Int32.ofInt (I 2 11))) A (k + 1).toNat).2.2.2.1), zPp π, (zFD D (zfi n s (I 2 10) (FP.i2d (Int32.ofInt (I 2 11))) A (k + 1).toNat).2.2.2.2), 147)) (by rw [zfi_s h0]; unfold zf1; rw [if_neg hq]) ?_
      exact ih (k + 1) 1 (by omega) (by omega) (by omega) (fun h => absurd h (by omega))
set_option maxRecDepth 20000 in
theorem m_fw_k {I : zI} {π : Int → Nat} {D : zD} {c v : Int} (w : zW1 (I 2)) (v2 : zW2 (I 2) (I 6) (I 8)) (hsp : ∀ c, 0 ≤ c → c < I 2 5 → 0 ≤ I 4 c ∧ I 4 c ≤ 1000) (hv : 0 ≤ v ∧ v ≤ 1000) : ∀ (N : Nat) (k : Int), 0 ≤ k → k + N = zns (I 2) → zRuns 34 11 [(4, vi k), (0, vr 119), (1, vr 2), (2, vi c), (3, vi v)] [] ((zFS I (zns (I 2)) (zso I c v k) (zoo I k) (I 119 2) (I 121) (I 123)), zPp π, D, 147) none ((zFI I D c v), zPp π, (zFDR I D c v), 147) := by
  obtain ⟨⟨w1, w2⟩, ⟨w3, w4⟩, ⟨w5, w6⟩, ⟨w7, w8⟩, ⟨w9, w10⟩, w11, ⟨⟨w12, w12b⟩, w12c⟩, ⟨w13, w14⟩, ⟨w15, w16⟩⟩ := id w
  have hnb := zns_b w
  have hpp : ∀ j, 0 ≤ j → j < zns (I 2) → 0 ≤ I 4 (I 8 (I 2 9 * I 2 6 + j)) ∧ I 4 (I 8 (I 2 9 * I 2 6 + j)) ≤ 1000 := fun j a b => hsp _ (v2.2.1 _ (by omega) (by omega)).1 (v2.2.1 _ (by omega) (by omega)).2.1
  intro N
  induction N with
  | zero =>
    intro k h0 hN
    refine z_n 3 (17, [(4, vi k), (0, vr 119), (1, vr 2), (2, vi c), (3, vi v)], [vi (zns (I 2)), vi k], ((zFS I (zns (I 2)) (zso I c v k) (zoo I k) (I 119 2) (I 121) (I 123)), zPp π, D, 147)) rfl trivial ?_
    refine z_br ((zns (I 2)) ≤ k) 72 20 [] rfl (fun hx1 => ?_) (fun h => absurd (show (zns (I 2)) ≤ k from by omega) h)
    refine z_n 7 (83, [(5, vi 0), (4, vi 1), (0, vr 119), (1, vr 2), (2, vi c), (3, vi v)], [], ((zup (zFS I (zns (I 2)) (zso I c v k) (zoo I k) (I 119 2) (I 121) (I 123)) 119 2 0), zPp π, D, 147)) rfl trivial ?_
    refine z_sub [(5, vi 0), (4, vi 1), (0, vr 119), (1, vr 2)] [0, 1, 2, 3] rfl ?_
    refine z_st (σ1 := (zFS I (zns (I 2)) (zso I c v (zns (I 2))) (zfi (zns (I 2)) (zso I c v (zns (I 2))) (I 2 10) (FP.i2d (Int32.ofInt (I 2 11))) (zFA0 I D) (0 : Int).toNat).1 (zfi (zns (I 2)) (zso I c v (zns (I 2))) (I 2 10) (FP.i2d (Int32.ofInt (I 2 11))) (zFA0 I D) (0 : Int).toNat).2.1 (zfi (zns (I 2)) (zso I c v (zns (I 2))) (I 2 10) (FP.i2d (Int32.ofInt (I 2 11))) (zFA0 I D) (0 : Int).toNat).2.2.1 (zfi (zns (I 2)) (zso I c v (zns (I 2))) (I 2 10) (FP.i2d (Int32.ofInt (I 2 11))) (zFA0 I D) (0 : Int).toNat).2.2.2.1, zPp π, zFD D (zfi (zns (I 2)) (zso I c v (zns (I 2))) (I 2 10) (FP.i2d (Int32.ofInt (I 2 11))) (zFA0 I D) (0 : Int).toNat).2.2.2.2, 147)) (by rw [zFS_m, show k = zns (I 2) by omega]; show (_, _, D, 147) = (_, _, zFD D (D 124), 147); rw [zFD_id]; rfl) ?_
    exact m_fw_l hnb.1 ⟨by omega, by omega⟩ (zso_b hpp hv) rfl 4 0 1 (by omega) (by omega) (by omega) (fun h => absurd h (by omega))
  | succ N ih =>
  intro k h0 hN
  have hq := v2.2.1 (I 2 9 * I 2 6 + k) (by omega) (by omega)
  refine z_n 3 (17, [(4, vi k), (0, vr 119), (1, vr 2), (2, vi c), (3, vi v)], [vi (zns (I 2)), vi k], ((zFS I (zns (I 2)) (zso I c v k) (zoo I k) (I 119 2) (I 121) (I 123)), zPp π, D, 147)) rfl trivial ?_
  refine z_br ((zns (I 2)) ≤ k) 72 20 [] rfl (fun h => absurd h (show ¬ ((zns (I 2)) ≤ k) from by omega)) (fun hx1 => ?_)
  refine z_n 2 (23, [(4, vi k), (0, vr 119), (1, vr 2), (2, vi c), (3, vi v)], [vi k, vr 2], ((zFS I (zns (I 2)) (zso I c v k) (zoo I k) (I 119 2) (I 121) (I 123)), zPp π, D, 147)) rfl trivial ?_
  refine z_ci 13 [vr 2, vi k] [] rfl (m_starterAt (show zW1 (I 2) from w) (show 0 ≤ I 2 9 * I 2 6 + k from by omega) (show I 2 9 * I 2 6 + k < 24 from by omega)) ?_
  refine z_n 6 (37, [(5, vi (I 8 (I 2 9 * I 2 6 + k))), (4, vi k), (0, vr 119), (1, vr 2), (2, vi c), (3, vi v)], [vi c, vi (I 8 (I 2 9 * I 2 6 + k)), vi k, vr 125], ((zFS I (zns (I 2)) (zso I c v k) (zoo I k) (I 119 2) (I 121) (I 123)), zPp π, D, 147)) rfl trivial ?_
  refine z_br (¬ (I 8 (I 2 9 * I 2 6 + k)) = c) 44 40 [vi k, vr 125] rfl (fun hx2 => ?_) (fun hx2 => ?_)
  · refine z_n 3 (50, [(5, vi (I 8 (I 2 9 * I 2 6 + k))), (4, vi k), (0, vr 119), (1, vr 2), (2, vi c), (3, vi v)], [vi (I 8 (I 2 9 * I 2 6 + k)), vr 3, vi k, vr 125], ((zFS I (zns (I 2)) (zso I c v k) (zoo I k) (I 119 2) (I 121) (I 123)), zPp π, D, 147)) rfl trivial ?_
    refine z_ci 1 [vr 3, vi (I 8 (I 2 9 * I 2 6 + k))] [vi k, vr 125] rfl (m_get (n := 24) ⟨rfl, rfl, rfl, rfl⟩ (by omega) (by omega)) ?_
    refine z_cv 2 [vr 125, vi k, vi (I 4 (I 8 (I 2 9 * I 2 6 + k)))] [] rfl (m_put (n := 9) ⟨rfl, rfl, rfl, rfl⟩ (by omega) (by omega)) ?_
    refine z_n 4 (63, [(5, vi (I 8 (I 2 9 * I 2 6 + k))), (4, vi k), (0, vr 119), (1, vr 2), (2, vi c), (3, vi v)], [vi 0, vi k, vr 127], ((zup (zFS I (zns (I 2)) (zso I c v k) (zoo I k) (I 119 2) (I 121) (I 123)) 126 k (I 4 (I 8 (I 2 9 * I 2 6 + k)))), zPp π, D, 147)) rfl trivial ?_
    refine z_cv 2 [vr 127, vi k, vi 0] [] rfl (m_put (n := 9) ⟨rfl, rfl, rfl, rfl⟩ (by omega) (by omega)) ?_
    refine z_n 2 (11, [(4, vi (k + 1)), (5, vi (I 8 (I 2 9 * I 2 6 + k))), (0, vr 119), (1, vr 2), (2, vi c), (3, vi v)], [], ((zup (zup (zFS I (zns (I 2)) (zso I c v k) (zoo I k) (I 119 2) (I 121) (I 123)) 126 k (I 4 (I 8 (I 2 9 * I 2 6 + k)))) 128 k 0), zPp π, D, 147)) (G := (zr (k + 1)) ∧ True) rfl ⟨by omega, trivial⟩ ?_
    refine z_sub [(4, vi (k + 1)), (0, vr 119), (1, vr 2), (2, vi c), (3, vi v)] [0, 2, 3, 4, 5] rfl ?_
    refine z_st (σ1 := ((zFS I (zns (I 2)) (zso I c v (k + 1)) (zoo I (k + 1)) (I 119 2) (I 121) (I 123)), zPp π, D, 147)) (by rw [zFS_126, zFS_128, zoo_s h0, zso_s h0 (by unfold zsp; first | rw [if_pos (by omega)] | rw [if_neg (by omega)])]) ?_
    exact ih (k + 1) (by omega) (by omega)
  · refine z_n 2 (53, [(5, vi (I 8 (I 2 9 * I 2 6 + k))), (4, vi k), (0, vr 119), (1, vr 2), (2, vi c), (3, vi v)], [vi v, vi k, vr 125], ((zFS I (zns (I 2)) (zso I c v k) (zoo I k) (I 119 2) (I 121) (I 123)), zPp π, D, 147)) rfl trivial ?_
    refine z_cv 2 [vr 125, vi k, vi v] [] rfl (m_put (n := 9) ⟨rfl, rfl, rfl, rfl⟩ (by omega) (by omega)) ?_
    refine z_n 4 (63, [(5, vi (I 8 (I 2 9 * I 2 6 + k))), (4, vi k), (0, vr 119), (1, vr 2), (2, vi c), (3, vi v)], [vi 0, vi k, vr 127], ((zup (zFS I (zns (I 2)) (zso I c v k) (zoo I k) (I 119 2) (I 121) (I 123)) 126 k v), zPp π, D, 147)) rfl trivial ?_
    refine z_cv 2 [vr 127, vi k, vi 0] [] rfl (m_put (n := 9) ⟨rfl, rfl, rfl, rfl⟩ (by omega) (by omega)) ?_
    refine z_n 2 (11, [(4, vi (k + 1)), (5, vi (I 8 (I 2 9 * I 2 6 + k))), (0, vr 119), (1, vr 2), (2, vi c), (3, vi v)], [], ((zup (zup (zFS I (zns (I 2)) (zso I c v k) (zoo I k) (I 119 2) (I 121) (I 123)) 126 k v) 128 k 0), zPp π, D, 147)) (G := (zr (k + 1)) ∧ True) rfl ⟨by omega, trivial⟩ ?_
    refine z_sub [(4, vi (k + 1)), (0, vr 119), (1, vr 2), (2, vi c), (3, vi v)] [0, 2, 3, 4, 5] rfl ?_
    refine z_st (σ1 := ((zFS I (zns (I 2)) (zso I c v (k + 1)) (zoo I (k + 1)) (I 119 2) (I 121) (I 123)), zPp π, D, 147)) (by rw [zFS_126, zFS_128, zoo_s h0, zso_s h0 (by unfold zsp; first | rw [if_pos (by omega)] | rw [if_neg (by omega)])]) ?_
    exact ih (k + 1) (by omega) (by omega)
set_option maxRecDepth 20000 in
theorem m_fwith {I : zI} {π : Int → Nat} {D : zD} {c v : Int} (w : zW1 (I 2)) (v2 : zW2 (I 2) (I 6) (I 8)) (hsp : ∀ c, 0 ≤ c → c < I 2 5 → 0 ≤ I 4 c ∧ I 4 c ≤ 1000) (hv : 0 ≤ v ∧ v ≤ 1000) : zMet 34 [vr 119, vr 2, vi c, vi v] (I, zPp π, D, 147) none ((zFI I D c v), zPp π, (zFDR I D c v), 147) := by
  refine z_n 2 (2, [(0, vr 119), (1, vr 2), (2, vi c), (3, vi v)], [vr 2, vr 119], (I, zPp π, D, 147)) rfl trivial ?_
  refine z_ci 12 [vr 2] [vr 119] rfl (m_starters w) ?_
  refine z_n 3 (11, [(4, vi 0), (0, vr 119), (1, vr 2), (2, vi c), (3, vi v)], [], ((zup I 119 6 (zns (I 2))), zPp π, D, 147)) rfl trivial ?_
  refine z_sub [(4, vi 0), (0, vr 119), (1, vr 2), (2, vi c), (3, vi v)] [0, 1, 2, 3, 4] rfl ?_
  refine z_st (σ1 := ((zFS I (zns (I 2)) (zso I c v 0) (zoo I 0) (I 119 2) (I 121) (I 123)), zPp π, D, 147)) (by rw [zFS_n, zso_0, zoo_0]) ?_
  exact m_fw_k w v2 hsp hv (zns (I 2)).toNat 0 (by omega) (by have := (zns_b w).1.1; omega)
set_option maxRecDepth 20000 in
theorem m_fore {I : zI} {π : Int → Nat} {D : zD}  (w : zW1 (I 2)) (v2 : zW2 (I 2) (I 6) (I 8)) (hsp : ∀ c, 0 ≤ c → c < I 2 5 → 0 ≤ I 4 c ∧ I 4 c ≤ 1000) : zMet 33 [vr 119, vr 2] (I, zPp π, D, 147) none ((zFI I D (-1) 0), zPp π, (zFDR I D (-1) 0), 147) := by
  refine z_n 4 (4, [(0, vr 119), (1, vr 2)], [vi 0, vi (-1), vr 2, vr 119], (I, zPp π, D, 147)) rfl trivial ?_
  refine z_cv 34 [vr 119, vr 2, vi (-1), vi 0] [] rfl (m_fwith w v2 hsp ⟨by omega, by omega⟩) ?_
  first | exact z_ret rfl rfl rfl | exact z_ret rfl (zv1 (by omega)) rfl | (exfalso; omega)
set_option maxRecDepth 20000 in
theorem m_time {I : zI} {π : Int → Nat} {D : zD} {k : Int} (h : 0 ≤ k ∧ k < 4) : zMet 37 [vr 119, vi k] (I, zPp π, D, 147) (some (vd (D 124 k))) (I, zPp π, D, 147) := by
  refine z_n 1 (1, [(0, vr 119), (1, vi k)], [vi k], (I, zPp π, D, 147)) rfl trivial ?_
  refine z_br (k < 0) 22 4 [] rfl (fun h => absurd h (show ¬ (k < 0) from by omega)) (fun hx1 => ?_)
  refine z_n 4 (10, [(0, vr 119), (1, vi k)], [vi 4, vi k], (I, zPp π, D, 147)) rfl trivial ?_
  refine z_br (4 ≤ k) 22 13 [] rfl (fun h => absurd h (show ¬ (4 ≤ k) from by omega)) (fun hx2 => ?_)
  refine z_n 5 (23, [(0, vr 119), (1, vi k)], [vd (D 124 k)], (I, zPp π, D, 147)) (G := (0 ≤ k ∧ k < 4) ∧ True) rfl ⟨by omega, trivial⟩ ?_
  first | exact z_ret rfl rfl rfl | exact z_ret rfl (zv1 (by omega)) rfl | (exfalso; omega)
set_option maxRecDepth 20000 in
theorem m_hup_l1 {I : zI} {π : Int → Nat} {D : zD} {c : Int} (hM : 0 ≤ I 119 2 ∧ I 119 2 ≤ 4) : ∀ (n : Nat) (k : Int), 0 ≤ k → k + n = I 119 2 → (∃ j, k ≤ j ∧ j < I 119 2 ∧ I 121 j = c) → zRuns 38 2 [(2, vi k), (0, vr 119), (1, vi c)] [] (I, zPp π, D, 147) (some (vi 1)) (I, zPp π, D, 147) := by
  intro n
  induction n with
  | zero => intro k h0 hn hj; obtain ⟨j, a1, a2, a3⟩ := hj; exfalso; omega
  | succ n ih =>
  intro k h0 hn hj
  refine z_n 3 (7, [(2, vi k), (0, vr 119), (1, vi c)], [vi (I 119 2), vi k], (I, zPp π, D, 147)) rfl trivial ?_
  refine z_br ((I 119 2) ≤ k) 30 10 [] rfl (fun h => absurd h (show ¬ ((I 119 2) ≤ k) from by omega)) (fun hx1 => ?_)
  refine z_n 3 (15, [(2, vi k), (0, vr 119), (1, vi c)], [vi k, vr 120], (I, zPp π, D, 147)) rfl trivial ?_
  refine z_ci 1 [vr 120, vi k] [] rfl (m_get (n := 4) ⟨rfl, rfl, rfl, rfl⟩ (by omega) (by omega)) ?_
  refine z_n 1 (19, [(2, vi k), (0, vr 119), (1, vi c)], [vi c, vi (I 121 k)], (I, zPp π, D, 147)) rfl trivial ?_
  refine z_br (¬ (I 121 k) = c) 24 22 [] rfl (fun hx2 => ?_) (fun hx2 => ?_)
  · refine z_n 2 (2, [(2, vi (k + 1)), (0, vr 119), (1, vi c)], [], (I, zPp π, D, 147)) (G := (zr (k + 1)) ∧ True) rfl ⟨by omega, trivial⟩ ?_
    refine z_sub [(2, vi (k + 1)), (0, vr 119), (1, vi c)] [0, 1, 2] rfl ?_
    exact ih (k + 1) (by omega) (by omega) (by obtain ⟨j, a1, a2, a3⟩ := hj; refine ⟨j, ?_, a2, a3⟩; rcases Int.lt_or_lt_of_ne (show j ≠ k by rintro rfl; contradiction) with a | a <;> omega)
  · refine z_n 1 (23, [(2, vi k), (0, vr 119), (1, vi c)], [vi 1], (I, zPp π, D, 147)) rfl trivial ?_
    first | exact z_ret rfl rfl rfl | exact z_ret rfl (zv1 (by omega)) rfl | (exfalso; omega)
set_option maxRecDepth 20000 in
theorem m_hup_l0 {I : zI} {π : Int → Nat} {D : zD} {c : Int} (hM : 0 ≤ I 119 2 ∧ I 119 2 ≤ 4) : ∀ (n : Nat) (k : Int), 0 ≤ k → k + n = I 119 2 → (¬ ∃ j, 0 ≤ j ∧ j < I 119 2 ∧ I 121 j = c) → zRuns 38 2 [(2, vi k), (0, vr 119), (1, vi c)] [] (I, zPp π, D, 147) (some (vi 0)) (I, zPp π, D, 147) := by
  intro n
  induction n with
  | zero =>
    intro k h0 hn hj
    refine z_n 3 (7, [(2, vi k), (0, vr 119), (1, vi c)], [vi (I 119 2), vi k], (I, zPp π, D, 147)) rfl trivial ?_
    refine z_br ((I 119 2) ≤ k) 30 10 [] rfl (fun hx1 => ?_) (fun h => absurd (show (I 119 2) ≤ k from by omega) h)
    refine z_n 1 (31, [(2, vi k), (0, vr 119), (1, vi c)], [vi 0], (I, zPp π, D, 147)) rfl trivial ?_
    first | exact z_ret rfl rfl rfl | exact z_ret rfl (zv1 (by omega)) rfl | (exfalso; omega)
  | succ n ih =>
  intro k h0 hn hj
  refine z_n 3 (7, [(2, vi k), (0, vr 119), (1, vi c)], [vi (I 119 2), vi k], (I, zPp π, D, 147)) rfl trivial ?_
  refine z_br ((I 119 2) ≤ k) 30 10 [] rfl (fun h => absurd h (show ¬ ((I 119 2) ≤ k) from by omega)) (fun hx1 => ?_)
  refine z_n 3 (15, [(2, vi k), (0, vr 119), (1, vi c)], [vi k, vr 120], (I, zPp π, D, 147)) rfl trivial ?_
  refine z_ci 1 [vr 120, vi k] [] rfl (m_get (n := 4) ⟨rfl, rfl, rfl, rfl⟩ (by omega) (by omega)) ?_
  refine z_n 1 (19, [(2, vi k), (0, vr 119), (1, vi c)], [vi c, vi (I 121 k)], (I, zPp π, D, 147)) rfl trivial ?_
  refine z_br (¬ (I 121 k) = c) 24 22 [] rfl (fun hx2 => ?_) (fun h => absurd (show ¬ (I 121 k) = c from fun e => hj ⟨k, h0, by omega, e⟩) h)
  refine z_n 2 (2, [(2, vi (k + 1)), (0, vr 119), (1, vi c)], [], (I, zPp π, D, 147)) (G := (zr (k + 1)) ∧ True) rfl ⟨by omega, trivial⟩ ?_
  refine z_sub [(2, vi (k + 1)), (0, vr 119), (1, vi c)] [0, 1, 2] rfl ?_
  exact ih (k + 1) (by omega) (by omega) hj
set_option maxRecDepth 20000 in
theorem m_hup1 {I : zI} {π : Int → Nat} {D : zD} {c : Int} (hM : 0 ≤ I 119 2 ∧ I 119 2 ≤ 4) (hj : ∃ j, 0 ≤ j ∧ j < I 119 2 ∧ I 121 j = c) : zMet 38 [vr 119, vi c] (I, zPp π, D, 147) (some (vi 1)) (I, zPp π, D, 147) := by
  refine z_n 2 (2, [(2, vi 0), (0, vr 119), (1, vi c)], [], (I, zPp π, D, 147)) rfl trivial ?_
  refine z_sub [(2, vi 0), (0, vr 119), (1, vi c)] [0, 1, 2] rfl ?_
  exact m_hup_l1 hM (I 119 2).toNat 0 (by omega) (by omega) hj
set_option maxRecDepth 20000 in
theorem m_hup0 {I : zI} {π : Int → Nat} {D : zD} {c : Int} (hM : 0 ≤ I 119 2 ∧ I 119 2 ≤ 4) (hj : ¬ ∃ j, 0 ≤ j ∧ j < I 119 2 ∧ I 121 j = c) : zMet 38 [vr 119, vi c] (I, zPp π, D, 147) (some (vi 0)) (I, zPp π, D, 147) := by
  refine z_n 2 (2, [(2, vi 0), (0, vr 119), (1, vi c)], [], (I, zPp π, D, 147)) rfl trivial ?_
  refine z_sub [(2, vi 0), (0, vr 119), (1, vi c)] [0, 1, 2] rfl ?_
  exact m_hup_l0 hM (I 119 2).toNat 0 (by omega) (by omega) hj
end
section
/-- the sign at a place, 0 behind the end -/
def zsg (T : Int → Int) (l p : Int) : Int := if p < l then T p else 0
/-- how many digits begin at a place, two at most -/
def zdg (G : Int → Int) (p : Int) : Int := if 48 ≤ G p ∧ G p ≤ 57 then (if 48 ≤ G (p + 1) ∧ G (p + 1) ≤ 57 then 2 else 1) else 0
theorem zdg_b {G : Int → Int} {p : Int} : 0 ≤ zdg G p ∧ zdg G p ≤ 2 := by
  unfold zdg
  split
  · split <;> omega
  · omega
/-- the number of so many digits -/
def zvln (G : Int → Int) (p d : Int) : Int := if d = 0 then 0 else if d = 1 then G p - 48 else (G p - 48) * 10 + G (p + 1) - 48
/-- where the dash, where the end is sought -/
abbrev zda (G : Int → Int) (p : Int) : Int := p + zdg G p
abbrev zen (G : Int → Int) (p : Int) : Int := p + zdg G p + 1 + zdg G (p + zdg G p + 1)
abbrev zua (G : Int → Int) (p : Int) : Int := zvln G p (zdg G p)
abbrev zub (G : Int → Int) (p : Int) : Int := zvln G (p + zdg G p + 1) (zdg G (p + zdg G p + 1))
/-- a bump stands there -/
def zfm (G : Int → Int) (p : Int) : Prop := G (zda G p) = 45 ∧ G (zen G p) = 59 ∧ 0 < zdg G p ∧ 0 < zdg G (p + zdg G p + 1)
theorem zsg_b {T : Int → Int} {l p : Int} (hl : l ≤ 80) (ht : ∀ p, 0 ≤ p → p < 80 → 0 ≤ T p ∧ T p ≤ 126) (hp : 0 ≤ p) : 0 ≤ zsg T l p ∧ zsg T l p ≤ 126 := by
  unfold zsg
  split
  · exact ht p hp (by omega)
  · omega
/-- the numbers read last -/
def zRd (I : zI) (a b c : Int) : zI := zup (zup (zup I 129 6 a) 129 7 b) 129 8 c
theorem zRd_id {I : zI} : zRd I (I 129 6) (I 129 7) (I 129 8) = I := by
  unfold zRd
  rw [zup_id]
  have h : zup I 129 7 (I 129 7) = I := zup_id
  rw [h]
  exact zup_id
set_option maxRecDepth 20000 in
theorem m_append {I : zI} {π : Int → Nat} {D : zD} {c : Int} (hl : 0 ≤ I 129 0 ∧ I 129 0 < 80) : zMet 59 [vr 129, vi c] (I, zPp π, D, 147) none ((zup (zup I 136 (I 129 0) c) 129 0 (I 129 0 + 1)), zPp π, D, 147) := by
  refine z_n 3 (6, [(0, vr 129), (1, vi c)], [vi 80, vi (I 129 0)], (I, zPp π, D, 147)) rfl trivial ?_
  refine z_br (80 ≤ (I 129 0)) 31 9 [] rfl (fun h => absurd h (show ¬ (80 ≤ (I 129 0)) from by omega)) (fun hx1 => ?_)
  refine z_n 5 (18, [(0, vr 129), (1, vi c)], [vi c, vi (I 129 0), vr 135], (I, zPp π, D, 147)) rfl trivial ?_
  refine z_cv 2 [vr 135, vi (I 129 0), vi c] [] rfl (m_put (n := 80) ⟨rfl, rfl, rfl, rfl⟩ (by omega) (by omega)) ?_
  refine z_n 6 (31, [(0, vr 129), (1, vi c)], [], ((zup (zup I 136 (I 129 0) c) 129 0 ((I 129 0) + 1)), zPp π, D, 147)) (G := (zr ((I 129 0) + 1)) ∧ True) rfl ⟨by omega, trivial⟩ ?_
  first | exact z_ret rfl rfl rfl | exact z_ret rfl (zv1 (by omega)) rfl | (exfalso; omega)
set_option maxRecDepth 20000 in
theorem m_sign {I : zI} {π : Int → Nat} {D : zD} {p q : Int} (hl : 0 ≤ I 129 0 ∧ I 129 0 ≤ 80) (hp : 0 ≤ p) (e : q = p) : zMet 64 [vr 129, vi q] (I, zPp π, D, 147) (some (vi (zsg (I 136) (I 129 0) p))) (I, zPp π, D, 147) := by
  subst e
  refine z_n 3 (5, [(0, vr 129), (1, vi q)], [vi (I 129 0), vi q], (I, zPp π, D, 147)) rfl trivial ?_
  refine z_br ((I 129 0) ≤ q) 19 8 [] rfl (fun hx1 => ?_) (fun hx1 => ?_)
  · refine z_n 1 (20, [(0, vr 129), (1, vi q)], [vi 0], (I, zPp π, D, 147)) rfl trivial ?_
    exact z_ret rfl (zv1 (by unfold zsg; first | rw [if_pos (by omega)] | rw [if_neg (by omega)])) rfl
  · refine z_n 3 (13, [(0, vr 129), (1, vi q)], [vi q, vr 135], (I, zPp π, D, 147)) rfl trivial ?_
    refine z_ci 1 [vr 135, vi q] [] rfl (m_get (n := 80) ⟨rfl, rfl, rfl, rfl⟩ (by omega) (by omega)) ?_
    refine z_n 1 (20, [(0, vr 129), (1, vi q)], [vi (I 136 q)], (I, zPp π, D, 147)) rfl trivial ?_
    exact z_ret rfl (zv1 (by unfold zsg; first | rw [if_pos (by omega)] | rw [if_neg (by omega)])) rfl
set_option maxRecDepth 20000 in
theorem m_dig {I : zI} {π : Int → Nat} {D : zD} {p : Int} (hl : 0 ≤ I 129 0 ∧ I 129 0 ≤ 80) (h0 : 0 ≤ p ∧ p ≤ 1000) : zMet 62 [vr 129, vi p] (I, zPp π, D, 147) (some (vi (zdg (zsg (I 136) (I 129 0)) p))) (I, zPp π, D, 147) := by
  refine z_n 4 (4, [(2, vi 0), (0, vr 129), (1, vi p)], [vi 2, vi 0], (I, zPp π, D, 147)) rfl trivial ?_
  refine z_br (2 ≤ (0 : Int)) 37 7 [] rfl (fun h => absurd h (show ¬ (2 ≤ (0 : Int)) from by decide)) (fun hx1 => ?_)
  refine z_n 4 (11, [(2, vi 0), (0, vr 129), (1, vi p)], [vi (p + 0), vr 129], (I, zPp π, D, 147)) (G := (zr (p + 0)) ∧ True) rfl ⟨by omega, trivial⟩ ?_
  refine z_ci 64 [vr 129, vi (p + 0)] [] rfl (m_sign hl (p := p) (by omega) (by omega)) ?_
  refine z_n 1 (16, [(2, vi 0), (0, vr 129), (1, vi p)], [vi 48, vi (zsg (I 136) (I 129 0) p)], (I, zPp π, D, 147)) rfl trivial ?_
  refine z_br ((zsg (I 136) (I 129 0) p) < 48) 37 19 [] rfl (fun hx2 => ?_) (fun hx2 => ?_)
  · refine z_n 1 (38, [(2, vi 0), (0, vr 129), (1, vi p)], [vi 0], (I, zPp π, D, 147)) rfl trivial ?_
    exact z_ret rfl (zv1 (by unfold zdg; omega)) rfl
  · refine z_n 4 (23, [(2, vi 0), (0, vr 129), (1, vi p)], [vi (p + 0), vr 129], (I, zPp π, D, 147)) (G := (zr (p + 0)) ∧ True) rfl ⟨by omega, trivial⟩ ?_
    refine z_ci 64 [vr 129, vi (p + 0)] [] rfl (m_sign hl (p := p) (by omega) (by omega)) ?_
    refine z_n 1 (28, [(2, vi 0), (0, vr 129), (1, vi p)], [vi 57, vi (zsg (I 136) (I 129 0) p)], (I, zPp π, D, 147)) rfl trivial ?_
    refine z_br (57 < (zsg (I 136) (I 129 0) p)) 37 31 [] rfl (fun hx3 => ?_) (fun hx3 => ?_)
    · refine z_n 1 (38, [(2, vi 0), (0, vr 129), (1, vi p)], [vi 0], (I, zPp π, D, 147)) rfl trivial ?_
      exact z_ret rfl (zv1 (by unfold zdg; omega)) rfl
    · refine z_n 4 (4, [(2, vi 1), (0, vr 129), (1, vi p)], [vi 2, vi 1], (I, zPp π, D, 147)) (G := (zr 1) ∧ True) rfl ⟨by omega, trivial⟩ ?_
      refine z_br (2 ≤ (1 : Int)) 37 7 [] rfl (fun h => absurd h (show ¬ (2 ≤ (1 : Int)) from by decide)) (fun hx4 => ?_)
      refine z_n 4 (11, [(2, vi 1), (0, vr 129), (1, vi p)], [vi (p + 1), vr 129], (I, zPp π, D, 147)) (G := (zr (p + 1)) ∧ True) rfl ⟨by omega, trivial⟩ ?_
      refine z_ci 64 [vr 129, vi (p + 1)] [] rfl (m_sign hl (p := p + 1) (by omega) (by omega)) ?_
      refine z_n 1 (16, [(2, vi 1), (0, vr 129), (1, vi p)], [vi 48, vi (zsg (I 136) (I 129 0) (p + 1))], (I, zPp π, D, 147)) rfl trivial ?_
      refine z_br ((zsg (I 136) (I 129 0) (p + 1)) < 48) 37 19 [] rfl (fun hx5 => ?_) (fun hx5 => ?_)
      · refine z_n 1 (38, [(2, vi 1), (0, vr 129), (1, vi p)], [vi 1], (I, zPp π, D, 147)) rfl trivial ?_
        exact z_ret rfl (zv1 (by unfold zdg; omega)) rfl
      · refine z_n 4 (23, [(2, vi 1), (0, vr 129), (1, vi p)], [vi (p + 1), vr 129], (I, zPp π, D, 147)) (G := (zr (p + 1)) ∧ True) rfl ⟨by omega, trivial⟩ ?_
        refine z_ci 64 [vr 129, vi (p + 1)] [] rfl (m_sign hl (p := p + 1) (by omega) (by omega)) ?_
        refine z_n 1 (28, [(2, vi 1), (0, vr 129), (1, vi p)], [vi 57, vi (zsg (I 136) (I 129 0) (p + 1))], (I, zPp π, D, 147)) rfl trivial ?_
        refine z_br (57 < (zsg (I 136) (I 129 0) (p + 1))) 37 31 [] rfl (fun hx6 => ?_) (fun hx6 => ?_)
        · refine z_n 1 (38, [(2, vi 1), (0, vr 129), (1, vi p)], [vi 1], (I, zPp π, D, 147)) rfl trivial ?_
          exact z_ret rfl (zv1 (by unfold zdg; omega)) rfl
        · refine z_n 4 (4, [(2, vi 2), (0, vr 129), (1, vi p)], [vi 2, vi 2], (I, zPp π, D, 147)) (G := (zr 2) ∧ True) rfl ⟨by omega, trivial⟩ ?_
          refine z_br (2 ≤ (2 : Int)) 37 7 [] rfl (fun hx7 => ?_) (fun h => absurd (show 2 ≤ (2 : Int) from by decide) h)
          refine z_n 1 (38, [(2, vi 2), (0, vr 129), (1, vi p)], [vi 2], (I, zPp π, D, 147)) rfl trivial ?_
          exact z_ret rfl (zv1 (by unfold zdg; omega)) rfl
set_option maxRecDepth 20000 in
theorem m_num0 {I : zI} {π : Int → Nat} {D : zD} {p q : Int} (hl : 0 ≤ I 129 0 ∧ I 129 0 ≤ 80) (ht : ∀ p, 0 ≤ p → p < 80 → 0 ≤ I 136 p ∧ I 136 p ≤ 126) (h0 : 0 ≤ p ∧ p ≤ 1000) (e : q = p + 0) : zMet 63 [vr 129, vi p, vi q] (I, zPp π, D, 147) (some (vi (zvln (zsg (I 136) (I 129 0)) p 0))) (I, zPp π, D, 147) := by
  have b0 := zsg_b (l := I 129 0) (p := p) hl.2 ht h0.1
  have b1 := zsg_b (l := I 129 0) (p := p + 1) hl.2 ht (by omega)
  refine z_n 6 (8, [(4, vi p), (3, vi 0), (0, vr 129), (1, vi p), (2, vi q)], [vi q, vi p], (I, zPp π, D, 147)) rfl trivial ?_
  refine z_br (q ≤ p) 32 11 [] rfl (fun hx1 => ?_) (fun h => absurd (show q ≤ p from by omega) h)
  refine z_n 1 (33, [(4, vi p), (3, vi 0), (0, vr 129), (1, vi p), (2, vi q)], [vi 0], (I, zPp π, D, 147)) rfl trivial ?_
  exact z_ret rfl (zv1 (by unfold zvln; omega)) rfl
set_option maxRecDepth 20000 in
theorem m_num1 {I : zI} {π : Int → Nat} {D : zD} {p q : Int} (hl : 0 ≤ I 129 0 ∧ I 129 0 ≤ 80) (ht : ∀ p, 0 ≤ p → p < 80 → 0 ≤ I 136 p ∧ I 136 p ≤ 126) (h0 : 0 ≤ p ∧ p ≤ 1000) (e : q = p + 1) : zMet 63 [vr 129, vi p, vi q] (I, zPp π, D, 147) (some (vi (zvln (zsg (I 136) (I 129 0)) p 1))) (I, zPp π, D, 147) := by
  have b0 := zsg_b (l := I 129 0) (p := p) hl.2 ht h0.1
  have b1 := zsg_b (l := I 129 0) (p := p + 1) hl.2 ht (by omega)
  refine z_n 6 (8, [(4, vi p), (3, vi 0), (0, vr 129), (1, vi p), (2, vi q)], [vi q, vi p], (I, zPp π, D, 147)) rfl trivial ?_
  refine z_br (q ≤ p) 32 11 [] rfl (fun h => absurd h (show ¬ (q ≤ p) from by omega)) (fun hx1 => ?_)
  refine z_n 5 (18, [(4, vi p), (3, vi 0), (0, vr 129), (1, vi p), (2, vi q)], [vi p, vr 129, vi 0], (I, zPp π, D, 147)) (G := (zr 0) ∧ True) rfl ⟨by omega, trivial⟩ ?_
  refine z_ci 64 [vr 129, vi p] [vi 0] rfl (m_sign hl (p := p) (by omega) (by omega)) ?_
  refine z_n 8 (8, [(4, vi (p + 1)), (3, vi ((0 + (zsg (I 136) (I 129 0) p)) - 48)), (0, vr 129), (1, vi p), (2, vi q)], [vi q, vi (p + 1)], (I, zPp π, D, 147)) (G := (zr (0 + (zsg (I 136) (I 129 0) p))) ∧ (zr ((0 + (zsg (I 136) (I 129 0) p)) - 48)) ∧ (zr (p + 1)) ∧ True) rfl ⟨by omega, by omega, by omega, trivial⟩ ?_
  refine z_br (q ≤ (p + 1)) 32 11 [] rfl (fun hx2 => ?_) (fun h => absurd (show q ≤ (p + 1) from by omega) h)
  refine z_n 1 (33, [(4, vi (p + 1)), (3, vi ((0 + (zsg (I 136) (I 129 0) p)) - 48)), (0, vr 129), (1, vi p), (2, vi q)], [vi ((0 + (zsg (I 136) (I 129 0) p)) - 48)], (I, zPp π, D, 147)) rfl trivial ?_
  exact z_ret rfl (zv1 (by unfold zvln; omega)) rfl
set_option maxRecDepth 20000 in
theorem m_num2 {I : zI} {π : Int → Nat} {D : zD} {p q : Int} (hl : 0 ≤ I 129 0 ∧ I 129 0 ≤ 80) (ht : ∀ p, 0 ≤ p → p < 80 → 0 ≤ I 136 p ∧ I 136 p ≤ 126) (h0 : 0 ≤ p ∧ p ≤ 1000) (e : q = p + 2) : zMet 63 [vr 129, vi p, vi q] (I, zPp π, D, 147) (some (vi (zvln (zsg (I 136) (I 129 0)) p 2))) (I, zPp π, D, 147) := by
  have b0 := zsg_b (l := I 129 0) (p := p) hl.2 ht h0.1
  have b1 := zsg_b (l := I 129 0) (p := p + 1) hl.2 ht (by omega)
  refine z_n 6 (8, [(4, vi p), (3, vi 0), (0, vr 129), (1, vi p), (2, vi q)], [vi q, vi p], (I, zPp π, D, 147)) rfl trivial ?_
  refine z_br (q ≤ p) 32 11 [] rfl (fun h => absurd h (show ¬ (q ≤ p) from by omega)) (fun hx1 => ?_)
  refine z_n 5 (18, [(4, vi p), (3, vi 0), (0, vr 129), (1, vi p), (2, vi q)], [vi p, vr 129, vi 0], (I, zPp π, D, 147)) (G := (zr 0) ∧ True) rfl ⟨by omega, trivial⟩ ?_
  refine z_ci 64 [vr 129, vi p] [vi 0] rfl (m_sign hl (p := p) (by omega) (by omega)) ?_
  refine z_n 8 (8, [(4, vi (p + 1)), (3, vi ((0 + (zsg (I 136) (I 129 0) p)) - 48)), (0, vr 129), (1, vi p), (2, vi q)], [vi q, vi (p + 1)], (I, zPp π, D, 147)) (G := (zr (0 + (zsg (I 136) (I 129 0) p))) ∧ (zr ((0 + (zsg (I 136) (I 129 0) p)) - 48)) ∧ (zr (p + 1)) ∧ True) rfl ⟨by omega, by omega, by omega, trivial⟩ ?_
  refine z_br (q ≤ (p + 1)) 32 11 [] rfl (fun h => absurd h (show ¬ (q ≤ (p + 1)) from by omega)) (fun hx2 => ?_)
  refine z_n 5 (18, [(4, vi (p + 1)), (3, vi ((0 + (zsg (I 136) (I 129 0) p)) - 48)), (0, vr 129), (1, vi p), (2, vi q)], [vi (p + 1), vr 129, vi (((0 + (zsg (I 136) (I 129 0) p)) - 48) * 10)], (I, zPp π, D, 147)) (G := (zr (((0 + (zsg (I 136) (I 129 0) p)) - 48) * 10)) ∧ True) rfl ⟨by omega, trivial⟩ ?_
  refine z_ci 64 [vr 129, vi (p + 1)] [vi (((0 + (zsg (I 136) (I 129 0) p)) - 48) * 10)] rfl (m_sign hl (p := p + 1) (by omega) (by omega)) ?_
  refine z_n 8 (8, [(4, vi ((p + 1) + 1)), (3, vi (((((0 + (zsg (I 136) (I 129 0) p)) - 48) * 10) + (zsg (I 136) (I 129 0) (p + 1))) - 48)), (0, vr 129), (1, vi p), (2, vi q)], [vi q, vi ((p + 1) + 1)], (I, zPp π, D, 147)) (G := (zr ((((0 + (zsg (I 136) (I 129 0) p)) - 48) * 10) + (zsg (I 136) (I 129 0) (p + 1)))) ∧ (zr (((((0 + (zsg (I 136) (I 129 0) p)) - 48) * 10) + (zsg (I 136) (I 129 0) (p + 1))) - 48)) ∧ (zr ((p + 1) + 1)) ∧ True) rfl ⟨by omega, by omega, by omega, trivial⟩ ?_
  refine z_br (q ≤ ((p + 1) + 1)) 32 11 [] rfl (fun hx3 => ?_) (fun h => absurd (show q ≤ ((p + 1) + 1) from by omega) h)
  refine z_n 1 (33, [(4, vi ((p + 1) + 1)), (3, vi (((((0 + (zsg (I 136) (I 129 0) p)) - 48) * 10) + (zsg (I 136) (I 129 0) (p + 1))) - 48)), (0, vr 129), (1, vi p), (2, vi q)], [vi (((((0 + (zsg (I 136) (I 129 0) p)) - 48) * 10) + (zsg (I 136) (I 129 0) (p + 1))) - 48)], (I, zPp π, D, 147)) rfl trivial ?_
  exact z_ret rfl (zv1 (by unfold zvln; omega)) rfl
theorem m_num {I : zI} {π : Int → Nat} {D : zD} {p q d : Int} (hl : 0 ≤ I 129 0 ∧ I 129 0 ≤ 80) (ht : ∀ p, 0 ≤ p → p < 80 → 0 ≤ I 136 p ∧ I 136 p ≤ 126) (h0 : 0 ≤ p ∧ p ≤ 1000) (hd : 0 ≤ d ∧ d ≤ 2) (e : q = p + d) : zMet 63 [vr 129, vi p, vi q] (I, zPp π, D, 147) (some (vi (zvln (zsg (I 136) (I 129 0)) p d))) (I, zPp π, D, 147) := by
  rcases (show d = 0 ∨ d = 1 ∨ d = 2 by omega) with h | h | h
  · subst h; exact m_num0 hl ht h0 e
  · subst h; exact m_num1 hl ht h0 e
  · subst h; exact m_num2 hl ht h0 e
set_option maxRecDepth 20000 in
theorem m_read1 {I : zI} {π : Int → Nat} {D : zD} {p : Int} (hl : 0 ≤ I 129 0 ∧ I 129 0 ≤ 80) (ht : ∀ p, 0 ≤ p → p < 80 → 0 ≤ I 136 p ∧ I 136 p ≤ 126) (h0 : 0 ≤ p ∧ p ≤ 80) (h : zfm (zsg (I 136) (I 129 0)) p) : zMet 61 [vr 129, vi p] (I, zPp π, D, 147) (some (vi 1)) ((zRd I (zua (zsg (I 136) (I 129 0)) p) (zub (zsg (I 136) (I 129 0)) p) (zen (zsg (I 136) (I 129 0)) p + 1)), zPp π, D, 147) := by
  obtain ⟨f1, f2, f3, f4⟩ := h
  have b1 := zdg_b (G := (zsg (I 136) (I 129 0))) (p := p)
  have b2 := zdg_b (G := (zsg (I 136) (I 129 0))) (p := p + (zdg (zsg (I 136) (I 129 0)) p) + 1)
  refine z_n 3 (3, [(0, vr 129), (1, vi p)], [vi p, vr 129, vi p], (I, zPp π, D, 147)) rfl trivial ?_
  refine z_ci 62 [vr 129, vi p] [vi p] rfl (m_dig hl ⟨by omega, by omega⟩) ?_
  refine z_n 9 (15, [(2, vi (p + (zdg (zsg (I 136) (I 129 0)) p))), (0, vr 129), (1, vi p)], [vi ((p + (zdg (zsg (I 136) (I 129 0)) p)) + 1), vr 129, vi ((p + (zdg (zsg (I 136) (I 129 0)) p)) + 1)], (I, zPp π, D, 147)) (G := (zr (p + (zdg (zsg (I 136) (I 129 0)) p))) ∧ (zr ((p + (zdg (zsg (I 136) (I 129 0)) p)) + 1)) ∧ (zr ((p + (zdg (zsg (I 136) (I 129 0)) p)) + 1)) ∧ True) rfl ⟨by omega, by omega, by omega, trivial⟩ ?_
  refine z_ci 62 [vr 129, vi ((p + (zdg (zsg (I 136) (I 129 0)) p)) + 1)] [vi ((p + (zdg (zsg (I 136) (I 129 0)) p)) + 1)] rfl (m_dig hl (p := p + (zdg (zsg (I 136) (I 129 0)) p) + 1) ⟨by omega, by omega⟩) ?_
  refine z_n 4 (22, [(3, vi (((p + (zdg (zsg (I 136) (I 129 0)) p)) + 1) + (zdg (zsg (I 136) (I 129 0)) (p + (zdg (zsg (I 136) (I 129 0)) p) + 1)))), (2, vi (p + (zdg (zsg (I 136) (I 129 0)) p))), (0, vr 129), (1, vi p)], [vi (p + (zdg (zsg (I 136) (I 129 0)) p)), vr 129], (I, zPp π, D, 147)) (G := (zr (((p + (zdg (zsg (I 136) (I 129 0)) p)) + 1) + (zdg (zsg (I 136) (I 129 0)) (p + (zdg (zsg (I 136) (I 129 0)) p) + 1)))) ∧ True) rfl ⟨by omega, trivial⟩ ?_
  refine z_ci 64 [vr 129, vi (p + (zdg (zsg (I 136) (I 129 0)) p))] [] rfl (m_sign hl (p := p + (zdg (zsg (I 136) (I 129 0)) p)) (by omega) rfl) ?_
  refine z_n 1 (27, [(3, vi (((p + (zdg (zsg (I 136) (I 129 0)) p)) + 1) + (zdg (zsg (I 136) (I 129 0)) (p + (zdg (zsg (I 136) (I 129 0)) p) + 1)))), (2, vi (p + (zdg (zsg (I 136) (I 129 0)) p))), (0, vr 129), (1, vi p)], [vi 45, vi (zsg (I 136) (I 129 0) (p + (zdg (zsg (I 136) (I 129 0)) p)))], (I, zPp π, D, 147)) rfl trivial ?_
  refine z_br (¬ (zsg (I 136) (I 129 0) (p + (zdg (zsg (I 136) (I 129 0)) p))) = 45) 40 30 [] rfl (fun h => absurd h (show ¬ (¬ (zsg (I 136) (I 129 0) (p + (zdg (zsg (I 136) (I 129 0)) p))) = 45) from fun h9 => h9 f1)) (fun hx1 => ?_)
  refine z_n 2 (32, [(3, vi (((p + (zdg (zsg (I 136) (I 129 0)) p)) + 1) + (zdg (zsg (I 136) (I 129 0)) (p + (zdg (zsg (I 136) (I 129 0)) p) + 1)))), (2, vi (p + (zdg (zsg (I 136) (I 129 0)) p))), (0, vr 129), (1, vi p)], [vi (((p + (zdg (zsg (I 136) (I 129 0)) p)) + 1) + (zdg (zsg (I 136) (I 129 0)) (p + (zdg (zsg (I 136) (I 129 0)) p) + 1))), vr 129], (I, zPp π, D, 147)) rfl trivial ?_
  refine z_ci 64 [vr 129, vi (((p + (zdg (zsg (I 136) (I 129 0)) p)) + 1) + (zdg (zsg (I 136) (I 129 0)) (p + (zdg (zsg (I 136) (I 129 0)) p) + 1)))] [] rfl (m_sign hl (p := p + (zdg (zsg (I 136) (I 129 0)) p) + 1 + (zdg (zsg (I 136) (I 129 0)) (p + (zdg (zsg (I 136) (I 129 0)) p) + 1))) (by omega) rfl) ?_
  refine z_n 1 (37, [(3, vi (((p + (zdg (zsg (I 136) (I 129 0)) p)) + 1) + (zdg (zsg (I 136) (I 129 0)) (p + (zdg (zsg (I 136) (I 129 0)) p) + 1)))), (2, vi (p + (zdg (zsg (I 136) (I 129 0)) p))), (0, vr 129), (1, vi p)], [vi 59, vi (zsg (I 136) (I 129 0) (p + (zdg (zsg (I 136) (I 129 0)) p) + 1 + (zdg (zsg (I 136) (I 129 0)) (p + (zdg (zsg (I 136) (I 129 0)) p) + 1))))], (I, zPp π, D, 147)) rfl trivial ?_
  refine z_br ((zsg (I 136) (I 129 0) (p + (zdg (zsg (I 136) (I 129 0)) p) + 1 + (zdg (zsg (I 136) (I 129 0)) (p + (zdg (zsg (I 136) (I 129 0)) p) + 1)))) = 59) 42 40 [] rfl (fun hx2 => ?_) (fun h => absurd (show (zsg (I 136) (I 129 0) (p + (zdg (zsg (I 136) (I 129 0)) p) + 1 + (zdg (zsg (I 136) (I 129 0)) (p + (zdg (zsg (I 136) (I 129 0)) p) + 1)))) = 59 from f2) h)
  refine z_n 4 (46, [(3, vi (((p + (zdg (zsg (I 136) (I 129 0)) p)) + 1) + (zdg (zsg (I 136) (I 129 0)) (p + (zdg (zsg (I 136) (I 129 0)) p) + 1)))), (2, vi (p + (zdg (zsg (I 136) (I 129 0)) p))), (0, vr 129), (1, vi p)], [vi (p + (zdg (zsg (I 136) (I 129 0)) p)), vi p, vr 129, vr 129], (I, zPp π, D, 147)) rfl trivial ?_
  refine z_ci 63 [vr 129, vi p, vi (p + (zdg (zsg (I 136) (I 129 0)) p))] [vr 129] rfl (m_num hl ht (p := p) (d := (zdg (zsg (I 136) (I 129 0)) p)) ⟨by omega, by omega⟩ ⟨by omega, by omega⟩ rfl) ?_
  refine z_n 7 (58, [(3, vi (((p + (zdg (zsg (I 136) (I 129 0)) p)) + 1) + (zdg (zsg (I 136) (I 129 0)) (p + (zdg (zsg (I 136) (I 129 0)) p) + 1)))), (2, vi (p + (zdg (zsg (I 136) (I 129 0)) p))), (0, vr 129), (1, vi p)], [vi (((p + (zdg (zsg (I 136) (I 129 0)) p)) + 1) + (zdg (zsg (I 136) (I 129 0)) (p + (zdg (zsg (I 136) (I 129 0)) p) + 1))), vi ((p + (zdg (zsg (I 136) (I 129 0)) p)) + 1), vr 129, vr 129], ((zup I 129 6 (zvln (zsg (I 136) (I 129 0)) p (zdg (zsg (I 136) (I 129 0)) p))), zPp π, D, 147)) (G := (zr ((p + (zdg (zsg (I 136) (I 129 0)) p)) + 1)) ∧ True) rfl ⟨by omega, trivial⟩ ?_
  refine z_ci 63 [vr 129, vi ((p + (zdg (zsg (I 136) (I 129 0)) p)) + 1), vi (((p + (zdg (zsg (I 136) (I 129 0)) p)) + 1) + (zdg (zsg (I 136) (I 129 0)) (p + (zdg (zsg (I 136) (I 129 0)) p) + 1)))] [vr 129] rfl (m_num (I := (zup I 129 6 (zvln (zsg (I 136) (I 129 0)) p (zdg (zsg (I 136) (I 129 0)) p)))) hl ht (p := p + (zdg (zsg (I 136) (I 129 0)) p) + 1) (d := (zdg (zsg (I 136) (I 129 0)) (p + (zdg (zsg (I 136) (I 129 0)) p) + 1))) ⟨by omega, by omega⟩ ⟨by omega, by omega⟩ rfl) ?_
  refine z_n 8 (73, [(3, vi (((p + (zdg (zsg (I 136) (I 129 0)) p)) + 1) + (zdg (zsg (I 136) (I 129 0)) (p + (zdg (zsg (I 136) (I 129 0)) p) + 1)))), (2, vi (p + (zdg (zsg (I 136) (I 129 0)) p))), (0, vr 129), (1, vi p)], [vi p, vi (p + (zdg (zsg (I 136) (I 129 0)) p))], ((zup (zup (zup I 129 6 (zvln (zsg (I 136) (I 129 0)) p (zdg (zsg (I 136) (I 129 0)) p))) 129 7 (zvln (zsg (I 136) (I 129 0)) (p + (zdg (zsg (I 136) (I 129 0)) p) + 1) (zdg (zsg (I 136) (I 129 0)) (p + (zdg (zsg (I 136) (I 129 0)) p) + 1)))) 129 8 ((((p + (zdg (zsg (I 136) (I 129 0)) p)) + 1) + (zdg (zsg (I 136) (I 129 0)) (p + (zdg (zsg (I 136) (I 129 0)) p) + 1))) + 1)), zPp π, D, 147)) (G := (zr ((((p + (zdg (zsg (I 136) (I 129 0)) p)) + 1) + (zdg (zsg (I 136) (I 129 0)) (p + (zdg (zsg (I 136) (I 129 0)) p) + 1))) + 1)) ∧ True) rfl ⟨by omega, trivial⟩ ?_
  refine z_br ((p + (zdg (zsg (I 136) (I 129 0)) p)) ≤ p) 87 76 [] rfl (fun h => absurd h (show ¬ ((p + (zdg (zsg (I 136) (I 129 0)) p)) ≤ p) from by omega)) (fun hx3 => ?_)
  refine z_n 4 (80, [(3, vi (((p + (zdg (zsg (I 136) (I 129 0)) p)) + 1) + (zdg (zsg (I 136) (I 129 0)) (p + (zdg (zsg (I 136) (I 129 0)) p) + 1)))), (2, vi (p + (zdg (zsg (I 136) (I 129 0)) p))), (0, vr 129), (1, vi p)], [vi ((p + (zdg (zsg (I 136) (I 129 0)) p)) + 1), vi (((p + (zdg (zsg (I 136) (I 129 0)) p)) + 1) + (zdg (zsg (I 136) (I 129 0)) (p + (zdg (zsg (I 136) (I 129 0)) p) + 1)))], ((zup (zup (zup I 129 6 (zvln (zsg (I 136) (I 129 0)) p (zdg (zsg (I 136) (I 129 0)) p))) 129 7 (zvln (zsg (I 136) (I 129 0)) (p + (zdg (zsg (I 136) (I 129 0)) p) + 1) (zdg (zsg (I 136) (I 129 0)) (p + (zdg (zsg (I 136) (I 129 0)) p) + 1)))) 129 8 ((((p + (zdg (zsg (I 136) (I 129 0)) p)) + 1) + (zdg (zsg (I 136) (I 129 0)) (p + (zdg (zsg (I 136) (I 129 0)) p) + 1))) + 1)), zPp π, D, 147)) (G := (zr ((p + (zdg (zsg (I 136) (I 129 0)) p)) + 1)) ∧ True) rfl ⟨by omega, trivial⟩ ?_
  refine z_br ((((p + (zdg (zsg (I 136) (I 129 0)) p)) + 1) + (zdg (zsg (I 136) (I 129 0)) (p + (zdg (zsg (I 136) (I 129 0)) p) + 1))) ≤ ((p + (zdg (zsg (I 136) (I 129 0)) p)) + 1)) 87 83 [] rfl (fun h => absurd h (show ¬ ((((p + (zdg (zsg (I 136) (I 129 0)) p)) + 1) + (zdg (zsg (I 136) (I 129 0)) (p + (zdg (zsg (I 136) (I 129 0)) p) + 1))) ≤ ((p + (zdg (zsg (I 136) (I 129 0)) p)) + 1)) from by omega)) (fun hx4 => ?_)
  refine z_n 2 (88, [(3, vi (((p + (zdg (zsg (I 136) (I 129 0)) p)) + 1) + (zdg (zsg (I 136) (I 129 0)) (p + (zdg (zsg (I 136) (I 129 0)) p) + 1)))), (2, vi (p + (zdg (zsg (I 136) (I 129 0)) p))), (0, vr 129), (1, vi p)], [vi 1], ((zup (zup (zup I 129 6 (zvln (zsg (I 136) (I 129 0)) p (zdg (zsg (I 136) (I 129 0)) p))) 129 7 (zvln (zsg (I 136) (I 129 0)) (p + (zdg (zsg (I 136) (I 129 0)) p) + 1) (zdg (zsg (I 136) (I 129 0)) (p + (zdg (zsg (I 136) (I 129 0)) p) + 1)))) 129 8 ((((p + (zdg (zsg (I 136) (I 129 0)) p)) + 1) + (zdg (zsg (I 136) (I 129 0)) (p + (zdg (zsg (I 136) (I 129 0)) p) + 1))) + 1)), zPp π, D, 147)) rfl trivial ?_
  exact z_ret rfl rfl rfl
set_option maxRecDepth 20000 in
theorem m_read0a {I : zI} {π : Int → Nat} {D : zD} {p : Int} (hl : 0 ≤ I 129 0 ∧ I 129 0 ≤ 80) (ht : ∀ p, 0 ≤ p → p < 80 → 0 ≤ I 136 p ∧ I 136 p ≤ 126) (h0 : 0 ≤ p ∧ p ≤ 80) (hq : ¬ (zsg (I 136) (I 129 0) (zda (zsg (I 136) (I 129 0)) p) = 45 ∧ zsg (I 136) (I 129 0) (zen (zsg (I 136) (I 129 0)) p) = 59)) : zMet 61 [vr 129, vi p] (I, zPp π, D, 147) (some (vi 0)) (I, zPp π, D, 147) := by
  have b1 := zdg_b (G := (zsg (I 136) (I 129 0))) (p := p)
  have b2 := zdg_b (G := (zsg (I 136) (I 129 0))) (p := p + (zdg (zsg (I 136) (I 129 0)) p) + 1)
  refine z_n 3 (3, [(0, vr 129), (1, vi p)], [vi p, vr 129, vi p], (I, zPp π, D, 147)) rfl trivial ?_
  refine z_ci 62 [vr 129, vi p] [vi p] rfl (m_dig hl ⟨by omega, by omega⟩) ?_
  refine z_n 9 (15, [(2, vi (p + (zdg (zsg (I 136) (I 129 0)) p))), (0, vr 129), (1, vi p)], [vi ((p + (zdg (zsg (I 136) (I 129 0)) p)) + 1), vr 129, vi ((p + (zdg (zsg (I 136) (I 129 0)) p)) + 1)], (I, zPp π, D, 147)) (G := (zr (p + (zdg (zsg (I 136) (I 129 0)) p))) ∧ (zr ((p + (zdg (zsg (I 136) (I 129 0)) p)) + 1)) ∧ (zr ((p + (zdg (zsg (I 136) (I 129 0)) p)) + 1)) ∧ True) rfl ⟨by omega, by omega, by omega, trivial⟩ ?_
  refine z_ci 62 [vr 129, vi ((p + (zdg (zsg (I 136) (I 129 0)) p)) + 1)] [vi ((p + (zdg (zsg (I 136) (I 129 0)) p)) + 1)] rfl (m_dig hl (p := p + (zdg (zsg (I 136) (I 129 0)) p) + 1) ⟨by omega, by omega⟩) ?_
  refine z_n 4 (22, [(3, vi (((p + (zdg (zsg (I 136) (I 129 0)) p)) + 1) + (zdg (zsg (I 136) (I 129 0)) (p + (zdg (zsg (I 136) (I 129 0)) p) + 1)))), (2, vi (p + (zdg (zsg (I 136) (I 129 0)) p))), (0, vr 129), (1, vi p)], [vi (p + (zdg (zsg (I 136) (I 129 0)) p)), vr 129], (I, zPp π, D, 147)) (G := (zr (((p + (zdg (zsg (I 136) (I 129 0)) p)) + 1) + (zdg (zsg (I 136) (I 129 0)) (p + (zdg (zsg (I 136) (I 129 0)) p) + 1)))) ∧ True) rfl ⟨by omega, trivial⟩ ?_
  refine z_ci 64 [vr 129, vi (p + (zdg (zsg (I 136) (I 129 0)) p))] [] rfl (m_sign hl (p := p + (zdg (zsg (I 136) (I 129 0)) p)) (by omega) rfl) ?_
  refine z_n 1 (27, [(3, vi (((p + (zdg (zsg (I 136) (I 129 0)) p)) + 1) + (zdg (zsg (I 136) (I 129 0)) (p + (zdg (zsg (I 136) (I 129 0)) p) + 1)))), (2, vi (p + (zdg (zsg (I 136) (I 129 0)) p))), (0, vr 129), (1, vi p)], [vi 45, vi (zsg (I 136) (I 129 0) (p + (zdg (zsg (I 136) (I 129 0)) p)))], (I, zPp π, D, 147)) rfl trivial ?_
  refine z_br (¬ (zsg (I 136) (I 129 0) (p + (zdg (zsg (I 136) (I 129 0)) p))) = 45) 40 30 [] rfl (fun hx1 => ?_) (fun hx1 => ?_)
  · refine z_n 1 (41, [(3, vi (((p + (zdg (zsg (I 136) (I 129 0)) p)) + 1) + (zdg (zsg (I 136) (I 129 0)) (p + (zdg (zsg (I 136) (I 129 0)) p) + 1)))), (2, vi (p + (zdg (zsg (I 136) (I 129 0)) p))), (0, vr 129), (1, vi p)], [vi 0], (I, zPp π, D, 147)) rfl trivial ?_
    exact z_ret rfl rfl rfl
  · refine z_n 2 (32, [(3, vi (((p + (zdg (zsg (I 136) (I 129 0)) p)) + 1) + (zdg (zsg (I 136) (I 129 0)) (p + (zdg (zsg (I 136) (I 129 0)) p) + 1)))), (2, vi (p + (zdg (zsg (I 136) (I 129 0)) p))), (0, vr 129), (1, vi p)], [vi (((p + (zdg (zsg (I 136) (I 129 0)) p)) + 1) + (zdg (zsg (I 136) (I 129 0)) (p + (zdg (zsg (I 136) (I 129 0)) p) + 1))), vr 129], (I, zPp π, D, 147)) rfl trivial ?_
    refine z_ci 64 [vr 129, vi (((p + (zdg (zsg (I 136) (I 129 0)) p)) + 1) + (zdg (zsg (I 136) (I 129 0)) (p + (zdg (zsg (I 136) (I 129 0)) p) + 1)))] [] rfl (m_sign hl (p := p + (zdg (zsg (I 136) (I 129 0)) p) + 1 + (zdg (zsg (I 136) (I 129 0)) (p + (zdg (zsg (I 136) (I 129 0)) p) + 1))) (by omega) rfl) ?_
    refine z_n 1 (37, [(3, vi (((p + (zdg (zsg (I 136) (I 129 0)) p)) + 1) + (zdg (zsg (I 136) (I 129 0)) (p + (zdg (zsg (I 136) (I 129 0)) p) + 1)))), (2, vi (p + (zdg (zsg (I 136) (I 129 0)) p))), (0, vr 129), (1, vi p)], [vi 59, vi (zsg (I 136) (I 129 0) (p + (zdg (zsg (I 136) (I 129 0)) p) + 1 + (zdg (zsg (I 136) (I 129 0)) (p + (zdg (zsg (I 136) (I 129 0)) p) + 1))))], (I, zPp π, D, 147)) rfl trivial ?_
    refine z_br ((zsg (I 136) (I 129 0) (p + (zdg (zsg (I 136) (I 129 0)) p) + 1 + (zdg (zsg (I 136) (I 129 0)) (p + (zdg (zsg (I 136) (I 129 0)) p) + 1)))) = 59) 42 40 [] rfl (fun h => absurd h (show ¬ ((zsg (I 136) (I 129 0) (p + (zdg (zsg (I 136) (I 129 0)) p) + 1 + (zdg (zsg (I 136) (I 129 0)) (p + (zdg (zsg (I 136) (I 129 0)) p) + 1)))) = 59) from fun h9 => hq ⟨Classical.not_not.mp (by assumption), h9⟩)) (fun hx2 => ?_)
    refine z_n 1 (41, [(3, vi (((p + (zdg (zsg (I 136) (I 129 0)) p)) + 1) + (zdg (zsg (I 136) (I 129 0)) (p + (zdg (zsg (I 136) (I 129 0)) p) + 1)))), (2, vi (p + (zdg (zsg (I 136) (I 129 0)) p))), (0, vr 129), (1, vi p)], [vi 0], (I, zPp π, D, 147)) rfl trivial ?_
    exact z_ret rfl rfl rfl
set_option maxRecDepth 20000 in
theorem m_read0b {I : zI} {π : Int → Nat} {D : zD} {p : Int} (hl : 0 ≤ I 129 0 ∧ I 129 0 ≤ 80) (ht : ∀ p, 0 ≤ p → p < 80 → 0 ≤ I 136 p ∧ I 136 p ≤ 126) (h0 : 0 ≤ p ∧ p ≤ 80) (f1 : zsg (I 136) (I 129 0) (zda (zsg (I 136) (I 129 0)) p) = 45) (f2 : zsg (I 136) (I 129 0) (zen (zsg (I 136) (I 129 0)) p) = 59) (h : ¬ (0 < zdg (zsg (I 136) (I 129 0)) p ∧ 0 < zdg (zsg (I 136) (I 129 0)) (p + zdg (zsg (I 136) (I 129 0)) p + 1))) : zMet 61 [vr 129, vi p] (I, zPp π, D, 147) (some (vi 0)) ((zRd I (zua (zsg (I 136) (I 129 0)) p) (zub (zsg (I 136) (I 129 0)) p) (zen (zsg (I 136) (I 129 0)) p + 1)), zPp π, D, 147) := by
  have b1 := zdg_b (G := (zsg (I 136) (I 129 0))) (p := p)
  have b2 := zdg_b (G := (zsg (I 136) (I 129 0))) (p := p + (zdg (zsg (I 136) (I 129 0)) p) + 1)
  refine z_n 3 (3, [(0, vr 129), (1, vi p)], [vi p, vr 129, vi p], (I, zPp π, D, 147)) rfl trivial ?_
  refine z_ci 62 [vr 129, vi p] [vi p] rfl (m_dig hl ⟨by omega, by omega⟩) ?_
  refine z_n 9 (15, [(2, vi (p + (zdg (zsg (I 136) (I 129 0)) p))), (0, vr 129), (1, vi p)], [vi ((p + (zdg (zsg (I 136) (I 129 0)) p)) + 1), vr 129, vi ((p + (zdg (zsg (I 136) (I 129 0)) p)) + 1)], (I, zPp π, D, 147)) (G := (zr (p + (zdg (zsg (I 136) (I 129 0)) p))) ∧ (zr ((p + (zdg (zsg (I 136) (I 129 0)) p)) + 1)) ∧ (zr ((p + (zdg (zsg (I 136) (I 129 0)) p)) + 1)) ∧ True) rfl ⟨by omega, by omega, by omega, trivial⟩ ?_
  refine z_ci 62 [vr 129, vi ((p + (zdg (zsg (I 136) (I 129 0)) p)) + 1)] [vi ((p + (zdg (zsg (I 136) (I 129 0)) p)) + 1)] rfl (m_dig hl (p := p + (zdg (zsg (I 136) (I 129 0)) p) + 1) ⟨by omega, by omega⟩) ?_
  refine z_n 4 (22, [(3, vi (((p + (zdg (zsg (I 136) (I 129 0)) p)) + 1) + (zdg (zsg (I 136) (I 129 0)) (p + (zdg (zsg (I 136) (I 129 0)) p) + 1)))), (2, vi (p + (zdg (zsg (I 136) (I 129 0)) p))), (0, vr 129), (1, vi p)], [vi (p + (zdg (zsg (I 136) (I 129 0)) p)), vr 129], (I, zPp π, D, 147)) (G := (zr (((p + (zdg (zsg (I 136) (I 129 0)) p)) + 1) + (zdg (zsg (I 136) (I 129 0)) (p + (zdg (zsg (I 136) (I 129 0)) p) + 1)))) ∧ True) rfl ⟨by omega, trivial⟩ ?_
  refine z_ci 64 [vr 129, vi (p + (zdg (zsg (I 136) (I 129 0)) p))] [] rfl (m_sign hl (p := p + (zdg (zsg (I 136) (I 129 0)) p)) (by omega) rfl) ?_
  refine z_n 1 (27, [(3, vi (((p + (zdg (zsg (I 136) (I 129 0)) p)) + 1) + (zdg (zsg (I 136) (I 129 0)) (p + (zdg (zsg (I 136) (I 129 0)) p) + 1)))), (2, vi (p + (zdg (zsg (I 136) (I 129 0)) p))), (0, vr 129), (1, vi p)], [vi 45, vi (zsg (I 136) (I 129 0) (p + (zdg (zsg (I 136) (I 129 0)) p)))], (I, zPp π, D, 147)) rfl trivial ?_
  refine z_br (¬ (zsg (I 136) (I 129 0) (p + (zdg (zsg (I 136) (I 129 0)) p))) = 45) 40 30 [] rfl (fun h => absurd h (show ¬ (¬ (zsg (I 136) (I 129 0) (p + (zdg (zsg (I 136) (I 129 0)) p))) = 45) from fun h9 => h9 f1)) (fun hx1 => ?_)
  refine z_n 2 (32, [(3, vi (((p + (zdg (zsg (I 136) (I 129 0)) p)) + 1) + (zdg (zsg (I 136) (I 129 0)) (p + (zdg (zsg (I 136) (I 129 0)) p) + 1)))), (2, vi (p + (zdg (zsg (I 136) (I 129 0)) p))), (0, vr 129), (1, vi p)], [vi (((p + (zdg (zsg (I 136) (I 129 0)) p)) + 1) + (zdg (zsg (I 136) (I 129 0)) (p + (zdg (zsg (I 136) (I 129 0)) p) + 1))), vr 129], (I, zPp π, D, 147)) rfl trivial ?_
  refine z_ci 64 [vr 129, vi (((p + (zdg (zsg (I 136) (I 129 0)) p)) + 1) + (zdg (zsg (I 136) (I 129 0)) (p + (zdg (zsg (I 136) (I 129 0)) p) + 1)))] [] rfl (m_sign hl (p := p + (zdg (zsg (I 136) (I 129 0)) p) + 1 + (zdg (zsg (I 136) (I 129 0)) (p + (zdg (zsg (I 136) (I 129 0)) p) + 1))) (by omega) rfl) ?_
  refine z_n 1 (37, [(3, vi (((p + (zdg (zsg (I 136) (I 129 0)) p)) + 1) + (zdg (zsg (I 136) (I 129 0)) (p + (zdg (zsg (I 136) (I 129 0)) p) + 1)))), (2, vi (p + (zdg (zsg (I 136) (I 129 0)) p))), (0, vr 129), (1, vi p)], [vi 59, vi (zsg (I 136) (I 129 0) (p + (zdg (zsg (I 136) (I 129 0)) p) + 1 + (zdg (zsg (I 136) (I 129 0)) (p + (zdg (zsg (I 136) (I 129 0)) p) + 1))))], (I, zPp π, D, 147)) rfl trivial ?_
  refine z_br ((zsg (I 136) (I 129 0) (p + (zdg (zsg (I 136) (I 129 0)) p) + 1 + (zdg (zsg (I 136) (I 129 0)) (p + (zdg (zsg (I 136) (I 129 0)) p) + 1)))) = 59) 42 40 [] rfl (fun hx2 => ?_) (fun h => absurd (show (zsg (I 136) (I 129 0) (p + (zdg (zsg (I 136) (I 129 0)) p) + 1 + (zdg (zsg (I 136) (I 129 0)) (p + (zdg (zsg (I 136) (I 129 0)) p) + 1)))) = 59 from f2) h)
  refine z_n 4 (46, [(3, vi (((p + (zdg (zsg (I 136) (I 129 0)) p)) + 1) + (zdg (zsg (I 136) (I 129 0)) (p + (zdg (zsg (I 136) (I 129 0)) p) + 1)))), (2, vi (p + (zdg (zsg (I 136) (I 129 0)) p))), (0, vr 129), (1, vi p)], [vi (p + (zdg (zsg (I 136) (I 129 0)) p)), vi p, vr 129, vr 129], (I, zPp π, D, 147)) rfl trivial ?_
  refine z_ci 63 [vr 129, vi p, vi (p + (zdg (zsg (I 136) (I 129 0)) p))] [vr 129] rfl (m_num hl ht (p := p) (d := (zdg (zsg (I 136) (I 129 0)) p)) ⟨by omega, by omega⟩ ⟨by omega, by omega⟩ rfl) ?_
  refine z_n 7 (58, [(3, vi (((p + (zdg (zsg (I 136) (I 129 0)) p)) + 1) + (zdg (zsg (I 136) (I 129 0)) (p + (zdg (zsg (I 136) (I 129 0)) p) + 1)))), (2, vi (p + (zdg (zsg (I 136) (I 129 0)) p))), (0, vr 129), (1, vi p)], [vi (((p + (zdg (zsg (I 136) (I 129 0)) p)) + 1) + (zdg (zsg (I 136) (I 129 0)) (p + (zdg (zsg (I 136) (I 129 0)) p) + 1))), vi ((p + (zdg (zsg (I 136) (I 129 0)) p)) + 1), vr 129, vr 129], ((zup I 129 6 (zvln (zsg (I 136) (I 129 0)) p (zdg (zsg (I 136) (I 129 0)) p))), zPp π, D, 147)) (G := (zr ((p + (zdg (zsg (I 136) (I 129 0)) p)) + 1)) ∧ True) rfl ⟨by omega, trivial⟩ ?_
  refine z_ci 63 [vr 129, vi ((p + (zdg (zsg (I 136) (I 129 0)) p)) + 1), vi (((p + (zdg (zsg (I 136) (I 129 0)) p)) + 1) + (zdg (zsg (I 136) (I 129 0)) (p + (zdg (zsg (I 136) (I 129 0)) p) + 1)))] [vr 129] rfl (m_num (I := (zup I 129 6 (zvln (zsg (I 136) (I 129 0)) p (zdg (zsg (I 136) (I 129 0)) p)))) hl ht (p := p + (zdg (zsg (I 136) (I 129 0)) p) + 1) (d := (zdg (zsg (I 136) (I 129 0)) (p + (zdg (zsg (I 136) (I 129 0)) p) + 1))) ⟨by omega, by omega⟩ ⟨by omega, by omega⟩ rfl) ?_
  refine z_n 8 (73, [(3, vi (((p + (zdg (zsg (I 136) (I 129 0)) p)) + 1) + (zdg (zsg (I 136) (I 129 0)) (p + (zdg (zsg (I 136) (I 129 0)) p) + 1)))), (2, vi (p + (zdg (zsg (I 136) (I 129 0)) p))), (0, vr 129), (1, vi p)], [vi p, vi (p + (zdg (zsg (I 136) (I 129 0)) p))], ((zup (zup (zup I 129 6 (zvln (zsg (I 136) (I 129 0)) p (zdg (zsg (I 136) (I 129 0)) p))) 129 7 (zvln (zsg (I 136) (I 129 0)) (p + (zdg (zsg (I 136) (I 129 0)) p) + 1) (zdg (zsg (I 136) (I 129 0)) (p + (zdg (zsg (I 136) (I 129 0)) p) + 1)))) 129 8 ((((p + (zdg (zsg (I 136) (I 129 0)) p)) + 1) + (zdg (zsg (I 136) (I 129 0)) (p + (zdg (zsg (I 136) (I 129 0)) p) + 1))) + 1)), zPp π, D, 147)) (G := (zr ((((p + (zdg (zsg (I 136) (I 129 0)) p)) + 1) + (zdg (zsg (I 136) (I 129 0)) (p + (zdg (zsg (I 136) (I 129 0)) p) + 1))) + 1)) ∧ True) rfl ⟨by omega, trivial⟩ ?_
  refine z_br ((p + (zdg (zsg (I 136) (I 129 0)) p)) ≤ p) 87 76 [] rfl (fun hx3 => ?_) (fun hx3 => ?_)
  · refine z_n 1 (88, [(3, vi (((p + (zdg (zsg (I 136) (I 129 0)) p)) + 1) + (zdg (zsg (I 136) (I 129 0)) (p + (zdg (zsg (I 136) (I 129 0)) p) + 1)))), (2, vi (p + (zdg (zsg (I 136) (I 129 0)) p))), (0, vr 129), (1, vi p)], [vi 0], ((zup (zup (zup I 129 6 (zvln (zsg (I 136) (I 129 0)) p (zdg (zsg (I 136) (I 129 0)) p))) 129 7 (zvln (zsg (I 136) (I 129 0)) (p + (zdg (zsg (I 136) (I 129 0)) p) + 1) (zdg (zsg (I 136) (I 129 0)) (p + (zdg (zsg (I 136) (I 129 0)) p) + 1)))) 129 8 ((((p + (zdg (zsg (I 136) (I 129 0)) p)) + 1) + (zdg (zsg (I 136) (I 129 0)) (p + (zdg (zsg (I 136) (I 129 0)) p) + 1))) + 1)), zPp π, D, 147)) rfl trivial ?_
    first | exact z_ret rfl rfl rfl | (exfalso; omega)
  · refine z_n 4 (80, [(3, vi (((p + (zdg (zsg (I 136) (I 129 0)) p)) + 1) + (zdg (zsg (I 136) (I 129 0)) (p + (zdg (zsg (I 136) (I 129 0)) p) + 1)))), (2, vi (p + (zdg (zsg (I 136) (I 129 0)) p))), (0, vr 129), (1, vi p)], [vi ((p + (zdg (zsg (I 136) (I 129 0)) p)) + 1), vi (((p + (zdg (zsg (I 136) (I 129 0)) p)) + 1) + (zdg (zsg (I 136) (I 129 0)) (p + (zdg (zsg (I 136) (I 129 0)) p) + 1)))], ((zup (zup (zup I 129 6 (zvln (zsg (I 136) (I 129 0)) p (zdg (zsg (I 136) (I 129 0)) p))) 129 7 (zvln (zsg (I 136) (I 129 0)) (p + (zdg (zsg (I 136) (I 129 0)) p) + 1) (zdg (zsg (I 136) (I 129 0)) (p + (zdg (zsg (I 136) (I 129 0)) p) + 1)))) 129 8 ((((p + (zdg (zsg (I 136) (I 129 0)) p)) + 1) + (zdg (zsg (I 136) (I 129 0)) (p + (zdg (zsg (I 136) (I 129 0)) p) + 1))) + 1)), zPp π, D, 147)) (G := (zr ((p + (zdg (zsg (I 136) (I 129 0)) p)) + 1)) ∧ True) rfl ⟨by omega, trivial⟩ ?_
    refine z_br ((((p + (zdg (zsg (I 136) (I 129 0)) p)) + 1) + (zdg (zsg (I 136) (I 129 0)) (p + (zdg (zsg (I 136) (I 129 0)) p) + 1))) ≤ ((p + (zdg (zsg (I 136) (I 129 0)) p)) + 1)) 87 83 [] rfl (fun hx4 => ?_) (fun hx4 => ?_)
    · refine z_n 1 (88, [(3, vi (((p + (zdg (zsg (I 136) (I 129 0)) p)) + 1) + (zdg (zsg (I 136) (I 129 0)) (p + (zdg (zsg (I 136) (I 129 0)) p) + 1)))), (2, vi (p + (zdg (zsg (I 136) (I 129 0)) p))), (0, vr 129), (1, vi p)], [vi 0], ((zup (zup (zup I 129 6 (zvln (zsg (I 136) (I 129 0)) p (zdg (zsg (I 136) (I 129 0)) p))) 129 7 (zvln (zsg (I 136) (I 129 0)) (p + (zdg (zsg (I 136) (I 129 0)) p) + 1) (zdg (zsg (I 136) (I 129 0)) (p + (zdg (zsg (I 136) (I 129 0)) p) + 1)))) 129 8 ((((p + (zdg (zsg (I 136) (I 129 0)) p)) + 1) + (zdg (zsg (I 136) (I 129 0)) (p + (zdg (zsg (I 136) (I 129 0)) p) + 1))) + 1)), zPp π, D, 147)) rfl trivial ?_
      first | exact z_ret rfl rfl rfl | (exfalso; omega)
    · refine z_n 2 (88, [(3, vi (((p + (zdg (zsg (I 136) (I 129 0)) p)) + 1) + (zdg (zsg (I 136) (I 129 0)) (p + (zdg (zsg (I 136) (I 129 0)) p) + 1)))), (2, vi (p + (zdg (zsg (I 136) (I 129 0)) p))), (0, vr 129), (1, vi p)], [vi 1], ((zup (zup (zup I 129 6 (zvln (zsg (I 136) (I 129 0)) p (zdg (zsg (I 136) (I 129 0)) p))) 129 7 (zvln (zsg (I 136) (I 129 0)) (p + (zdg (zsg (I 136) (I 129 0)) p) + 1) (zdg (zsg (I 136) (I 129 0)) (p + (zdg (zsg (I 136) (I 129 0)) p) + 1)))) 129 8 ((((p + (zdg (zsg (I 136) (I 129 0)) p)) + 1) + (zdg (zsg (I 136) (I 129 0)) (p + (zdg (zsg (I 136) (I 129 0)) p) + 1))) + 1)), zPp π, D, 147)) rfl trivial ?_
      first | exact z_ret rfl rfl rfl | (exfalso; omega)
theorem m_read0 {I : zI} {π : Int → Nat} {D : zD} {p : Int} (hl : 0 ≤ I 129 0 ∧ I 129 0 ≤ 80) (ht : ∀ p, 0 ≤ p → p < 80 → 0 ≤ I 136 p ∧ I 136 p ≤ 126) (h0 : 0 ≤ p ∧ p ≤ 80) (h : ¬ zfm (zsg (I 136) (I 129 0)) p) : ∃ a b c, zMet 61 [vr 129, vi p] (I, zPp π, D, 147) (some (vi 0)) (zRd I a b c, zPp π, D, 147) := by
  by_cases h1 : zsg (I 136) (I 129 0) (zda (zsg (I 136) (I 129 0)) p) = 45 ∧ zsg (I 136) (I 129 0) (zen (zsg (I 136) (I 129 0)) p) = 59
  · exact ⟨_, _, _, m_read0b hl ht h0 h1.1 h1.2 (fun h2 => h ⟨h1.1, h1.2, h2⟩)⟩
  · refine ⟨I 129 6, I 129 7, I 129 8, ?_⟩
    rw [zRd_id]
    exact m_read0a hl ht h0 h1
end
section
/-- how many of the first n have it -/
noncomputable def zcpp (P : Int → Prop) : Nat → Int
  | 0 => 0
  | n + 1 => zcpp P n + @ite Int (P n) (Classical.propDecidable _) 1 0
theorem zcpp_b {P : Int → Prop} : ∀ n : Nat, 0 ≤ zcpp P n ∧ zcpp P n ≤ n
  | 0 => by simp [zcpp]
  | n + 1 => by
    have ih := zcpp_b (P := P) n
    unfold zcpp
    by_cases h : P n
    · rw [if_pos h]; omega
    · rw [if_neg h]; omega
theorem zcpp_two {P Q : Int → Prop} {i j : Int} (hij : ¬ i = j) (h0 : ¬ P i) (h1 : ¬ P j) : ∀ n : Nat, (∀ k : Int, 0 ≤ k → k < n → (Q k ↔ (P k ∨ k = i ∨ k = j))) → zcpp Q n = zcpp P n + (if 0 ≤ i ∧ i < n then 1 else 0) + (if 0 ≤ j ∧ j < n then 1 else 0)
  | 0, _ => by
    rw [if_neg (by omega), if_neg (by omega)]
    rfl
  | n + 1, h => by
    have ih := zcpp_two hij h0 h1 n (fun k a b => h k a (by omega))
    have hn := h n (by omega) (by omega)
    unfold zcpp
    by_cases e1 : (n : Int) = i
    · have hp : ¬ P n := by rw [e1]; exact h0
      rw [if_pos (hn.mpr (Or.inr (Or.inl e1))), if_neg hp]
      split at ih <;> split at ih <;> split <;> split <;> omega
    · by_cases e2 : (n : Int) = j
      · have hp : ¬ P n := by rw [e2]; exact h1
        rw [if_pos (hn.mpr (Or.inr (Or.inr e2))), if_neg hp]
        split at ih <;> split at ih <;> split <;> split <;> omega
      · by_cases hp : P n
        · rw [if_pos (hn.mpr (Or.inl hp)), if_pos hp]
          split at ih <;> split at ih <;> split <;> split <;> omega
        · rw [if_neg (fun hq => by rcases hn.mp hq with a | a | a <;> contradiction), if_neg hp]
          split at ih <;> split at ih <;> split <;> split <;> omega
/-- the bumps of a race, each between two starters that no earlier one has put out, the one behind the other -/
def zDis (F Pl : Int → Int) (M : Int) (u d : Int → Int) : Prop := ∀ k, 0 ≤ k → k < M → zIs F Pl (u k) ∧ zIs F Pl (d k) ∧ Pl (d k) < Pl (u k) ∧ ¬ zOut k u d (u k) ∧ ¬ zOut k u d (d k)
theorem zOut_s {M : Int} {u d : Int → Int} {c : Int} (h : 0 ≤ M) : zOut (M + 1) u d c ↔ (zOut M u d c ∨ c = u M ∨ c = d M) := by
  constructor
  · rintro ⟨k, k0, k1, k2⟩
    by_cases e : k = M
    · subst e
      rcases k2 with a | a
      · exact Or.inr (Or.inl a.symm)
      · exact Or.inr (Or.inr a.symm)
    · exact Or.inl ⟨k, k0, by omega, k2⟩
  · rintro (⟨k, k0, k1, k2⟩ | a | a)
    · exact ⟨k, k0, by omega, k2⟩
    · exact ⟨M, h, by omega, Or.inl a.symm⟩
    · exact ⟨M, h, by omega, Or.inr a.symm⟩
theorem zdis_cnt {F Pl Or u d : Int → Int} {M : Int} (w : zW1 F) (v : zW2 F Pl Or) (h : zDis F Pl M u d) : ∀ m : Nat, (m : Int) ≤ M → zcpp (fun k => zOut m u d (Or (F 9 * F 6 + k))) (zns F).toNat = 2 * m
  | 0, _ => by
    have : ∀ n : Nat, zcpp (fun k => zOut ((0 : Nat) : Int) u d (Or (F 9 * F 6 + k))) n = 0 := by
      intro n
      induction n with
      | zero => rfl
      | succ n ih =>
        unfold zcpp
        rw [ih, if_neg (fun ⟨k, k0, k1, _⟩ => by omega)]
        rfl
    rw [this]; rfl
  | m + 1, hm => by
    have ih := zdis_cnt w v h m (by omega)
    obtain ⟨hu, hd, hlt, ou, od⟩ := h m (by omega) (by omega)
    have hb := zns_b w
    have iu : zns F = 0 → False := fun e => by have := hu.2; omega
    have pu := v.1 _ hu.1.1 hu.1.2
    have pd := v.1 _ hd.1.1 hd.1.2
    have key := zcpp_two (P := fun k => zOut m u d (Or (F 9 * F 6 + k))) (Q := fun k => zOut ((m + 1 : Nat) : Int) u d (Or (F 9 * F 6 + k))) (i := Pl (u m) - F 9 * F 6) (j := Pl (d m) - F 9 * F 6) (by omega)
      (by show ¬ zOut m u d (Or (F 9 * F 6 + (Pl (u m) - F 9 * F 6))); rw [show F 9 * F 6 + (Pl (u m) - F 9 * F 6) = Pl (u m) by omega, pu.2.2]; exact ou)
      (by show ¬ zOut m u d (Or (F 9 * F 6 + (Pl (d m) - F 9 * F 6))); rw [show F 9 * F 6 + (Pl (d m) - F 9 * F 6) = Pl (d m) by omega, pd.2.2]; exact od)
      (zns F).toNat (fun k k0 k1 => by
        show zOut ((m + 1 : Nat) : Int) u d (Or (F 9 * F 6 + k)) ↔ _
        rw [show ((m + 1 : Nat) : Int) = (m : Int) + 1 by omega, zOut_s (by omega)]
        have q := v.2.1 (F 9 * F 6 + k) (by omega) (by omega)
        have e1 : Or (F 9 * F 6 + k) = u m ↔ k = Pl (u m) - F 9 * F 6 := by
          constructor
          · intro e; rw [← e, q.2.2]; omega
          · intro e; rw [e, show F 9 * F 6 + (Pl (u m) - F 9 * F 6) = Pl (u m) by omega, pu.2.2]
        have e2 : Or (F 9 * F 6 + k) = d m ↔ k = Pl (d m) - F 9 * F 6 := by
          constructor
          · intro e; rw [← e, q.2.2]; omega
          · intro e; rw [e, show F 9 * F 6 + (Pl (d m) - F 9 * F 6) = Pl (d m) by omega, pd.2.2]
        rw [e1, e2])
    rw [key, ih, if_pos (by have := hu.2; omega), if_pos (by have := hd.2; omega)]
    omega
theorem zdis_le {F Pl Or u d : Int → Int} {M : Int} (w : zW1 F) (v : zW2 F Pl Or) (h : zDis F Pl M u d) (h0 : 0 ≤ M) : 2 * M ≤ zns F ∧ M ≤ 4 := by
  have h1 := zdis_cnt w v h M.toNat (by omega)
  have h2 := zcpp_b (P := fun k => zOut M.toNat u d (Or (F 9 * F 6 + k))) (zns F).toNat
  have h3 := zns_b w
  omega
theorem zOut_u {M k : Int} {u d : Int → Int} {a b c : Int} (h : k ≤ M) : zOut k (zu1 u M a) (zu1 d M b) c ↔ zOut k u d c := by
  constructor
  · rintro ⟨j, j0, j1, j2⟩
    refine ⟨j, j0, j1, ?_⟩
    unfold zu1 at j2
    rwa [if_neg (by omega), if_neg (by omega)] at j2
  · rintro ⟨j, j0, j1, j2⟩
    refine ⟨j, j0, j1, ?_⟩
    unfold zu1
    rwa [if_neg (by omega), if_neg (by omega)]
theorem zReas_0 {F Pl Or u d : Int → Int} {M a b : Int} (h : zReas F Pl Or M u d a b 0) : zIs F Pl a ∧ zIs F Pl b ∧ ¬ zOut M u d a ∧ ¬ zOut M u d b ∧ Pl b < Pl a := by
  rcases h with ⟨e, -⟩ | ⟨h1, h2, ⟨e, -⟩ | ⟨h3, h4, ⟨e, -⟩ | ⟨h5, -⟩⟩⟩
  · exact absurd e (by decide)
  · exact absurd e (by decide)
  · exact absurd e (by decide)
  · exact ⟨h1, h2, h3, h4, h5⟩
theorem zdis_push {F Pl u d : Int → Int} {M a b : Int} (h : zDis F Pl M u d) (hr : zIs F Pl a ∧ zIs F Pl b ∧ ¬ zOut M u d a ∧ ¬ zOut M u d b ∧ Pl b < Pl a) : zDis F Pl (M + 1) (zu1 u M a) (zu1 d M b) := by
  intro k k0 k1
  rw [zOut_u (by omega), zOut_u (by omega)]
  by_cases e : k = M
  · subst e
    unfold zu1
    rw [if_pos rfl, if_pos rfl]
    exact ⟨hr.1, hr.2.1, hr.2.2.2.2, hr.2.2.1, hr.2.2.2.1⟩
  · unfold zu1
    rw [if_neg e, if_neg e]
    exact h k k0 (by omega)
theorem zdis_push4 {F Pl Or u d : Int → Int} {M a b : Int} (w : zW1 F) (v : zW2 F Pl Or) (h0 : 0 ≤ M) (h : zDis F Pl M u d) (hr : zReas F Pl Or M u d a b 0) : M < 4 := by
  have := zdis_le w v (zdis_push h (zReas_0 hr)) (by omega)
  omega
/-- reason, where, bumps of the race, who, whom, how many bumps read -/
abbrev zCo : Type := Int × (Int × (Int × ((Int → Int) × ((Int → Int) × Int))))
/-- the check of a text from a place on, with at most so many bumps still to read: what comes of it -/
def zCk (F Pl Or G : Int → Int) (l : Int) : Nat → Int → Int → (Int → Int) → (Int → Int) → Int → zCo → Prop
  | 0, p, m, u, d, c, q => l ≤ p ∧ q = (0, p, m, u, d, c)
  | n + 1, p, m, u, d, c, q => (l ≤ p ∧ q = (0, p, m, u, d, c)) ∨ (p < l ∧ ((¬ zfm G p ∧ q = (1, p, m, u, d, c)) ∨ (zfm G p ∧ ∃ res, zReas F Pl Or m u d (zua G p) (zub G p) res ∧
      ((¬ res = 0 ∧ q = (res, p, m, u, d, c)) ∨ (res = 0 ∧ zCk F Pl Or G l n (zen G p + 1) (m + 1) (zu1 u m (zua G p)) (zu1 d m (zub G p)) (c + 1) q)))))
/-- what the check writes -/
def zTS (I : zI) (m : Int) (u d : Int → Int) (re c a b e : Int) : zI := fun r j => if r = 132 then u j else if r = 134 then d j else if r = 130 ∧ j = 2 then m else if r = 129 ∧ j = 1 then re else if r = 129 ∧ j = 3 then c else if r = 129 ∧ j = 6 then a else if r = 129 ∧ j = 7 then b else if r = 129 ∧ j = 8 then e else I r j
section
variable {I : zI} {m re c a b e k v : Int} {u d : Int → Int}
theorem zTS_132 : zup (zTS I m u d re c a b e) 132 k v = zTS I m (zu1 u k v) d re c a b e := by
  funext r j
  by_cases h : r = 132
  · subst h; simp [zup, zTS, zu1]
  · simp [zup, zTS, h]
theorem zTS_134 : zup (zTS I m u d re c a b e) 134 k v = zTS I m u (zu1 d k v) re c a b e := by
  funext r j
  by_cases h : r = 134
  · subst h; simp [zup, zTS, zu1]
  · simp [zup, zTS, h]
theorem zTS_m : zup (zTS I m u d re c a b e) 130 2 v = zTS I v u d re c a b e := by
  funext r j
  by_cases h : r = 130
  · subst h
    by_cases h2 : j = 2
    · subst h2; simp [zup, zTS]
    · simp [zup, zTS, h2]
  · simp [zup, zTS, h]
theorem zTS_1 : zup (zTS I m u d re c a b e) 129 1 v = zTS I m u d v c a b e := by
  funext r j
  by_cases h : r = 129
  · subst h
    by_cases h2 : j = 1
    · subst h2; simp [zup, zTS]
    · simp [zup, zTS, h2]
  · simp [zup, zTS, h]
theorem zTS_3 : zup (zTS I m u d re c a b e) 129 3 v = zTS I m u d re v a b e := by
  funext r j
  by_cases h : r = 129
  · subst h
    by_cases h2 : j = 3
    · subst h2; simp [zup, zTS]
    · simp [zup, zTS, h2]
  · simp [zup, zTS, h]
theorem zRd_TS {a' b' e' : Int} : zRd (zTS I m u d re c a b e) a' b' e' = zTS I m u d re c a' b' e' := by
  funext r j
  unfold zRd
  by_cases h : r = 129
  · subst h
    by_cases h6 : j = 6
    · subst h6; simp [zup, zTS]
    · by_cases h7 : j = 7
      · subst h7; simp [zup, zTS]
      · by_cases h8 : j = 8
        · subst h8; simp [zup, zTS]
        · simp [zup, zTS, h6, h7, h8]
  · simp [zup, zTS, h]
theorem zTS_0 : zup (zup (zup (zcpR (zcpR I 132 11) 134 13) 130 2 (I 9 2)) 129 3 0) 129 1 0 = zTS I (I 9 2) (I 11) (I 13) 0 0 (I 129 6) (I 129 7) (I 129 8) := by
  funext r j
  unfold zTS
  by_cases h1 : r = 132
  · subst h1; simp [zup, zcpR]
  · by_cases h2 : r = 134
    · subst h2; simp [zup, zcpR]
    · by_cases h3 : r = 130
      · subst h3
        by_cases h4 : j = 2
        · subst h4; simp [zup]
        · simp [zup, zcpR, h4]
      · by_cases h5 : r = 129
        · subst h5
          by_cases j1 : j = 1
          · subst j1; simp [zup]
          · by_cases j3 : j = 3
            · subst j3; simp [zup]
            · by_cases j6 : j = 6
              · subst j6; simp [zup, zcpR]
              · by_cases j7 : j = 7
                · subst j7; simp [zup, zcpR]
                · by_cases j8 : j = 8
                  · subst j8; simp [zup, zcpR]
                  · simp [zup, zcpR, j1, j3, j6, j7, j8]
        · simp [zup, zcpR, h1, h2, h3, h5]
end
set_option maxRecDepth 20000 in
theorem m_ck_l {I : zI} {π : Int → Nat} {D : zD} (w : zW1 (I 2)) (v : zW2 (I 2) (I 6) (I 8)) (hl : 0 ≤ I 129 0 ∧ I 129 0 ≤ 80) (ht : ∀ p, 0 ≤ p → p < 80 → 0 ≤ I 136 p ∧ I 136 p ≤ 126) : ∀ (N : Nat) (t p m : Int) (u d : Int → Int) (c a b e : Int), 0 ≤ t → t + N = 80 → t ≤ p → p ≤ I 129 0 → 0 ≤ m → 0 ≤ c → c ≤ m → zDis (I 2) (I 6) m u d → ∃ (q : zCo) (a2 b2 e2 : Int), zCk (I 2) (I 6) (I 8) (zsg (I 136) (I 129 0)) (I 129 0) N p m u d c q ∧ zRuns 60 25 [(3, vi t), (2, vi p), (0, vr 129), (1, vr 2)] [] ((zTS I m u d 0 c a b e), zPp π, D, 147) none (zup (zTS I q.2.2.1 q.2.2.2.1 q.2.2.2.2.1 q.1 q.2.2.2.2.2 a2 b2 e2) 129 2 q.2.1, zPp π, D, 147) := by
  intro N
  induction N with
  | zero =>
    intro t p m u d c a b e t0 tN tp pl m0 c0 c1 hd
    refine ⟨(0, p, m, u, d, c), a, b, e, ⟨by omega, rfl⟩, ?_⟩
    refine z_n 2 (28, [(3, vi t), (2, vi p), (0, vr 129), (1, vr 2)], [vi 80, vi t], ((zTS I m u d 0 c a b e), zPp π, D, 147)) rfl trivial ?_
    refine z_br (80 ≤ t) 121 31 [] rfl (fun hx1 => ?_) (fun h => absurd (show 80 ≤ t from by omega) h)
    refine z_n 3 (126, [(3, vi t), (2, vi p), (0, vr 129), (1, vr 2)], [], ((zup (zTS I m u d 0 c a b e) 129 2 p), zPp π, D, 147)) rfl trivial ?_
    exact z_ret rfl rfl rfl
  | succ N ih =>
  intro t p m u d c a b e t0 tN tp pl m0 c0 c1 hd
  have hm9 := zdis_le w v hd m0
  by_cases hp : I 129 0 ≤ p
  · refine ⟨(0, p, m, u, d, c), a, b, e, Or.inl ⟨hp, rfl⟩, ?_⟩
    refine z_n 2 (28, [(3, vi t), (2, vi p), (0, vr 129), (1, vr 2)], [vi 80, vi t], ((zTS I m u d 0 c a b e), zPp π, D, 147)) rfl trivial ?_
    refine z_br (80 ≤ t) 121 31 [] rfl (fun h => absurd h (show ¬ (80 ≤ t) from by omega)) (fun hx1 => ?_)
    refine z_n 3 (36, [(3, vi t), (2, vi p), (0, vr 129), (1, vr 2)], [vi (I 129 0), vi p], ((zTS I m u d 0 c a b e), zPp π, D, 147)) rfl trivial ?_
    refine z_br ((I 129 0) ≤ p) 121 39 [] rfl (fun hx2 => ?_) (fun h => absurd (show (I 129 0) ≤ p from by omega) h)
    refine z_n 3 (126, [(3, vi t), (2, vi p), (0, vr 129), (1, vr 2)], [], ((zup (zTS I m u d 0 c a b e) 129 2 p), zPp π, D, 147)) rfl trivial ?_
    exact z_ret rfl rfl rfl
  by_cases hf : zfm (zsg (I 136) (I 129 0)) p
  · have hr1 : zMet 61 [vr 129, vi p] ((zTS I m u d 0 c a b e), zPp π, D, 147) (some (vi 1)) ((zTS I m u d 0 c (zua (zsg (I 136) (I 129 0)) p) (zub (zsg (I 136) (I 129 0)) p) (zen (zsg (I 136) (I 129 0)) p + 1)), zPp π, D, 147) := by
      have h := m_read1 (I := zTS I m u d 0 c a b e) (π := π) (D := D) (p := p) hl ht (by omega) hf
      rw [zRd_TS] at h
      exact h
    obtain ⟨res, hr2, hz⟩ := m_rea130 (I := zTS I m u d 0 c (zua (zsg (I 136) (I 129 0)) p) (zub (zsg (I 136) (I 129 0)) p) (zen (zsg (I 136) (I 129 0)) p + 1)) (π := π) (D := D) (a := zua (zsg (I 136) (I 129 0)) p) (b := zub (zsg (I 136) (I 129 0)) p) (show zW1 (I 2) from w) (show zW2 (I 2) (I 6) (I 8) from v) (show 0 ≤ m ∧ m ≤ 4 from ⟨m0, hm9.2⟩)
    have hz2 : zReas (I 2) (I 6) (I 8) m u d (zua (zsg (I 136) (I 129 0)) p) (zub (zsg (I 136) (I 129 0)) p) res := hz
    clear hz
    by_cases hz0 : ¬ res = 0
    · refine ⟨(res, p, m, u, d, c), zua (zsg (I 136) (I 129 0)) p, zub (zsg (I 136) (I 129 0)) p, zen (zsg (I 136) (I 129 0)) p + 1, Or.inr ⟨by omega, Or.inr ⟨hf, res, hz2, Or.inl ⟨hz0, rfl⟩⟩⟩, ?_⟩
      refine z_n 2 (28, [(3, vi t), (2, vi p), (0, vr 129), (1, vr 2)], [vi 80, vi t], ((zTS I m u d 0 c a b e), zPp π, D, 147)) rfl trivial ?_
      refine z_br (80 ≤ t) 121 31 [] rfl (fun h => absurd h (show ¬ (80 ≤ t) from by omega)) (fun hx1 => ?_)
      refine z_n 3 (36, [(3, vi t), (2, vi p), (0, vr 129), (1, vr 2)], [vi (I 129 0), vi p], ((zTS I m u d 0 c a b e), zPp π, D, 147)) rfl trivial ?_
      refine z_br ((I 129 0) ≤ p) 121 39 [] rfl (fun h => absurd h (show ¬ ((I 129 0) ≤ p) from by omega)) (fun hx2 => ?_)
      refine z_n 2 (43, [(3, vi t), (2, vi p), (0, vr 129), (1, vr 2)], [vi 0], ((zTS I m u d 0 c a b e), zPp π, D, 147)) rfl trivial ?_
      refine z_br (¬ (0 : Int) = 0) 121 46 [] rfl (fun h => absurd h (show ¬ (¬ (0 : Int) = 0) from by decide)) (fun hx3 => ?_)
      refine z_n 3 (49, [(3, vi t), (2, vi p), (0, vr 129), (1, vr 2)], [vi p, vr 129, vr 129], ((zTS I m u d 0 c a b e), zPp π, D, 147)) rfl trivial ?_
      refine z_ci 61 [vr 129, vi p] [vr 129] rfl (hr1) ?_
      refine z_br ((1 : Int) = 0) 74 55 [vr 129] rfl (fun h => absurd h (show ¬ ((1 : Int) = 0) from by decide)) (fun hx4 => ?_)
      refine z_n 7 (68, [(3, vi t), (2, vi p), (0, vr 129), (1, vr 2)], [vi (zub (zsg (I 136) (I 129 0)) p), vi (zua (zsg (I 136) (I 129 0)) p), vr 130, vr 2, vr 129], ((zTS I m u d 0 c (zua (zsg (I 136) (I 129 0)) p) (zub (zsg (I 136) (I 129 0)) p) (zen (zsg (I 136) (I 129 0)) p + 1)), zPp π, D, 147)) rfl trivial ?_
      refine z_ci 16 [vr 2, vr 130, vi (zua (zsg (I 136) (I 129 0)) p), vi (zub (zsg (I 136) (I 129 0)) p)] [vr 129] rfl (hr2) ?_
      refine z_n 4 (82, [(3, vi t), (2, vi p), (0, vr 129), (1, vr 2)], [vi res], ((zup (zTS I m u d 0 c (zua (zsg (I 136) (I 129 0)) p) (zub (zsg (I 136) (I 129 0)) p) (zen (zsg (I 136) (I 129 0)) p + 1)) 129 1 res), zPp π, D, 147)) rfl trivial ?_
      refine z_br (¬ res = 0) 115 85 [] rfl (fun hx5 => ?_) (fun h => absurd (show ¬ res = 0 from hz0) h)
      refine z_n 4 (28, [(3, vi (t + 1)), (2, vi p), (0, vr 129), (1, vr 2)], [vi 80, vi (t + 1)], ((zup (zTS I m u d 0 c (zua (zsg (I 136) (I 129 0)) p) (zub (zsg (I 136) (I 129 0)) p) (zen (zsg (I 136) (I 129 0)) p + 1)) 129 1 res), zPp π, D, 147)) (G := (zr (t + 1)) ∧ True) rfl ⟨by omega, trivial⟩ ?_
      refine z_br (80 ≤ (t + 1)) 121 31 [] rfl (fun hx6 => ?_) (fun hx6 => ?_)
      · refine z_n 3 (126, [(3, vi (t + 1)), (2, vi p), (0, vr 129), (1, vr 2)], [], ((zup (zup (zTS I m u d 0 c (zua (zsg (I 136) (I 129 0)) p) (zub (zsg (I 136) (I 129 0)) p) (zen (zsg (I 136) (I 129 0)) p + 1)) 129 1 res) 129 2 p), zPp π, D, 147)) rfl trivial ?_
        exact z_ret rfl rfl (by rw [zTS_1])
      · refine z_n 3 (36, [(3, vi (t + 1)), (2, vi p), (0, vr 129), (1, vr 2)], [vi (I 129 0), vi p], ((zup (zTS I m u d 0 c (zua (zsg (I 136) (I 129 0)) p) (zub (zsg (I 136) (I 129 0)) p) (zen (zsg (I 136) (I 129 0)) p + 1)) 129 1 res), zPp π, D, 147)) rfl trivial ?_
        refine z_br ((I 129 0) ≤ p) 121 39 [] rfl (fun h => absurd h (show ¬ ((I 129 0) ≤ p) from by omega)) (fun hx7 => ?_)
        refine z_n 2 (43, [(3, vi (t + 1)), (2, vi p), (0, vr 129), (1, vr 2)], [vi res], ((zup (zTS I m u d 0 c (zua (zsg (I 136) (I 129 0)) p) (zub (zsg (I 136) (I 129 0)) p) (zen (zsg (I 136) (I 129 0)) p + 1)) 129 1 res), zPp π, D, 147)) rfl trivial ?_
        refine z_br (¬ res = 0) 121 46 [] rfl (fun hx8 => ?_) (fun h => absurd (show ¬ res = 0 from hz0) h)
        refine z_n 3 (126, [(3, vi (t + 1)), (2, vi p), (0, vr 129), (1, vr 2)], [], ((zup (zup (zTS I m u d 0 c (zua (zsg (I 136) (I 129 0)) p) (zub (zsg (I 136) (I 129 0)) p) (zen (zsg (I 136) (I 129 0)) p + 1)) 129 1 res) 129 2 p), zPp π, D, 147)) rfl trivial ?_
        exact z_ret rfl rfl (by rw [zTS_1])
    · have hz1 : res = 0 := Classical.not_not.mp hz0
      subst hz1
      have hm4 := zdis_push4 w v m0 hd hz2
      obtain ⟨f1, f2, f3, f4⟩ := id hf
      have hend : zen (zsg (I 136) (I 129 0)) p < I 129 0 := by
        apply Classical.byContradiction
        intro hge
        unfold zsg at f2
        rw [if_neg (by exact hge)] at f2
        exact absurd f2 (by decide)
      obtain ⟨q, a2, b2, e2, hck, hrun⟩ := ih (t + 1) (zen (zsg (I 136) (I 129 0)) p + 1) (m + 1) (zu1 u m (zua (zsg (I 136) (I 129 0)) p)) (zu1 d m (zub (zsg (I 136) (I 129 0)) p)) (c + 1) (zua (zsg (I 136) (I 129 0)) p) (zub (zsg (I 136) (I 129 0)) p) (zen (zsg (I 136) (I 129 0)) p + 1) (by omega) (by omega) (by show t + 1 ≤ p + zdg (zsg (I 136) (I 129 0)) p + 1 + zdg (zsg (I 136) (I 129 0)) (p + zdg (zsg (I 136) (I 129 0)) p + 1) + 1; omega) (by omega) (by omega) (by omega) (by omega) (zdis_push hd (zReas_0 hz2))
      refine ⟨q, a2, b2, e2, Or.inr ⟨by omega, Or.inr ⟨hf, 0, hz2, Or.inr ⟨rfl, hck⟩⟩⟩, ?_⟩
      refine z_n 2 (28, [(3, vi t), (2, vi p), (0, vr 129), (1, vr 2)], [vi 80, vi t], ((zTS I m u d 0 c a b e), zPp π, D, 147)) rfl trivial ?_
      refine z_br (80 ≤ t) 121 31 [] rfl (fun h => absurd h (show ¬ (80 ≤ t) from by omega)) (fun hx1 => ?_)
      refine z_n 3 (36, [(3, vi t), (2, vi p), (0, vr 129), (1, vr 2)], [vi (I 129 0), vi p], ((zTS I m u d 0 c a b e), zPp π, D, 147)) rfl trivial ?_
      refine z_br ((I 129 0) ≤ p) 121 39 [] rfl (fun h => absurd h (show ¬ ((I 129 0) ≤ p) from by omega)) (fun hx2 => ?_)
      refine z_n 2 (43, [(3, vi t), (2, vi p), (0, vr 129), (1, vr 2)], [vi 0], ((zTS I m u d 0 c a b e), zPp π, D, 147)) rfl trivial ?_
      refine z_br (¬ (0 : Int) = 0) 121 46 [] rfl (fun h => absurd h (show ¬ (¬ (0 : Int) = 0) from by decide)) (fun hx3 => ?_)
      refine z_n 3 (49, [(3, vi t), (2, vi p), (0, vr 129), (1, vr 2)], [vi p, vr 129, vr 129], ((zTS I m u d 0 c a b e), zPp π, D, 147)) rfl trivial ?_
      refine z_ci 61 [vr 129, vi p] [vr 129] rfl (hr1) ?_
      refine z_br ((1 : Int) = 0) 74 55 [vr 129] rfl (fun h => absurd h (show ¬ ((1 : Int) = 0) from by decide)) (fun hx4 => ?_)
      refine z_n 7 (68, [(3, vi t), (2, vi p), (0, vr 129), (1, vr 2)], [vi (zub (zsg (I 136) (I 129 0)) p), vi (zua (zsg (I 136) (I 129 0)) p), vr 130, vr 2, vr 129], ((zTS I m u d 0 c (zua (zsg (I 136) (I 129 0)) p) (zub (zsg (I 136) (I 129 0)) p) (zen (zsg (I 136) (I 129 0)) p + 1)), zPp π, D, 147)) rfl trivial ?_
      refine z_ci 16 [vr 2, vr 130, vi (zua (zsg (I 136) (I 129 0)) p), vi (zub (zsg (I 136) (I 129 0)) p)] [vr 129] rfl (hr2) ?_
      refine z_n 4 (82, [(3, vi t), (2, vi p), (0, vr 129), (1, vr 2)], [vi 0], ((zup (zTS I m u d 0 c (zua (zsg (I 136) (I 129 0)) p) (zub (zsg (I 136) (I 129 0)) p) (zen (zsg (I 136) (I 129 0)) p + 1)) 129 1 0), zPp π, D, 147)) rfl trivial ?_
      refine z_br (¬ (0 : Int) = 0) 115 85 [] rfl (fun h => absurd h (show ¬ (¬ (0 : Int) = 0) from by decide)) (fun hx5 => ?_)
      refine z_n 6 (97, [(3, vi t), (2, vi p), (0, vr 129), (1, vr 2)], [vi (zub (zsg (I 136) (I 129 0)) p), vi (zua (zsg (I 136) (I 129 0)) p), vr 130], ((zup (zTS I m u d 0 c (zua (zsg (I 136) (I 129 0)) p) (zub (zsg (I 136) (I 129 0)) p) (zen (zsg (I 136) (I 129 0)) p + 1)) 129 1 0), zPp π, D, 147)) rfl trivial ?_
      refine z_cv 54 [vr 130, vi (zua (zsg (I 136) (I 129 0)) p), vi (zub (zsg (I 136) (I 129 0)) p)] [] rfl (m_add130 (show 0 ≤ m ∧ m < 4 from ⟨by omega, hm4⟩)) ?_
      refine z_n 11 (25, [(3, vi (t + 1)), (2, vi (zen (zsg (I 136) (I 129 0)) p + 1)), (0, vr 129), (1, vr 2)], [], ((zup (zup (zup (zup (zup (zTS I m u d 0 c (zua (zsg (I 136) (I 129 0)) p) (zub (zsg (I 136) (I 129 0)) p) (zen (zsg (I 136) (I 129 0)) p + 1)) 129 1 0) 132 m (zua (zsg (I 136) (I 129 0)) p)) 134 m (zub (zsg (I 136) (I 129 0)) p)) 130 2 (m + 1)) 129 3 (c + 1)), zPp π, D, 147)) (G := (zr (c + 1)) ∧ (zr (t + 1)) ∧ True) rfl ⟨by omega, by omega, trivial⟩ ?_
      refine z_sub [(3, vi (t + 1)), (2, vi (zen (zsg (I 136) (I 129 0)) p + 1)), (0, vr 129), (1, vr 2)] [0, 1, 2, 3] rfl ?_
      refine z_st (σ1 := ((zTS I (m + 1) (zu1 u m (zua (zsg (I 136) (I 129 0)) p)) (zu1 d m (zub (zsg (I 136) (I 129 0)) p)) 0 (c + 1) (zua (zsg (I 136) (I 129 0)) p) (zub (zsg (I 136) (I 129 0)) p) (zen (zsg (I 136) (I 129 0)) p + 1)), zPp π, D, 147)) (by rw [zTS_1, zTS_132, zTS_134, zTS_m, zTS_3]) ?_
      exact hrun
  · obtain ⟨a', b', e', h⟩ := m_read0 (I := zTS I m u d 0 c a b e) (π := π) (D := D) (p := p) hl ht (by omega) hf
    have hr0 := h
    rw [zRd_TS] at hr0
    refine ⟨(1, p, m, u, d, c), a', b', e', Or.inr ⟨by omega, Or.inl ⟨hf, rfl⟩⟩, ?_⟩
    refine z_n 2 (28, [(3, vi t), (2, vi p), (0, vr 129), (1, vr 2)], [vi 80, vi t], ((zTS I m u d 0 c a b e), zPp π, D, 147)) rfl trivial ?_
    refine z_br (80 ≤ t) 121 31 [] rfl (fun h => absurd h (show ¬ (80 ≤ t) from by omega)) (fun hx1 => ?_)
    refine z_n 3 (36, [(3, vi t), (2, vi p), (0, vr 129), (1, vr 2)], [vi (I 129 0), vi p], ((zTS I m u d 0 c a b e), zPp π, D, 147)) rfl trivial ?_
    refine z_br ((I 129 0) ≤ p) 121 39 [] rfl (fun h => absurd h (show ¬ ((I 129 0) ≤ p) from by omega)) (fun hx2 => ?_)
    refine z_n 2 (43, [(3, vi t), (2, vi p), (0, vr 129), (1, vr 2)], [vi 0], ((zTS I m u d 0 c a b e), zPp π, D, 147)) rfl trivial ?_
    refine z_br (¬ (0 : Int) = 0) 121 46 [] rfl (fun h => absurd h (show ¬ (¬ (0 : Int) = 0) from by decide)) (fun hx3 => ?_)
    refine z_n 3 (49, [(3, vi t), (2, vi p), (0, vr 129), (1, vr 2)], [vi p, vr 129, vr 129], ((zTS I m u d 0 c a b e), zPp π, D, 147)) rfl trivial ?_
    refine z_ci 61 [vr 129, vi p] [vr 129] rfl (hr0) ?_
    refine z_br ((0 : Int) = 0) 74 55 [vr 129] rfl (fun hx4 => ?_) (fun h => absurd (show (0 : Int) = 0 from by decide) h)
    refine z_n 4 (82, [(3, vi t), (2, vi p), (0, vr 129), (1, vr 2)], [vi 1], ((zup (zTS I m u d 0 c a' b' e') 129 1 1), zPp π, D, 147)) rfl trivial ?_
    refine z_br (¬ (1 : Int) = 0) 115 85 [] rfl (fun hx5 => ?_) (fun h => absurd (show ¬ (1 : Int) = 0 from by decide) h)
    refine z_n 4 (28, [(3, vi (t + 1)), (2, vi p), (0, vr 129), (1, vr 2)], [vi 80, vi (t + 1)], ((zup (zTS I m u d 0 c a' b' e') 129 1 1), zPp π, D, 147)) (G := (zr (t + 1)) ∧ True) rfl ⟨by omega, trivial⟩ ?_
    refine z_br (80 ≤ (t + 1)) 121 31 [] rfl (fun hx6 => ?_) (fun hx6 => ?_)
    · refine z_n 3 (126, [(3, vi (t + 1)), (2, vi p), (0, vr 129), (1, vr 2)], [], ((zup (zup (zTS I m u d 0 c a' b' e') 129 1 1) 129 2 p), zPp π, D, 147)) rfl trivial ?_
      exact z_ret rfl rfl (by rw [zTS_1])
    · refine z_n 3 (36, [(3, vi (t + 1)), (2, vi p), (0, vr 129), (1, vr 2)], [vi (I 129 0), vi p], ((zup (zTS I m u d 0 c a' b' e') 129 1 1), zPp π, D, 147)) rfl trivial ?_
      refine z_br ((I 129 0) ≤ p) 121 39 [] rfl (fun h => absurd h (show ¬ ((I 129 0) ≤ p) from by omega)) (fun hx7 => ?_)
      refine z_n 2 (43, [(3, vi (t + 1)), (2, vi p), (0, vr 129), (1, vr 2)], [vi 1], ((zup (zTS I m u d 0 c a' b' e') 129 1 1), zPp π, D, 147)) rfl trivial ?_
      refine z_br (¬ (1 : Int) = 0) 121 46 [] rfl (fun hx8 => ?_) (fun h => absurd (show ¬ (1 : Int) = 0 from by decide) h)
      refine z_n 3 (126, [(3, vi (t + 1)), (2, vi p), (0, vr 129), (1, vr 2)], [], ((zup (zup (zTS I m u d 0 c a' b' e') 129 1 1) 129 2 p), zPp π, D, 147)) rfl trivial ?_
      exact z_ret rfl rfl (by rw [zTS_1])
set_option maxRecDepth 20000 in
theorem m_check {I : zI} {π : Int → Nat} {D : zD} (w : zW1 (I 2)) (v : zW2 (I 2) (I 6) (I 8)) (hl : 0 ≤ I 129 0 ∧ I 129 0 ≤ 80) (ht : ∀ p, 0 ≤ p → p < 80 → 0 ≤ I 136 p ∧ I 136 p ≤ 126) (hM : 0 ≤ I 9 2) (hd : zDis (I 2) (I 6) (I 9 2) (I 11) (I 13)) : ∃ (q : zCo) (a2 b2 e2 : Int), zCk (I 2) (I 6) (I 8) (zsg (I 136) (I 129 0)) (I 129 0) 80 0 (I 9 2) (I 11) (I 13) 0 q ∧ zMet 60 [vr 129, vr 2] (I, zPp π, D, 147) none (zup (zTS I q.2.2.1 q.2.2.2.1 q.2.2.2.2.1 q.1 q.2.2.2.2.2 a2 b2 e2) 129 2 q.2.1, zPp π, D, 147) := by
  obtain ⟨q, a2, b2, e2, hck, hrun⟩ := m_ck_l (π := π) (D := D) w v hl ht 80 0 0 (I 9 2) (I 11) (I 13) 0 (I 129 6) (I 129 7) (I 129 8) (by omega) (by omega) (by omega) hl.1 hM (by omega) hM hd
  refine ⟨q, a2, b2, e2, hck, ?_⟩
  refine z_n 4 (8, [(0, vr 129), (1, vr 2)], [vr 9, vr 130], (I, zPp π, D, 147)) rfl trivial ?_
  refine z_cv 57 [vr 130, vr 9] [] rfl (m_rcp_130_9) ?_
  refine z_n 10 (25, [(3, vi 0), (2, vi 0), (0, vr 129), (1, vr 2)], [], ((zup (zup (zup (zcpR (zcpR I 132 11) 134 13) 130 2 (I 9 2)) 129 3 0) 129 1 0), zPp π, D, 147)) rfl trivial ?_
  refine z_sub [(3, vi 0), (2, vi 0), (0, vr 129), (1, vr 2)] [0, 1, 2, 3] rfl ?_
  refine z_st (σ1 := ((zTS I (I 9 2) (I 11) (I 13) 0 0 (I 129 6) (I 129 7) (I 129 8)), zPp π, D, 147)) (by rw [zTS_0]) ?_
  exact hrun
end
section
/-- a state kept -/
noncomputable def zKe (I : zI) (π : Int → Nat) : zI := zcpC (zup I 25 1 (zkp (I 25 1))) (zkd π (I 25 1)) 2
theorem zkd_in {π : Int → Nat} (hπ : zPi π) {k : Int} (h : 0 ≤ k) : zkd π k = 27 ∨ zkd π k = 50 ∨ zkd π k = 73 ∨ zkd π k = 96 := by
  unfold zkd
  split
  · exact hπ k h (by omega)
  · exact hπ 0 (by omega) (by omega)
theorem zKe_lt {I : zI} {π : Int → Nat} (hπ : zPi π) (hk : 0 ≤ I 25 1 ∧ I 25 1 ≤ 4) {r : Nat} (h : r < 25) : zKe I π r = I r := by
  have := zkd_in hπ hk.1
  unfold zKe
  rw [zcpC_out (by omega)]
  exact zup_ne (by omega)
theorem zKe_gt {I : zI} {π : Int → Nat} (hπ : zPi π) (hk : 0 ≤ I 25 1 ∧ I 25 1 ≤ 4) {r : Nat} (h : 119 ≤ r) : zKe I π r = I r := by
  have := zkd_in hπ hk.1
  unfold zKe
  rw [zcpC_out (by omega)]
  exact zup_ne (by omega)
theorem z_tsd {y pc t len a b : Nat} {L : zL} {st : List zV} {σ τ : zS} {r : Option zV} {d lo hi : Int} {offs : Array Int} {x : Int} (hi' : zi y pc = some (.tableswitch d lo hi offs, len, a, b)) (hx : x < lo ∨ hi < x) (e : pc + d.toNat = t) (kk : zRuns y t L st σ r τ) : zRuns y pc L (vi x :: st) σ r τ := by
  subst e
  refine z_s (g := none) (σ1 := σ) (L1 := L) (pc1 := pc + d.toNat) (st1 := st) ?_ (fun P hP => by cases hP) kk
  simp only [zst, hi', zx, if_pos hx]
set_option maxRecDepth 20000 in
theorem m_begin0 {I : zI} {π : Int → Nat} {D : zD} {a b c : Int} (hq : ¬ ((2 ≤ a ∧ a ≤ 24) ∧ (3 ≤ b ∧ b ≤ 8) ∧ (1 ≤ c ∧ c ≤ 6))) : zMet 66 [vr 1, vi a, vi b, vi c] (I, zPp π, D, 147) (some (vi (-1001))) (I, zPp π, D, 147) := by
  refine z_n 2 (2, [(0, vr 1), (1, vi a), (2, vi b), (3, vi c)], [vi 2, vi a], (I, zPp π, D, 147)) rfl trivial ?_
  refine z_br (a < 2) 33 5 [] rfl (fun hx1 => ?_) (fun hx1 => ?_)
  · refine z_n 1 (36, [(0, vr 1), (1, vi a), (2, vi b), (3, vi c)], [vi (-1001)], (I, zPp π, D, 147)) rfl trivial ?_
    exact z_ret rfl rfl rfl
  · refine z_n 2 (8, [(0, vr 1), (1, vi a), (2, vi b), (3, vi c)], [vi 24, vi a], (I, zPp π, D, 147)) rfl trivial ?_
    refine z_br (24 < a) 33 11 [] rfl (fun hx2 => ?_) (fun hx2 => ?_)
    · refine z_n 1 (36, [(0, vr 1), (1, vi a), (2, vi b), (3, vi c)], [vi (-1001)], (I, zPp π, D, 147)) rfl trivial ?_
      exact z_ret rfl rfl rfl
    · refine z_n 2 (13, [(0, vr 1), (1, vi a), (2, vi b), (3, vi c)], [vi 3, vi b], (I, zPp π, D, 147)) rfl trivial ?_
      refine z_br (b < 3) 33 16 [] rfl (fun hx3 => ?_) (fun hx3 => ?_)
      · refine z_n 1 (36, [(0, vr 1), (1, vi a), (2, vi b), (3, vi c)], [vi (-1001)], (I, zPp π, D, 147)) rfl trivial ?_
        exact z_ret rfl rfl rfl
      · refine z_n 2 (19, [(0, vr 1), (1, vi a), (2, vi b), (3, vi c)], [vi 8, vi b], (I, zPp π, D, 147)) rfl trivial ?_
        refine z_br (8 < b) 33 22 [] rfl (fun hx4 => ?_) (fun hx4 => ?_)
        · refine z_n 1 (36, [(0, vr 1), (1, vi a), (2, vi b), (3, vi c)], [vi (-1001)], (I, zPp π, D, 147)) rfl trivial ?_
          exact z_ret rfl rfl rfl
        · refine z_n 2 (24, [(0, vr 1), (1, vi a), (2, vi b), (3, vi c)], [vi 1, vi c], (I, zPp π, D, 147)) rfl trivial ?_
          refine z_br (c < 1) 33 27 [] rfl (fun hx5 => ?_) (fun hx5 => ?_)
          · refine z_n 1 (36, [(0, vr 1), (1, vi a), (2, vi b), (3, vi c)], [vi (-1001)], (I, zPp π, D, 147)) rfl trivial ?_
            exact z_ret rfl rfl rfl
          · refine z_n 2 (30, [(0, vr 1), (1, vi a), (2, vi b), (3, vi c)], [vi 6, vi c], (I, zPp π, D, 147)) rfl trivial ?_
            refine z_br (c ≤ 6) 37 33 [] rfl (fun h => absurd h (show ¬ (c ≤ 6) from by omega)) (fun hx6 => ?_)
            refine z_n 1 (36, [(0, vr 1), (1, vi a), (2, vi b), (3, vi c)], [vi (-1001)], (I, zPp π, D, 147)) rfl trivial ?_
            exact z_ret rfl rfl rfl
set_option maxRecDepth 20000 in
theorem m_begin1 {I : zI} {π : Int → Nat} {D : zD} {a b c : Int} {J : zI}  (hq : (2 ≤ a ∧ a ≤ 24) ∧ (3 ≤ b ∧ b ≤ 8) ∧ (1 ≤ c ∧ c ≤ 6)) (hP : ∀ c, 0 ≤ c → c < 24 → 0 ≤ I 6 c ∧ I 6 c < 24) (hπ : zPi π) (hk : 0 ≤ I 25 1 ∧ I 25 1 ≤ 4) (eJ : J = zKe I π) : zMet 66 [vr 1, vi a, vi b, vi c] (I, zPp π, D, 147) (some (vi ((a + b - 1) / b))) ((zBeg (zup (zup (zup (zup J 2 5 a) 2 6 b) 2 7 c) 2 8 0)), zPp (zkr π (I 25 1)), D, 147) := by
  have hkp : zMet 40 [vr 25, vr 2] (I, zPp π, D, 147) none (J, zPp (zkr π (I 25 1)), D, 147) := by rw [eJ]; exact m_keep hπ hk
  have hJ : ∀ r, r < 25 → J r = I r := by rw [eJ]; exact fun r h => zKe_lt hπ hk h
  have hPJ : ∀ c, 0 ≤ c → c < 24 → 0 ≤ J 6 c ∧ J 6 c < 24 := by rw [hJ 6 (by decide)]; exact hP
  refine z_n 2 (2, [(0, vr 1), (1, vi a), (2, vi b), (3, vi c)], [vi 2, vi a], (I, zPp π, D, 147)) rfl trivial ?_
  refine z_br (a < 2) 33 5 [] rfl (fun h => absurd h (show ¬ (a < 2) from by omega)) (fun hx1 => ?_)
  refine z_n 2 (8, [(0, vr 1), (1, vi a), (2, vi b), (3, vi c)], [vi 24, vi a], (I, zPp π, D, 147)) rfl trivial ?_
  refine z_br (24 < a) 33 11 [] rfl (fun h => absurd h (show ¬ (24 < a) from by omega)) (fun hx2 => ?_)
  refine z_n 2 (13, [(0, vr 1), (1, vi a), (2, vi b), (3, vi c)], [vi 3, vi b], (I, zPp π, D, 147)) rfl trivial ?_
  refine z_br (b < 3) 33 16 [] rfl (fun h => absurd h (show ¬ (b < 3) from by omega)) (fun hx3 => ?_)
  refine z_n 2 (19, [(0, vr 1), (1, vi a), (2, vi b), (3, vi c)], [vi 8, vi b], (I, zPp π, D, 147)) rfl trivial ?_
  refine z_br (8 < b) 33 22 [] rfl (fun h => absurd h (show ¬ (8 < b) from by omega)) (fun hx4 => ?_)
  refine z_n 2 (24, [(0, vr 1), (1, vi a), (2, vi b), (3, vi c)], [vi 1, vi c], (I, zPp π, D, 147)) rfl trivial ?_
  refine z_br (c < 1) 33 27 [] rfl (fun h => absurd h (show ¬ (c < 1) from by omega)) (fun hx5 => ?_)
  refine z_n 2 (30, [(0, vr 1), (1, vi a), (2, vi b), (3, vi c)], [vi 6, vi c], (I, zPp π, D, 147)) rfl trivial ?_
  refine z_br (c ≤ 6) 37 33 [] rfl (fun hx6 => ?_) (fun h => absurd (show c ≤ 6 from by omega) h)
  refine z_n 4 (45, [(0, vr 1), (1, vi a), (2, vi b), (3, vi c)], [vr 2, vr 25], (I, zPp π, D, 147)) rfl trivial ?_
  refine z_cv 40 [vr 25, vr 2] [] rfl (hkp) ?_
  refine z_n 5 (55, [(0, vr 1), (1, vi a), (2, vi b), (3, vi c)], [vi c, vi b, vi a, vr 2], (J, zPp (zkr π (I 25 1)), D, 147)) rfl trivial ?_
  refine z_cv 5 [vr 2, vi a, vi b, vi c] [] rfl (m_anew (I := J) hq.1 hq.2.1 hq.2.2 hPJ) ?_
  refine z_n 2 (62, [(0, vr 1), (1, vi a), (2, vi b), (3, vi c)], [vr 2], ((zBeg (zup (zup (zup (zup J 2 5 a) 2 6 b) 2 7 c) 2 8 0)), zPp (zkr π (I 25 1)), D, 147)) rfl trivial ?_
  refine z_ci 9 [vr 2] [] rfl (m_div2 (I := zBeg (zup (zup (zup (zup J 2 5 a) 2 6 b) 2 7 c) 2 8 0)) (show 0 ≤ a ∧ a ≤ 24 from by omega) (show 3 ≤ b ∧ b ≤ 8 from hq.2.1)) ?_
  exact z_ret rfl rfl rfl
set_option maxRecDepth 20000 in
theorem m_setSpeed0 {I : zI} {π : Int → Nat} {D : zD} {c x : Int} (hq : ¬ ((0 ≤ c ∧ c < I 2 5) ∧ (1 ≤ x ∧ x ≤ 1000))) : zMet 67 [vr 1, vi c, vi x] (I, zPp π, D, 147) (some (vi (-1001))) (I, zPp π, D, 147) := by
  refine z_n 3 (5, [(0, vr 1), (1, vi c), (2, vi x)], [vi c, vr 2], (I, zPp π, D, 147)) rfl trivial ?_
  by_cases hx1 : 0 ≤ c ∧ c < I 2 5
  · refine z_ci 6 [vr 2, vi c] [] rfl (m_hasCrew1 hx1) ?_
    refine z_br ((1 : Int) = 0) 23 11 [] rfl (fun h => absurd h (show ¬ ((1 : Int) = 0) from by decide)) (fun hx2 => ?_)
    refine z_n 2 (13, [(0, vr 1), (1, vi c), (2, vi x)], [vi 1, vi x], (I, zPp π, D, 147)) rfl trivial ?_
    refine z_br (x < 1) 23 16 [] rfl (fun hx3 => ?_) (fun hx3 => ?_)
    · refine z_n 1 (26, [(0, vr 1), (1, vi c), (2, vi x)], [vi (-1001)], (I, zPp π, D, 147)) rfl trivial ?_
      first | exact z_ret rfl rfl rfl | exact z_ret rfl (zv1 (by omega)) rfl | (exfalso; omega)
    · refine z_n 2 (20, [(0, vr 1), (1, vi c), (2, vi x)], [vi 1000, vi x], (I, zPp π, D, 147)) rfl trivial ?_
      refine z_br (x ≤ 1000) 27 23 [] rfl (fun h => absurd h (show ¬ (x ≤ 1000) from by omega)) (fun hx4 => ?_)
      refine z_n 1 (26, [(0, vr 1), (1, vi c), (2, vi x)], [vi (-1001)], (I, zPp π, D, 147)) rfl trivial ?_
      first | exact z_ret rfl rfl rfl | exact z_ret rfl (zv1 (by omega)) rfl | (exfalso; omega)
  · refine z_ci 6 [vr 2, vi c] [] rfl (m_hasCrew0 hx1) ?_
    refine z_br ((0 : Int) = 0) 23 11 [] rfl (fun hx5 => ?_) (fun h => absurd (show (0 : Int) = 0 from by decide) h)
    refine z_n 1 (26, [(0, vr 1), (1, vi c), (2, vi x)], [vi (-1001)], (I, zPp π, D, 147)) rfl trivial ?_
    first | exact z_ret rfl rfl rfl | exact z_ret rfl (zv1 (by omega)) rfl | (exfalso; omega)
set_option maxRecDepth 20000 in
theorem m_setSpeed1 {I : zI} {π : Int → Nat} {D : zD} {c x : Int} {J : zI}  (hq : (0 ≤ c ∧ c < I 2 5) ∧ (1 ≤ x ∧ x ≤ 1000)) (hN : I 2 5 ≤ 24) (hπ : zPi π) (hk : 0 ≤ I 25 1 ∧ I 25 1 ≤ 4) (eJ : J = zKe I π) : zMet 67 [vr 1, vi c, vi x] (I, zPp π, D, 147) (some (vi (I 4 c))) ((zup J 4 c x), zPp (zkr π (I 25 1)), D, 147) := by
  have hkp : zMet 40 [vr 25, vr 2] (I, zPp π, D, 147) none (J, zPp (zkr π (I 25 1)), D, 147) := by rw [eJ]; exact m_keep hπ hk
  have hJ : ∀ r, r < 25 → J r = I r := by rw [eJ]; exact fun r h => zKe_lt hπ hk h
  refine z_n 3 (5, [(0, vr 1), (1, vi c), (2, vi x)], [vi c, vr 2], (I, zPp π, D, 147)) rfl trivial ?_
  refine z_ci 6 [vr 2, vi c] [] rfl (m_hasCrew1 hq.1) ?_
  refine z_br ((1 : Int) = 0) 23 11 [] rfl (fun h => absurd h (show ¬ ((1 : Int) = 0) from by decide)) (fun hx1 => ?_)
  refine z_n 2 (13, [(0, vr 1), (1, vi c), (2, vi x)], [vi 1, vi x], (I, zPp π, D, 147)) rfl trivial ?_
  refine z_br (x < 1) 23 16 [] rfl (fun h => absurd h (show ¬ (x < 1) from by omega)) (fun hx2 => ?_)
  refine z_n 2 (20, [(0, vr 1), (1, vi c), (2, vi x)], [vi 1000, vi x], (I, zPp π, D, 147)) rfl trivial ?_
  refine z_br (x ≤ 1000) 27 23 [] rfl (fun hx3 => ?_) (fun h => absurd (show x ≤ 1000 from by omega) h)
  refine z_n 4 (35, [(0, vr 1), (1, vi c), (2, vi x)], [vr 2, vr 25], (I, zPp π, D, 147)) rfl trivial ?_
  refine z_cv 40 [vr 25, vr 2] [] rfl (hkp) ?_
  refine z_n 4 (46, [(0, vr 1), (1, vi c), (2, vi x)], [vi c, vr 3], (J, zPp (zkr π (I 25 1)), D, 147)) rfl trivial ?_
  refine z_ci 1 [vr 3, vi c] [] rfl (m_get (n := 24) ⟨rfl, rfl, rfl, rfl⟩ (by omega) (by omega)) ?_
  refine z_n 6 (59, [(3, vi (J 4 c)), (0, vr 1), (1, vi c), (2, vi x)], [vi x, vi c, vr 3], (J, zPp (zkr π (I 25 1)), D, 147)) rfl trivial ?_
  refine z_cv 2 [vr 3, vi c, vi x] [] rfl (m_put (n := 24) ⟨rfl, rfl, rfl, rfl⟩ (by omega) (by omega)) ?_
  refine z_n 1 (63, [(3, vi (J 4 c)), (0, vr 1), (1, vi c), (2, vi x)], [vi (J 4 c)], ((zup J 4 c x), zPp (zkr π (I 25 1)), D, 147)) rfl trivial ?_
  exact z_ret rfl (zv1 (by simp only [hJ 4 (by decide)])) rfl
set_option maxRecDepth 20000 in
theorem m_setx {I : zI} {π : Int → Nat} {D : zD} {a x : Int} (hq : ¬ ((a = 0 ∧ 100 ≤ x ∧ x ≤ 5000) ∨ (a = 1 ∧ 1 ≤ x ∧ x ≤ 1000))) : zMet 68 [vr 1, vi a, vi x] (I, zPp π, D, 147) (some (vi (-1001))) (I, zPp π, D, 147) := by
  refine z_n 1 (1, [(0, vr 1), (1, vi a), (2, vi x)], [vi a], (I, zPp π, D, 147)) rfl trivial ?_
  refine z_br (¬ a = 0) 46 4 [] rfl (fun hx1 => ?_) (fun hx1 => ?_)
  · refine z_n 2 (48, [(0, vr 1), (1, vi a), (2, vi x)], [vi 1, vi a], (I, zPp π, D, 147)) rfl trivial ?_
    refine z_br (¬ a = 1) 92 51 [] rfl (fun hx2 => ?_) (fun hx2 => ?_)
    · refine z_n 1 (95, [(0, vr 1), (1, vi a), (2, vi x)], [vi (-1001)], (I, zPp π, D, 147)) rfl trivial ?_
      first | exact z_ret rfl rfl rfl | exact z_ret rfl (zv1 (by omega)) rfl | (exfalso; omega)
    · refine z_n 2 (53, [(0, vr 1), (1, vi a), (2, vi x)], [vi 1, vi x], (I, zPp π, D, 147)) rfl trivial ?_
      refine z_br (x < 1) 92 56 [] rfl (fun hx3 => ?_) (fun hx3 => ?_)
      · refine z_n 1 (95, [(0, vr 1), (1, vi a), (2, vi x)], [vi (-1001)], (I, zPp π, D, 147)) rfl trivial ?_
        first | exact z_ret rfl rfl rfl | exact z_ret rfl (zv1 (by omega)) rfl | (exfalso; omega)
      · refine z_n 2 (60, [(0, vr 1), (1, vi a), (2, vi x)], [vi 1000, vi x], (I, zPp π, D, 147)) rfl trivial ?_
        refine z_br (1000 < x) 92 63 [] rfl (fun hx4 => ?_) (fun h => absurd (show 1000 < x from by omega) h)
        refine z_n 1 (95, [(0, vr 1), (1, vi a), (2, vi x)], [vi (-1001)], (I, zPp π, D, 147)) rfl trivial ?_
        first | exact z_ret rfl rfl rfl | exact z_ret rfl (zv1 (by omega)) rfl | (exfalso; omega)
  · refine z_n 2 (7, [(0, vr 1), (1, vi a), (2, vi x)], [vi 100, vi x], (I, zPp π, D, 147)) rfl trivial ?_
    refine z_br (x < 100) 46 10 [] rfl (fun hx5 => ?_) (fun hx5 => ?_)
    · refine z_n 2 (48, [(0, vr 1), (1, vi a), (2, vi x)], [vi 1, vi a], (I, zPp π, D, 147)) rfl trivial ?_
      refine z_br (¬ a = 1) 92 51 [] rfl (fun hx6 => ?_) (fun hx6 => ?_)
      · refine z_n 1 (95, [(0, vr 1), (1, vi a), (2, vi x)], [vi (-1001)], (I, zPp π, D, 147)) rfl trivial ?_
        first | exact z_ret rfl rfl rfl | exact z_ret rfl (zv1 (by omega)) rfl | (exfalso; omega)
      · refine z_n 2 (53, [(0, vr 1), (1, vi a), (2, vi x)], [vi 1, vi x], (I, zPp π, D, 147)) rfl trivial ?_
        refine z_br (x < 1) 92 56 [] rfl (fun hx7 => ?_) (fun hx7 => ?_)
        · refine z_n 1 (95, [(0, vr 1), (1, vi a), (2, vi x)], [vi (-1001)], (I, zPp π, D, 147)) rfl trivial ?_
          first | exact z_ret rfl rfl rfl | exact z_ret rfl (zv1 (by omega)) rfl | (exfalso; omega)
        · refine z_n 2 (60, [(0, vr 1), (1, vi a), (2, vi x)], [vi 1000, vi x], (I, zPp π, D, 147)) rfl trivial ?_
          refine z_br (1000 < x) 92 63 [] rfl (fun hx8 => ?_) (fun h => absurd (show 1000 < x from by omega) h)
          refine z_n 1 (95, [(0, vr 1), (1, vi a), (2, vi x)], [vi (-1001)], (I, zPp π, D, 147)) rfl trivial ?_
          first | exact z_ret rfl rfl rfl | exact z_ret rfl (zv1 (by omega)) rfl | (exfalso; omega)
    · refine z_n 2 (14, [(0, vr 1), (1, vi a), (2, vi x)], [vi 5000, vi x], (I, zPp π, D, 147)) rfl trivial ?_
      refine z_br (5000 < x) 46 17 [] rfl (fun hx9 => ?_) (fun h => absurd (show 5000 < x from by omega) h)
      refine z_n 2 (48, [(0, vr 1), (1, vi a), (2, vi x)], [vi 1, vi a], (I, zPp π, D, 147)) rfl trivial ?_
      refine z_br (¬ a = 1) 92 51 [] rfl (fun hx10 => ?_) (fun hx10 => ?_)
      · refine z_n 1 (95, [(0, vr 1), (1, vi a), (2, vi x)], [vi (-1001)], (I, zPp π, D, 147)) rfl trivial ?_
        first | exact z_ret rfl rfl rfl | exact z_ret rfl (zv1 (by omega)) rfl | (exfalso; omega)
      · refine z_n 2 (53, [(0, vr 1), (1, vi a), (2, vi x)], [vi 1, vi x], (I, zPp π, D, 147)) rfl trivial ?_
        refine z_br (x < 1) 92 56 [] rfl (fun hx11 => ?_) (fun hx11 => ?_)
        · refine z_n 1 (95, [(0, vr 1), (1, vi a), (2, vi x)], [vi (-1001)], (I, zPp π, D, 147)) rfl trivial ?_
          first | exact z_ret rfl rfl rfl | exact z_ret rfl (zv1 (by omega)) rfl | (exfalso; omega)
        · refine z_n 2 (60, [(0, vr 1), (1, vi a), (2, vi x)], [vi 1000, vi x], (I, zPp π, D, 147)) rfl trivial ?_
          refine z_br (1000 < x) 92 63 [] rfl (fun hx12 => ?_) (fun h => absurd (show 1000 < x from by omega) h)
          refine z_n 1 (95, [(0, vr 1), (1, vi a), (2, vi x)], [vi (-1001)], (I, zPp π, D, 147)) rfl trivial ?_
          first | exact z_ret rfl rfl rfl | exact z_ret rfl (zv1 (by omega)) rfl | (exfalso; omega)
set_option maxRecDepth 20000 in
theorem m_set0 {I : zI} {π : Int → Nat} {D : zD} {x : Int} {J : zI}  (hq : 100 ≤ x ∧ x ≤ 5000) (hπ : zPi π) (hk : 0 ≤ I 25 1 ∧ I 25 1 ≤ 4) (eJ : J = zKe I π) : zMet 68 [vr 1, vi 0, vi x] (I, zPp π, D, 147) (some (vi (I 2 10))) ((zup J 2 10 x), zPp (zkr π (I 25 1)), D, 147) := by
  have hkp : zMet 40 [vr 25, vr 2] (I, zPp π, D, 147) none (J, zPp (zkr π (I 25 1)), D, 147) := by rw [eJ]; exact m_keep hπ hk
  have hJ : ∀ r, r < 25 → J r = I r := by rw [eJ]; exact fun r h => zKe_lt hπ hk h
  refine z_n 1 (1, [(0, vr 1), (1, vi 0), (2, vi x)], [vi 0], (I, zPp π, D, 147)) rfl trivial ?_
  refine z_br (¬ (0 : Int) = 0) 46 4 [] rfl (fun h => absurd h (show ¬ (¬ (0 : Int) = 0) from by decide)) (fun hx1 => ?_)
  refine z_n 2 (7, [(0, vr 1), (1, vi 0), (2, vi x)], [vi 100, vi x], (I, zPp π, D, 147)) rfl trivial ?_
  refine z_br (x < 100) 46 10 [] rfl (fun h => absurd h (show ¬ (x < 100) from by omega)) (fun hx2 => ?_)
  refine z_n 2 (14, [(0, vr 1), (1, vi 0), (2, vi x)], [vi 5000, vi x], (I, zPp π, D, 147)) rfl trivial ?_
  refine z_br (5000 < x) 46 17 [] rfl (fun h => absurd h (show ¬ (5000 < x) from by omega)) (fun hx3 => ?_)
  refine z_n 4 (25, [(0, vr 1), (1, vi 0), (2, vi x)], [vr 2, vr 25], (I, zPp π, D, 147)) rfl trivial ?_
  refine z_cv 40 [vr 25, vr 2] [] rfl (hkp) ?_
  refine z_n 9 (45, [(3, vi (J 2 10)), (0, vr 1), (1, vi 0), (2, vi x)], [vi (J 2 10)], ((zup J 2 10 x), zPp (zkr π (I 25 1)), D, 147)) rfl trivial ?_
  exact z_ret rfl (zv1 (by simp only [hJ 2 (by decide)])) rfl
set_option maxRecDepth 20000 in
theorem m_set1 {I : zI} {π : Int → Nat} {D : zD} {x : Int} {J : zI}  (hq : 1 ≤ x ∧ x ≤ 1000) (hπ : zPi π) (hk : 0 ≤ I 25 1 ∧ I 25 1 ≤ 4) (eJ : J = zKe I π) : zMet 68 [vr 1, vi 1, vi x] (I, zPp π, D, 147) (some (vi (I 2 11))) ((zup J 2 11 x), zPp (zkr π (I 25 1)), D, 147) := by
  have hkp : zMet 40 [vr 25, vr 2] (I, zPp π, D, 147) none (J, zPp (zkr π (I 25 1)), D, 147) := by rw [eJ]; exact m_keep hπ hk
  have hJ : ∀ r, r < 25 → J r = I r := by rw [eJ]; exact fun r h => zKe_lt hπ hk h
  refine z_n 1 (1, [(0, vr 1), (1, vi 1), (2, vi x)], [vi 1], (I, zPp π, D, 147)) rfl trivial ?_
  refine z_br (¬ (1 : Int) = 0) 46 4 [] rfl (fun hx1 => ?_) (fun h => absurd (show ¬ (1 : Int) = 0 from by decide) h)
  refine z_n 2 (48, [(0, vr 1), (1, vi 1), (2, vi x)], [vi 1, vi 1], (I, zPp π, D, 147)) rfl trivial ?_
  refine z_br (¬ (1 : Int) = 1) 92 51 [] rfl (fun h => absurd h (show ¬ (¬ (1 : Int) = 1) from by decide)) (fun hx2 => ?_)
  refine z_n 2 (53, [(0, vr 1), (1, vi 1), (2, vi x)], [vi 1, vi x], (I, zPp π, D, 147)) rfl trivial ?_
  refine z_br (x < 1) 92 56 [] rfl (fun h => absurd h (show ¬ (x < 1) from by omega)) (fun hx3 => ?_)
  refine z_n 2 (60, [(0, vr 1), (1, vi 1), (2, vi x)], [vi 1000, vi x], (I, zPp π, D, 147)) rfl trivial ?_
  refine z_br (1000 < x) 92 63 [] rfl (fun h => absurd h (show ¬ (1000 < x) from by omega)) (fun hx4 => ?_)
  refine z_n 4 (71, [(0, vr 1), (1, vi 1), (2, vi x)], [vr 2, vr 25], (I, zPp π, D, 147)) rfl trivial ?_
  refine z_cv 40 [vr 25, vr 2] [] rfl (hkp) ?_
  refine z_n 9 (91, [(3, vi (J 2 11)), (0, vr 1), (1, vi 1), (2, vi x)], [vi (J 2 11)], ((zup J 2 11 x), zPp (zkr π (I 25 1)), D, 147)) rfl trivial ?_
  exact z_ret rfl (zv1 (by simp only [hJ 2 (by decide)])) rfl
set_option maxRecDepth 20000 in
theorem m_count0 {I : zI} {π : Int → Nat} {D : zD}   : zMet 69 [vr 1, vi 0] (I, zPp π, D, 147) (some (vi (I 2 5))) (I, zPp π, D, 147) := by
  refine z_n 5 (75, [(0, vr 1), (1, vi 0)], [vi (I 2 5)], (I, zPp π, D, 147)) rfl trivial ?_
  first | exact z_ret rfl rfl rfl | exact z_ret rfl (zv1 (by omega)) rfl | (exfalso; omega)
set_option maxRecDepth 20000 in
theorem m_count1 {I : zI} {π : Int → Nat} {D : zD}   : zMet 69 [vr 1, vi 1] (I, zPp π, D, 147) (some (vi (I 2 6))) (I, zPp π, D, 147) := by
  refine z_n 5 (83, [(0, vr 1), (1, vi 1)], [vi (I 2 6)], (I, zPp π, D, 147)) rfl trivial ?_
  first | exact z_ret rfl rfl rfl | exact z_ret rfl (zv1 (by omega)) rfl | (exfalso; omega)
set_option maxRecDepth 20000 in
theorem m_count2 {I : zI} {π : Int → Nat} {D : zD}  (w : zW1 (I 2)) : zMet 69 [vr 1, vi 2] (I, zPp π, D, 147) (some (vi ((I 2 5 + I 2 6 - 1) / I 2 6))) (I, zPp π, D, 147) := by
  refine z_n 4 (88, [(0, vr 1), (1, vi 2)], [vr 2], (I, zPp π, D, 147)) rfl trivial ?_
  refine z_ci 9 [vr 2] [] rfl (m_divisions w) ?_
  first | exact z_ret rfl rfl rfl | exact z_ret rfl (zv1 (by omega)) rfl | (exfalso; omega)
set_option maxRecDepth 20000 in
theorem m_count3 {I : zI} {π : Int → Nat} {D : zD}   : zMet 69 [vr 1, vi 3] (I, zPp π, D, 147) (some (vi (I 2 7))) (I, zPp π, D, 147) := by
  refine z_n 5 (99, [(0, vr 1), (1, vi 3)], [vi (I 2 7)], (I, zPp π, D, 147)) rfl trivial ?_
  first | exact z_ret rfl rfl rfl | exact z_ret rfl (zv1 (by omega)) rfl | (exfalso; omega)
set_option maxRecDepth 20000 in
theorem m_count4 {I : zI} {π : Int → Nat} {D : zD}   : zMet 69 [vr 1, vi 4] (I, zPp π, D, 147) (some (vi (I 2 8))) (I, zPp π, D, 147) := by
  refine z_n 5 (107, [(0, vr 1), (1, vi 4)], [vi (I 2 8)], (I, zPp π, D, 147)) rfl trivial ?_
  first | exact z_ret rfl rfl rfl | exact z_ret rfl (zv1 (by omega)) rfl | (exfalso; omega)
set_option maxRecDepth 20000 in
theorem m_count5 {I : zI} {π : Int → Nat} {D : zD}  (w : zW1 (I 2)) : zMet 69 [vr 1, vi 5] (I, zPp π, D, 147) (some (vi (if I 2 9 = -1 then -1004 else I 2 9))) (I, zPp π, D, 147) := by
  refine z_n 4 (112, [(0, vr 1), (1, vi 5)], [vr 2], (I, zPp π, D, 147)) rfl trivial ?_
  by_cases hx1 : ¬ I 2 9 = -1
  · refine z_ci 8 [vr 2] [] rfl (m_hasRace1 hx1) ?_
    refine z_br ((1 : Int) = 0) 128 118 [] rfl (fun h => absurd h (show ¬ ((1 : Int) = 0) from by decide)) (fun hx2 => ?_)
    refine z_n 4 (131, [(0, vr 1), (1, vi 5)], [vi (I 2 9)], (I, zPp π, D, 147)) rfl trivial ?_
    first | exact z_ret rfl rfl rfl | exact z_ret rfl (zv1 (by omega)) rfl | (exfalso; omega)
  · refine z_ci 8 [vr 2] [] rfl (m_hasRace0 hx1) ?_
    refine z_br ((0 : Int) = 0) 128 118 [] rfl (fun hx3 => ?_) (fun h => absurd (show (0 : Int) = 0 from by decide) h)
    refine z_n 1 (131, [(0, vr 1), (1, vi 5)], [vi (-1004)], (I, zPp π, D, 147)) rfl trivial ?_
    first | exact z_ret rfl rfl rfl | exact z_ret rfl (zv1 (by omega)) rfl | (exfalso; omega)
set_option maxRecDepth 20000 in
theorem m_count6 {I : zI} {π : Int → Nat} {D : zD}  (w : zW1 (I 2)) : zMet 69 [vr 1, vi 6] (I, zPp π, D, 147) (some (vi (if I 2 9 = -1 then -1004 else I 9 2))) (I, zPp π, D, 147) := by
  refine z_n 4 (136, [(0, vr 1), (1, vi 6)], [vr 2], (I, zPp π, D, 147)) rfl trivial ?_
  by_cases hx1 : ¬ I 2 9 = -1
  · refine z_ci 8 [vr 2] [] rfl (m_hasRace1 hx1) ?_
    refine z_br ((1 : Int) = 0) 155 142 [] rfl (fun h => absurd h (show ¬ ((1 : Int) = 0) from by decide)) (fun hx2 => ?_)
    refine z_n 5 (158, [(0, vr 1), (1, vi 6)], [vi (I 9 2)], (I, zPp π, D, 147)) rfl trivial ?_
    first | exact z_ret rfl rfl rfl | exact z_ret rfl (zv1 (by omega)) rfl | (exfalso; omega)
  · refine z_ci 8 [vr 2] [] rfl (m_hasRace0 hx1) ?_
    refine z_br ((0 : Int) = 0) 155 142 [] rfl (fun hx3 => ?_) (fun h => absurd (show (0 : Int) = 0 from by decide) h)
    refine z_n 1 (158, [(0, vr 1), (1, vi 6)], [vi (-1004)], (I, zPp π, D, 147)) rfl trivial ?_
    first | exact z_ret rfl rfl rfl | exact z_ret rfl (zv1 (by omega)) rfl | (exfalso; omega)
set_option maxRecDepth 20000 in
theorem m_count7 {I : zI} {π : Int → Nat} {D : zD}  (w : zW1 (I 2)) : zMet 69 [vr 1, vi 7] (I, zPp π, D, 147) (some (vi (if I 2 9 = -1 then -1004 else zns (I 2)))) (I, zPp π, D, 147) := by
  refine z_n 4 (163, [(0, vr 1), (1, vi 7)], [vr 2], (I, zPp π, D, 147)) rfl trivial ?_
  by_cases hx1 : ¬ I 2 9 = -1
  · refine z_ci 8 [vr 2] [] rfl (m_hasRace1 hx1) ?_
    refine z_br ((1 : Int) = 0) 179 169 [] rfl (fun h => absurd h (show ¬ ((1 : Int) = 0) from by decide)) (fun hx2 => ?_)
    refine z_n 2 (173, [(0, vr 1), (1, vi 7)], [vr 2], (I, zPp π, D, 147)) rfl trivial ?_
    refine z_ci 12 [vr 2] [] rfl (m_starters w) ?_
    refine z_n 1 (182, [(0, vr 1), (1, vi 7)], [vi (zns (I 2))], (I, zPp π, D, 147)) rfl trivial ?_
    first | exact z_ret rfl rfl rfl | exact z_ret rfl (zv1 (by omega)) rfl | (exfalso; omega)
  · refine z_ci 8 [vr 2] [] rfl (m_hasRace0 hx1) ?_
    refine z_br ((0 : Int) = 0) 179 169 [] rfl (fun hx3 => ?_) (fun h => absurd (show (0 : Int) = 0 from by decide) h)
    refine z_n 1 (182, [(0, vr 1), (1, vi 7)], [vi (-1004)], (I, zPp π, D, 147)) rfl trivial ?_
    first | exact z_ret rfl rfl rfl | exact z_ret rfl (zv1 (by omega)) rfl | (exfalso; omega)
set_option maxRecDepth 20000 in
theorem m_count8 {I : zI} {π : Int → Nat} {D : zD}   : zMet 69 [vr 1, vi 8] (I, zPp π, D, 147) (some (vi (I 2 10))) (I, zPp π, D, 147) := by
  refine z_n 5 (190, [(0, vr 1), (1, vi 8)], [vi (I 2 10)], (I, zPp π, D, 147)) rfl trivial ?_
  first | exact z_ret rfl rfl rfl | exact z_ret rfl (zv1 (by omega)) rfl | (exfalso; omega)
set_option maxRecDepth 20000 in
theorem m_count9 {I : zI} {π : Int → Nat} {D : zD}   : zMet 69 [vr 1, vi 9] (I, zPp π, D, 147) (some (vi (I 2 11))) (I, zPp π, D, 147) := by
  refine z_n 5 (198, [(0, vr 1), (1, vi 9)], [vi (I 2 11)], (I, zPp π, D, 147)) rfl trivial ?_
  first | exact z_ret rfl rfl rfl | exact z_ret rfl (zv1 (by omega)) rfl | (exfalso; omega)
set_option maxRecDepth 20000 in
theorem m_count10 {I : zI} {π : Int → Nat} {D : zD}   : zMet 69 [vr 1, vi 10] (I, zPp π, D, 147) (some (vi (I 25 1))) (I, zPp π, D, 147) := by
  refine z_n 5 (206, [(0, vr 1), (1, vi 10)], [vi (I 25 1)], (I, zPp π, D, 147)) rfl trivial ?_
  first | exact z_ret rfl rfl rfl | exact z_ret rfl (zv1 (by omega)) rfl | (exfalso; omega)
set_option maxRecDepth 20000 in
theorem m_count11 {I : zI} {π : Int → Nat} {D : zD}   : zMet 69 [vr 1, vi 11] (I, zPp π, D, 147) (some (vi (I 129 0))) (I, zPp π, D, 147) := by
  refine z_n 5 (214, [(0, vr 1), (1, vi 11)], [vi (I 129 0)], (I, zPp π, D, 147)) rfl trivial ?_
  first | exact z_ret rfl rfl rfl | exact z_ret rfl (zv1 (by omega)) rfl | (exfalso; omega)
set_option maxRecDepth 20000 in
theorem m_count12 {I : zI} {π : Int → Nat} {D : zD}   : zMet 69 [vr 1, vi 12] (I, zPp π, D, 147) (some (vi (I 8 0))) (I, zPp π, D, 147) := by
  refine z_n 6 (223, [(0, vr 1), (1, vi 12)], [vi 0, vr 7], (I, zPp π, D, 147)) rfl trivial ?_
  refine z_ci 1 [vr 7, vi 0] [] rfl (m_get (n := 24) ⟨rfl, rfl, rfl, rfl⟩ (by omega) (by omega)) ?_
  first | exact z_ret rfl rfl rfl | exact z_ret rfl (zv1 (by omega)) rfl | (exfalso; omega)
set_option maxRecDepth 20000 in
theorem m_countx {I : zI} {π : Int → Nat} {D : zD} {a : Int} (hq : a < 0 ∨ 12 < a) : zMet 69 [vr 1, vi a] (I, zPp π, D, 147) (some (vi (-1001))) (I, zPp π, D, 147) := by
  refine z_n 1 (1, [(0, vr 1), (1, vi a)], [vi a], (I, zPp π, D, 147)) rfl trivial ?_
  refine z_tsd rfl (by omega) (show 1 + Int.toNat 226 = 227 from rfl) ?_
  refine z_n 1 (230, [(0, vr 1), (1, vi a)], [vi (-1001)], (I, zPp π, D, 147)) rfl trivial ?_
  first | exact z_ret rfl rfl rfl | exact z_ret rfl (zv1 (by omega)) rfl | (exfalso; omega)
set_option maxRecDepth 20000 in
theorem m_outf1 {I : zI} {π : Int → Nat} {D : zD} {c : Int} (hM : 0 ≤ I 9 2 ∧ I 9 2 ≤ 4) (hq : zOut (I 9 2) (I 11) (I 13) c) : zMet 71 [vr 1, vi c] (I, zPp π, D, 147) (some (vi 1)) (I, zPp π, D, 147) := by
  refine z_n 4 (8, [(0, vr 1), (1, vi c)], [vi c, vr 9], (I, zPp π, D, 147)) rfl trivial ?_
  refine z_ci 55 [vr 9, vi c] [] rfl (m_isOut9_1 hM hq) ?_
  refine z_br ((1 : Int) = 0) 18 14 [] rfl (fun h => absurd h (show ¬ ((1 : Int) = 0) from by decide)) (fun hx1 => ?_)
  refine z_n 2 (19, [(0, vr 1), (1, vi c)], [vi 1], (I, zPp π, D, 147)) rfl trivial ?_
  first | exact z_ret rfl rfl rfl | exact z_ret rfl (zv1 (by omega)) rfl | (exfalso; omega)
set_option maxRecDepth 20000 in
theorem m_outf0 {I : zI} {π : Int → Nat} {D : zD} {c : Int} (hM : 0 ≤ I 9 2 ∧ I 9 2 ≤ 4) (hq : ¬ zOut (I 9 2) (I 11) (I 13) c) : zMet 71 [vr 1, vi c] (I, zPp π, D, 147) (some (vi 0)) (I, zPp π, D, 147) := by
  refine z_n 4 (8, [(0, vr 1), (1, vi c)], [vi c, vr 9], (I, zPp π, D, 147)) rfl trivial ?_
  refine z_ci 55 [vr 9, vi c] [] rfl (m_isOut9_0 hM hq) ?_
  refine z_br ((0 : Int) = 0) 18 14 [] rfl (fun hx1 => ?_) (fun h => absurd (show (0 : Int) = 0 from by decide) h)
  refine z_n 1 (19, [(0, vr 1), (1, vi c)], [vi 0], (I, zPp π, D, 147)) rfl trivial ?_
  first | exact z_ret rfl rfl rfl | exact z_ret rfl (zv1 (by omega)) rfl | (exfalso; omega)
set_option maxRecDepth 20000 in
theorem m_crew0 {I : zI} {π : Int → Nat} {D : zD} {c a : Int} (hq : ¬ (0 ≤ c ∧ c < I 2 5)) : zMet 70 [vr 1, vi c, vi a] (I, zPp π, D, 147) (some (vi (-1001))) (I, zPp π, D, 147) := by
  refine z_n 3 (5, [(0, vr 1), (1, vi c), (2, vi a)], [vi c, vr 2], (I, zPp π, D, 147)) rfl trivial ?_
  refine z_ci 6 [vr 2, vi c] [] rfl (m_hasCrew0 hq) ?_
  refine z_br (¬ (0 : Int) = 0) 15 11 [] rfl (fun h => absurd h (show ¬ (¬ (0 : Int) = 0) from by decide)) (fun hx1 => ?_)
  refine z_n 1 (14, [(0, vr 1), (1, vi c), (2, vi a)], [vi (-1001)], (I, zPp π, D, 147)) rfl trivial ?_
  first | exact z_ret rfl rfl rfl | exact z_ret rfl (zv1 (by omega)) rfl | (exfalso; omega)
set_option maxRecDepth 20000 in
theorem m_crewx {I : zI} {π : Int → Nat} {D : zD} {c a : Int} (hq : 0 ≤ c ∧ c < I 2 5) (ha : a < 0 ∨ 9 < a) : zMet 70 [vr 1, vi c, vi a] (I, zPp π, D, 147) (some (vi (-1001))) (I, zPp π, D, 147) := by
  refine z_n 3 (5, [(0, vr 1), (1, vi c), (2, vi a)], [vi c, vr 2], (I, zPp π, D, 147)) rfl trivial ?_
  refine z_ci 6 [vr 2, vi c] [] rfl (m_hasCrew1 hq) ?_
  refine z_br (¬ (1 : Int) = 0) 15 11 [] rfl (fun hx1 => ?_) (fun h => absurd (show ¬ (1 : Int) = 0 from by decide) h)
  refine z_n 1 (16, [(0, vr 1), (1, vi c), (2, vi a)], [vi a], (I, zPp π, D, 147)) rfl trivial ?_
  refine z_tsd rfl (by omega) (show 16 + Int.toNat 189 = 205 from rfl) ?_
  refine z_n 1 (208, [(0, vr 1), (1, vi c), (2, vi a)], [vi (-1001)], (I, zPp π, D, 147)) rfl trivial ?_
  first | exact z_ret rfl rfl rfl | exact z_ret rfl (zv1 (by omega)) rfl | (exfalso; omega)
set_option maxRecDepth 20000 in
theorem m_crew_0 {I : zI} {π : Int → Nat} {D : zD} {c : Int} (hq : 0 ≤ c ∧ c < I 2 5) (w : zW1 (I 2))  : zMet 70 [vr 1, vi c, vi 0] (I, zPp π, D, 147) (some (vi (I 4 c))) (I, zPp π, D, 147) := by
  obtain ⟨⟨w1, w2⟩, ⟨w3, w4⟩, ⟨w5, w6⟩, ⟨w7, w8⟩, ⟨w9, w10⟩, w11, ⟨⟨w12, w12b⟩, w12c⟩, ⟨w13, w14⟩, ⟨w15, w16⟩⟩ := id w
  refine z_n 3 (5, [(0, vr 1), (1, vi c), (2, vi 0)], [vi c, vr 2], (I, zPp π, D, 147)) rfl trivial ?_
  refine z_ci 6 [vr 2, vi c] [] rfl (m_hasCrew1 hq) ?_
  refine z_br (¬ (1 : Int) = 0) 15 11 [] rfl (fun hx1 => ?_) (fun h => absurd (show ¬ (1 : Int) = 0 from by decide) h)
  refine z_n 6 (80, [(0, vr 1), (1, vi c), (2, vi 0)], [vi c, vr 3], (I, zPp π, D, 147)) rfl trivial ?_
  refine z_ci 1 [vr 3, vi c] [] rfl (m_get (n := 24) ⟨rfl, rfl, rfl, rfl⟩ (by omega) (by omega)) ?_
  first | exact z_ret rfl rfl rfl | exact z_ret rfl (zv1 (by omega)) rfl | (exfalso; omega)
set_option maxRecDepth 20000 in
theorem m_crew_1 {I : zI} {π : Int → Nat} {D : zD} {c : Int} (hq : 0 ≤ c ∧ c < I 2 5) (w : zW1 (I 2))  : zMet 70 [vr 1, vi c, vi 1] (I, zPp π, D, 147) (some (vi (I 6 c))) (I, zPp π, D, 147) := by
  obtain ⟨⟨w1, w2⟩, ⟨w3, w4⟩, ⟨w5, w6⟩, ⟨w7, w8⟩, ⟨w9, w10⟩, w11, ⟨⟨w12, w12b⟩, w12c⟩, ⟨w13, w14⟩, ⟨w15, w16⟩⟩ := id w
  refine z_n 3 (5, [(0, vr 1), (1, vi c), (2, vi 1)], [vi c, vr 2], (I, zPp π, D, 147)) rfl trivial ?_
  refine z_ci 6 [vr 2, vi c] [] rfl (m_hasCrew1 hq) ?_
  refine z_br (¬ (1 : Int) = 0) 15 11 [] rfl (fun hx1 => ?_) (fun h => absurd (show ¬ (1 : Int) = 0 from by decide) h)
  refine z_n 6 (92, [(0, vr 1), (1, vi c), (2, vi 1)], [vi c, vr 5], (I, zPp π, D, 147)) rfl trivial ?_
  refine z_ci 1 [vr 5, vi c] [] rfl (m_get (n := 24) ⟨rfl, rfl, rfl, rfl⟩ (by omega) (by omega)) ?_
  first | exact z_ret rfl rfl rfl | exact z_ret rfl (zv1 (by omega)) rfl | (exfalso; omega)
set_option maxRecDepth 20000 in
theorem m_crew_2 {I : zI} {π : Int → Nat} {D : zD} {c : Int} (hq : 0 ≤ c ∧ c < I 2 5) (w : zW1 (I 2)) (v : zW2 (I 2) (I 6) (I 8)) : zMet 70 [vr 1, vi c, vi 2] (I, zPp π, D, 147) (some (vi (I 6 c / I 2 6))) (I, zPp π, D, 147) := by
  obtain ⟨⟨w1, w2⟩, ⟨w3, w4⟩, ⟨w5, w6⟩, ⟨w7, w8⟩, ⟨w9, w10⟩, w11, ⟨⟨w12, w12b⟩, w12c⟩, ⟨w13, w14⟩, ⟨w15, w16⟩⟩ := id w
  refine z_n 3 (5, [(0, vr 1), (1, vi c), (2, vi 2)], [vi c, vr 2], (I, zPp π, D, 147)) rfl trivial ?_
  refine z_ci 6 [vr 2, vi c] [] rfl (m_hasCrew1 hq) ?_
  refine z_br (¬ (1 : Int) = 0) 15 11 [] rfl (fun hx1 => ?_) (fun h => absurd (show ¬ (1 : Int) = 0 from by decide) h)
  refine z_n 5 (101, [(0, vr 1), (1, vi c), (2, vi 2)], [vi c, vr 2], (I, zPp π, D, 147)) rfl trivial ?_
  refine z_ci 10 [vr 2, vi c] [] rfl (m_divisionOf w hq.1 (by omega) (v.1 c hq.1 hq.2).1) ?_
  first | exact z_ret rfl rfl rfl | exact z_ret rfl (zv1 (by omega)) rfl | (exfalso; omega)
set_option maxRecDepth 20000 in
theorem m_crew_3s {I : zI} {π : Int → Nat} {D : zD} {c : Int} (hq : 0 ≤ c ∧ c < I 2 5) (w : zW1 (I 2)) (v : zW2 (I 2) (I 6) (I 8)) (hs : zIs (I 2) (I 6) c) : zMet 70 [vr 1, vi c, vi 3] (I, zPp π, D, 147) (some (vi (I 6 c - I 2 9 * I 2 6))) (I, zPp π, D, 147) := by
  obtain ⟨⟨w1, w2⟩, ⟨w3, w4⟩, ⟨w5, w6⟩, ⟨w7, w8⟩, ⟨w9, w10⟩, w11, ⟨⟨w12, w12b⟩, w12c⟩, ⟨w13, w14⟩, ⟨w15, w16⟩⟩ := id w
  refine z_n 3 (5, [(0, vr 1), (1, vi c), (2, vi 3)], [vi c, vr 2], (I, zPp π, D, 147)) rfl trivial ?_
  refine z_ci 6 [vr 2, vi c] [] rfl (m_hasCrew1 hq) ?_
  refine z_br (¬ (1 : Int) = 0) 15 11 [] rfl (fun hx1 => ?_) (fun h => absurd (show ¬ (1 : Int) = 0 from by decide) h)
  refine z_n 5 (110, [(0, vr 1), (1, vi c), (2, vi 3)], [vi c, vr 2], (I, zPp π, D, 147)) rfl trivial ?_
  refine z_ci 15 [vr 2, vi c] [] rfl (m_isStarter1 w v hs) ?_
  refine z_br ((1 : Int) = 0) 127 116 [] rfl (fun h => absurd h (show ¬ ((1 : Int) = 0) from by decide)) (fun hx2 => ?_)
  refine z_n 3 (121, [(0, vr 1), (1, vi c), (2, vi 3)], [vi c, vr 2], (I, zPp π, D, 147)) rfl trivial ?_
  refine z_ci 14 [vr 2, vi c] [] rfl (m_startNumber1 w v hs) ?_
  refine z_n 1 (130, [(0, vr 1), (1, vi c), (2, vi 3)], [vi (I 6 c - I 2 9 * I 2 6)], (I, zPp π, D, 147)) rfl trivial ?_
  first | exact z_ret rfl rfl rfl | exact z_ret rfl (zv1 (by omega)) rfl | (exfalso; omega)
set_option maxRecDepth 20000 in
theorem m_crew_3n {I : zI} {π : Int → Nat} {D : zD} {c : Int} (hq : 0 ≤ c ∧ c < I 2 5) (w : zW1 (I 2)) (v : zW2 (I 2) (I 6) (I 8)) (hs : ¬ zIs (I 2) (I 6) c) : zMet 70 [vr 1, vi c, vi 3] (I, zPp π, D, 147) (some (vi (-1004))) (I, zPp π, D, 147) := by
  obtain ⟨⟨w1, w2⟩, ⟨w3, w4⟩, ⟨w5, w6⟩, ⟨w7, w8⟩, ⟨w9, w10⟩, w11, ⟨⟨w12, w12b⟩, w12c⟩, ⟨w13, w14⟩, ⟨w15, w16⟩⟩ := id w
  refine z_n 3 (5, [(0, vr 1), (1, vi c), (2, vi 3)], [vi c, vr 2], (I, zPp π, D, 147)) rfl trivial ?_
  refine z_ci 6 [vr 2, vi c] [] rfl (m_hasCrew1 hq) ?_
  refine z_br (¬ (1 : Int) = 0) 15 11 [] rfl (fun hx1 => ?_) (fun h => absurd (show ¬ (1 : Int) = 0 from by decide) h)
  refine z_n 5 (110, [(0, vr 1), (1, vi c), (2, vi 3)], [vi c, vr 2], (I, zPp π, D, 147)) rfl trivial ?_
  refine z_ci 15 [vr 2, vi c] [] rfl (m_isStarter0 w v hs) ?_
  refine z_br ((0 : Int) = 0) 127 116 [] rfl (fun hx2 => ?_) (fun h => absurd (show (0 : Int) = 0 from by decide) h)
  refine z_n 1 (130, [(0, vr 1), (1, vi c), (2, vi 3)], [vi (-1004)], (I, zPp π, D, 147)) rfl trivial ?_
  first | exact z_ret rfl rfl rfl | exact z_ret rfl (zv1 (by omega)) rfl | (exfalso; omega)
set_option maxRecDepth 20000 in
theorem m_crew_4o {I : zI} {π : Int → Nat} {D : zD} {c : Int} (hq : 0 ≤ c ∧ c < I 2 5) (w : zW1 (I 2)) (v : zW2 (I 2) (I 6) (I 8)) (hM : 0 ≤ I 9 2 ∧ I 9 2 ≤ 4) (hs : zIs (I 2) (I 6) c) (ho : zOut (I 9 2) (I 11) (I 13) c) : zMet 70 [vr 1, vi c, vi 4] (I, zPp π, D, 147) (some (vi 1)) (I, zPp π, D, 147) := by
  obtain ⟨⟨w1, w2⟩, ⟨w3, w4⟩, ⟨w5, w6⟩, ⟨w7, w8⟩, ⟨w9, w10⟩, w11, ⟨⟨w12, w12b⟩, w12c⟩, ⟨w13, w14⟩, ⟨w15, w16⟩⟩ := id w
  refine z_n 3 (5, [(0, vr 1), (1, vi c), (2, vi 4)], [vi c, vr 2], (I, zPp π, D, 147)) rfl trivial ?_
  refine z_ci 6 [vr 2, vi c] [] rfl (m_hasCrew1 hq) ?_
  refine z_br (¬ (1 : Int) = 0) 15 11 [] rfl (fun hx1 => ?_) (fun h => absurd (show ¬ (1 : Int) = 0 from by decide) h)
  refine z_n 5 (136, [(0, vr 1), (1, vi c), (2, vi 4)], [vi c, vr 2], (I, zPp π, D, 147)) rfl trivial ?_
  refine z_ci 15 [vr 2, vi c] [] rfl (m_isStarter1 w v hs) ?_
  refine z_br ((1 : Int) = 0) 150 142 [] rfl (fun h => absurd h (show ¬ ((1 : Int) = 0) from by decide)) (fun hx2 => ?_)
  refine z_n 2 (144, [(0, vr 1), (1, vi c), (2, vi 4)], [vi c, vr 1], (I, zPp π, D, 147)) rfl trivial ?_
  refine z_ci 71 [vr 1, vi c] [] rfl (m_outf1 hM ho) ?_
  refine z_n 1 (153, [(0, vr 1), (1, vi c), (2, vi 4)], [vi 1], (I, zPp π, D, 147)) rfl trivial ?_
  first | exact z_ret rfl rfl rfl | exact z_ret rfl (zv1 (by omega)) rfl | (exfalso; omega)
set_option maxRecDepth 20000 in
theorem m_crew_4i {I : zI} {π : Int → Nat} {D : zD} {c : Int} (hq : 0 ≤ c ∧ c < I 2 5) (w : zW1 (I 2)) (v : zW2 (I 2) (I 6) (I 8)) (hM : 0 ≤ I 9 2 ∧ I 9 2 ≤ 4) (hs : zIs (I 2) (I 6) c) (ho : ¬ zOut (I 9 2) (I 11) (I 13) c) : zMet 70 [vr 1, vi c, vi 4] (I, zPp π, D, 147) (some (vi 0)) (I, zPp π, D, 147) := by
  obtain ⟨⟨w1, w2⟩, ⟨w3, w4⟩, ⟨w5, w6⟩, ⟨w7, w8⟩, ⟨w9, w10⟩, w11, ⟨⟨w12, w12b⟩, w12c⟩, ⟨w13, w14⟩, ⟨w15, w16⟩⟩ := id w
  refine z_n 3 (5, [(0, vr 1), (1, vi c), (2, vi 4)], [vi c, vr 2], (I, zPp π, D, 147)) rfl trivial ?_
  refine z_ci 6 [vr 2, vi c] [] rfl (m_hasCrew1 hq) ?_
  refine z_br (¬ (1 : Int) = 0) 15 11 [] rfl (fun hx1 => ?_) (fun h => absurd (show ¬ (1 : Int) = 0 from by decide) h)
  refine z_n 5 (136, [(0, vr 1), (1, vi c), (2, vi 4)], [vi c, vr 2], (I, zPp π, D, 147)) rfl trivial ?_
  refine z_ci 15 [vr 2, vi c] [] rfl (m_isStarter1 w v hs) ?_
  refine z_br ((1 : Int) = 0) 150 142 [] rfl (fun h => absurd h (show ¬ ((1 : Int) = 0) from by decide)) (fun hx2 => ?_)
  refine z_n 2 (144, [(0, vr 1), (1, vi c), (2, vi 4)], [vi c, vr 1], (I, zPp π, D, 147)) rfl trivial ?_
  refine z_ci 71 [vr 1, vi c] [] rfl (m_outf0 hM ho) ?_
  refine z_n 1 (153, [(0, vr 1), (1, vi c), (2, vi 4)], [vi 0], (I, zPp π, D, 147)) rfl trivial ?_
  first | exact z_ret rfl rfl rfl | exact z_ret rfl (zv1 (by omega)) rfl | (exfalso; omega)
set_option maxRecDepth 20000 in
theorem m_crew_4n {I : zI} {π : Int → Nat} {D : zD} {c : Int} (hq : 0 ≤ c ∧ c < I 2 5) (w : zW1 (I 2)) (v : zW2 (I 2) (I 6) (I 8)) (hs : ¬ zIs (I 2) (I 6) c) : zMet 70 [vr 1, vi c, vi 4] (I, zPp π, D, 147) (some (vi (-1004))) (I, zPp π, D, 147) := by
  obtain ⟨⟨w1, w2⟩, ⟨w3, w4⟩, ⟨w5, w6⟩, ⟨w7, w8⟩, ⟨w9, w10⟩, w11, ⟨⟨w12, w12b⟩, w12c⟩, ⟨w13, w14⟩, ⟨w15, w16⟩⟩ := id w
  refine z_n 3 (5, [(0, vr 1), (1, vi c), (2, vi 4)], [vi c, vr 2], (I, zPp π, D, 147)) rfl trivial ?_
  refine z_ci 6 [vr 2, vi c] [] rfl (m_hasCrew1 hq) ?_
  refine z_br (¬ (1 : Int) = 0) 15 11 [] rfl (fun hx1 => ?_) (fun h => absurd (show ¬ (1 : Int) = 0 from by decide) h)
  refine z_n 5 (136, [(0, vr 1), (1, vi c), (2, vi 4)], [vi c, vr 2], (I, zPp π, D, 147)) rfl trivial ?_
  refine z_ci 15 [vr 2, vi c] [] rfl (m_isStarter0 w v hs) ?_
  refine z_br ((0 : Int) = 0) 150 142 [] rfl (fun hx2 => ?_) (fun h => absurd (show (0 : Int) = 0 from by decide) h)
  refine z_n 1 (153, [(0, vr 1), (1, vi c), (2, vi 4)], [vi (-1004)], (I, zPp π, D, 147)) rfl trivial ?_
  first | exact z_ret rfl rfl rfl | exact z_ret rfl (zv1 (by omega)) rfl | (exfalso; omega)
set_option maxRecDepth 20000 in
theorem m_crew_5 {I : zI} {π : Int → Nat} {D : zD} {c : Int} (hq : 0 ≤ c ∧ c < I 2 5) (w : zW1 (I 2))  : zMet 70 [vr 1, vi c, vi 5] (I, zPp π, D, 147) (some (vi (zris (fun d => I 24 (d * 24 + c)) (I 2 8).toNat))) (I, zPp π, D, 147) := by
  obtain ⟨⟨w1, w2⟩, ⟨w3, w4⟩, ⟨w5, w6⟩, ⟨w7, w8⟩, ⟨w9, w10⟩, w11, ⟨⟨w12, w12b⟩, w12c⟩, ⟨w13, w14⟩, ⟨w15, w16⟩⟩ := id w
  refine z_n 3 (5, [(0, vr 1), (1, vi c), (2, vi 5)], [vi c, vr 2], (I, zPp π, D, 147)) rfl trivial ?_
  refine z_ci 6 [vr 2, vi c] [] rfl (m_hasCrew1 hq) ?_
  refine z_br (¬ (1 : Int) = 0) 15 11 [] rfl (fun hx1 => ?_) (fun h => absurd (show ¬ (1 : Int) = 0 from by decide) h)
  refine z_n 5 (159, [(0, vr 1), (1, vi c), (2, vi 5)], [vi c, vr 2], (I, zPp π, D, 147)) rfl trivial ?_
  refine z_ci 27 [vr 2, vi c] [] rfl (m_daysRisen w hq.1 (by omega)) ?_
  first | exact z_ret rfl rfl rfl | exact z_ret rfl (zv1 (by omega)) rfl | (exfalso; omega)
set_option maxRecDepth 20000 in
theorem m_crew_6 {I : zI} {π : Int → Nat} {D : zD} {c : Int} (hq : 0 ≤ c ∧ c < I 2 5) (w : zW1 (I 2))  : zMet 70 [vr 1, vi c, vi 6] (I, zPp π, D, 147) (some (vi (zfal (fun d => I 24 (d * 24 + c)) (I 2 8).toNat))) (I, zPp π, D, 147) := by
  obtain ⟨⟨w1, w2⟩, ⟨w3, w4⟩, ⟨w5, w6⟩, ⟨w7, w8⟩, ⟨w9, w10⟩, w11, ⟨⟨w12, w12b⟩, w12c⟩, ⟨w13, w14⟩, ⟨w15, w16⟩⟩ := id w
  refine z_n 3 (5, [(0, vr 1), (1, vi c), (2, vi 6)], [vi c, vr 2], (I, zPp π, D, 147)) rfl trivial ?_
  refine z_ci 6 [vr 2, vi c] [] rfl (m_hasCrew1 hq) ?_
  refine z_br (¬ (1 : Int) = 0) 15 11 [] rfl (fun hx1 => ?_) (fun h => absurd (show ¬ (1 : Int) = 0 from by decide) h)
  refine z_n 5 (168, [(0, vr 1), (1, vi c), (2, vi 6)], [vi c, vr 2], (I, zPp π, D, 147)) rfl trivial ?_
  refine z_ci 28 [vr 2, vi c] [] rfl (m_daysFallen w hq.1 (by omega)) ?_
  first | exact z_ret rfl rfl rfl | exact z_ret rfl (zv1 (by omega)) rfl | (exfalso; omega)
set_option maxRecDepth 20000 in
theorem m_crew_7 {I : zI} {π : Int → Nat} {D : zD} {c : Int} (hq : 0 ≤ c ∧ c < I 2 5) (w : zW1 (I 2))  : zMet 70 [vr 1, vi c, vi 7] (I, zPp π, D, 147) (some (vi (if I 2 8 = 0 then 0 else if zris (fun d => I 24 (d * 24 + c)) (I 2 8).toNat = I 2 8 then 1 else if zfal (fun d => I 24 (d * 24 + c)) (I 2 8).toNat = I 2 8 then 2 else 0))) (I, zPp π, D, 147) := by
  obtain ⟨⟨w1, w2⟩, ⟨w3, w4⟩, ⟨w5, w6⟩, ⟨w7, w8⟩, ⟨w9, w10⟩, w11, ⟨⟨w12, w12b⟩, w12c⟩, ⟨w13, w14⟩, ⟨w15, w16⟩⟩ := id w
  refine z_n 3 (5, [(0, vr 1), (1, vi c), (2, vi 7)], [vi c, vr 2], (I, zPp π, D, 147)) rfl trivial ?_
  refine z_ci 6 [vr 2, vi c] [] rfl (m_hasCrew1 hq) ?_
  refine z_br (¬ (1 : Int) = 0) 15 11 [] rfl (fun hx1 => ?_) (fun h => absurd (show ¬ (1 : Int) = 0 from by decide) h)
  refine z_n 5 (177, [(0, vr 1), (1, vi c), (2, vi 7)], [vi c, vr 2], (I, zPp π, D, 147)) rfl trivial ?_
  refine z_ci 29 [vr 2, vi c] [] rfl (m_award w hq.1 (by omega)) ?_
  first | exact z_ret rfl rfl rfl | exact z_ret rfl (zv1 (by omega)) rfl | (exfalso; omega)
set_option maxRecDepth 20000 in
theorem m_crew_8 {I : zI} {π : Int → Nat} {D : zD} {c : Int} (hq : 0 ≤ c ∧ c < I 2 5) (w : zW1 (I 2)) (hl : 0 ≤ I 14 4 ∧ I 14 4 ≤ 96) : zMet 70 [vr 1, vi c, vi 8] (I, zPp π, D, 147) (some (vi (zcnt (I 18) c (I 14 4).toNat))) (I, zPp π, D, 147) := by
  obtain ⟨⟨w1, w2⟩, ⟨w3, w4⟩, ⟨w5, w6⟩, ⟨w7, w8⟩, ⟨w9, w10⟩, w11, ⟨⟨w12, w12b⟩, w12c⟩, ⟨w13, w14⟩, ⟨w15, w16⟩⟩ := id w
  refine z_n 3 (5, [(0, vr 1), (1, vi c), (2, vi 8)], [vi c, vr 2], (I, zPp π, D, 147)) rfl trivial ?_
  refine z_ci 6 [vr 2, vi c] [] rfl (m_hasCrew1 hq) ?_
  refine z_br (¬ (1 : Int) = 0) 15 11 [] rfl (fun hx1 => ?_) (fun h => absurd (show ¬ (1 : Int) = 0 from by decide) h)
  refine z_n 6 (189, [(0, vr 1), (1, vi c), (2, vi 8)], [vi c, vr 14], (I, zPp π, D, 147)) rfl trivial ?_
  refine z_ci 47 [vr 14, vi c] [] rfl (m_madeBy hl) ?_
  first | exact z_ret rfl rfl rfl | exact z_ret rfl (zv1 (by omega)) rfl | (exfalso; omega)
set_option maxRecDepth 20000 in
theorem m_crew_9 {I : zI} {π : Int → Nat} {D : zD} {c : Int} (hq : 0 ≤ c ∧ c < I 2 5) (w : zW1 (I 2)) (hl : 0 ≤ I 14 4 ∧ I 14 4 ≤ 96) : zMet 70 [vr 1, vi c, vi 9] (I, zPp π, D, 147) (some (vi (zcnt (I 20) c (I 14 4).toNat))) (I, zPp π, D, 147) := by
  obtain ⟨⟨w1, w2⟩, ⟨w3, w4⟩, ⟨w5, w6⟩, ⟨w7, w8⟩, ⟨w9, w10⟩, w11, ⟨⟨w12, w12b⟩, w12c⟩, ⟨w13, w14⟩, ⟨w15, w16⟩⟩ := id w
  refine z_n 3 (5, [(0, vr 1), (1, vi c), (2, vi 9)], [vi c, vr 2], (I, zPp π, D, 147)) rfl trivial ?_
  refine z_ci 6 [vr 2, vi c] [] rfl (m_hasCrew1 hq) ?_
  refine z_br (¬ (1 : Int) = 0) 15 11 [] rfl (fun hx1 => ?_) (fun h => absurd (show ¬ (1 : Int) = 0 from by decide) h)
  refine z_n 6 (201, [(0, vr 1), (1, vi c), (2, vi 9)], [vi c, vr 14], (I, zPp π, D, 147)) rfl trivial ?_
  refine z_ci 48 [vr 14, vi c] [] rfl (m_madeOn hl) ?_
  first | exact z_ret rfl rfl rfl | exact z_ret rfl (zv1 (by omega)) rfl | (exfalso; omega)
set_option maxRecDepth 20000 in
theorem m_at1 {I : zI} {π : Int → Nat} {D : zD} {q : Int} (hq : 0 ≤ q ∧ q < I 2 5) (w : zW1 (I 2)) : zMet 72 [vr 1, vi q] (I, zPp π, D, 147) (some (vi (I 8 q))) (I, zPp π, D, 147) := by
  obtain ⟨⟨w1, w2⟩, ⟨w3, w4⟩, ⟨w5, w6⟩, ⟨w7, w8⟩, ⟨w9, w10⟩, w11, ⟨⟨w12, w12b⟩, w12c⟩, ⟨w13, w14⟩, ⟨w15, w16⟩⟩ := id w
  refine z_n 1 (1, [(0, vr 1), (1, vi q)], [vi q], (I, zPp π, D, 147)) rfl trivial ?_
  refine z_br (q < 0) 29 4 [] rfl (fun h => absurd h (show ¬ (q < 0) from by omega)) (fun hx1 => ?_)
  refine z_n 4 (12, [(0, vr 1), (1, vi q)], [vi (I 2 5), vi q], (I, zPp π, D, 147)) rfl trivial ?_
  refine z_br ((I 2 5) ≤ q) 29 15 [] rfl (fun h => absurd h (show ¬ ((I 2 5) ≤ q) from by omega)) (fun hx2 => ?_)
  refine z_n 4 (23, [(0, vr 1), (1, vi q)], [vi q, vr 7], (I, zPp π, D, 147)) rfl trivial ?_
  refine z_ci 1 [vr 7, vi q] [] rfl (m_get (n := 24) ⟨rfl, rfl, rfl, rfl⟩ (by omega) (by omega)) ?_
  refine z_n 1 (32, [(0, vr 1), (1, vi q)], [vi (I 8 q)], (I, zPp π, D, 147)) rfl trivial ?_
  first | exact z_ret rfl rfl rfl | exact z_ret rfl (zv1 (by omega)) rfl | (exfalso; omega)
set_option maxRecDepth 20000 in
theorem m_at0 {I : zI} {π : Int → Nat} {D : zD} {q : Int} (hq : ¬ (0 ≤ q ∧ q < I 2 5)) : zMet 72 [vr 1, vi q] (I, zPp π, D, 147) (some (vi (-1001))) (I, zPp π, D, 147) := by
  refine z_n 1 (1, [(0, vr 1), (1, vi q)], [vi q], (I, zPp π, D, 147)) rfl trivial ?_
  refine z_br (q < 0) 29 4 [] rfl (fun hx1 => ?_) (fun hx1 => ?_)
  · refine z_n 1 (32, [(0, vr 1), (1, vi q)], [vi (-1001)], (I, zPp π, D, 147)) rfl trivial ?_
    first | exact z_ret rfl rfl rfl | exact z_ret rfl (zv1 (by omega)) rfl | (exfalso; omega)
  · refine z_n 4 (12, [(0, vr 1), (1, vi q)], [vi (I 2 5), vi q], (I, zPp π, D, 147)) rfl trivial ?_
    refine z_br ((I 2 5) ≤ q) 29 15 [] rfl (fun hx2 => ?_) (fun h => absurd (show (I 2 5) ≤ q from by omega) h)
    refine z_n 1 (32, [(0, vr 1), (1, vi q)], [vi (-1001)], (I, zPp π, D, 147)) rfl trivial ?_
    first | exact z_ret rfl rfl rfl | exact z_ret rfl (zv1 (by omega)) rfl | (exfalso; omega)
set_option maxRecDepth 20000 in
theorem m_starterx {I : zI} {π : Int → Nat} {D : zD} {q : Int} (hq : q < 0) : zMet 73 [vr 1, vi q] (I, zPp π, D, 147) (some (vi (-1001))) (I, zPp π, D, 147) := by
  refine z_n 1 (1, [(0, vr 1), (1, vi q)], [vi q], (I, zPp π, D, 147)) rfl trivial ?_
  refine z_br (0 ≤ q) 8 4 [] rfl (fun h => absurd h (show ¬ (0 ≤ q) from by omega)) (fun hx1 => ?_)
  refine z_n 1 (7, [(0, vr 1), (1, vi q)], [vi (-1001)], (I, zPp π, D, 147)) rfl trivial ?_
  first | exact z_ret rfl rfl rfl | exact z_ret rfl (zv1 (by omega)) rfl | (exfalso; omega)
set_option maxRecDepth 20000 in
theorem m_starter0 {I : zI} {π : Int → Nat} {D : zD} {q : Int} (w : zW1 (I 2)) (hq : 0 ≤ q) (h2 : zns (I 2) ≤ q) : zMet 73 [vr 1, vi q] (I, zPp π, D, 147) (some (vi (-1004))) (I, zPp π, D, 147) := by
  refine z_n 1 (1, [(0, vr 1), (1, vi q)], [vi q], (I, zPp π, D, 147)) rfl trivial ?_
  refine z_br (0 ≤ q) 8 4 [] rfl (fun hx1 => ?_) (fun h => absurd (show 0 ≤ q from by omega) h)
  refine z_n 3 (13, [(0, vr 1), (1, vi q)], [vr 2, vi q], (I, zPp π, D, 147)) rfl trivial ?_
  refine z_ci 12 [vr 2] [vi q] rfl (m_starters w) ?_
  refine z_br ((zns (I 2)) ≤ q) 30 19 [] rfl (fun hx2 => ?_) (fun h => absurd (show (zns (I 2)) ≤ q from by omega) h)
  refine z_n 1 (33, [(0, vr 1), (1, vi q)], [vi (-1004)], (I, zPp π, D, 147)) rfl trivial ?_
  first | exact z_ret rfl rfl rfl | exact z_ret rfl (zv1 (by omega)) rfl | (exfalso; omega)
set_option maxRecDepth 20000 in
theorem m_starter1 {I : zI} {π : Int → Nat} {D : zD} {q : Int} (w : zW1 (I 2)) (hq : 0 ≤ q) (h2 : q < zns (I 2)) : zMet 73 [vr 1, vi q] (I, zPp π, D, 147) (some (vi (I 8 (I 2 9 * I 2 6 + q)))) (I, zPp π, D, 147) := by
  have hb := zns_b w
  refine z_n 1 (1, [(0, vr 1), (1, vi q)], [vi q], (I, zPp π, D, 147)) rfl trivial ?_
  refine z_br (0 ≤ q) 8 4 [] rfl (fun hx1 => ?_) (fun h => absurd (show 0 ≤ q from by omega) h)
  refine z_n 3 (13, [(0, vr 1), (1, vi q)], [vr 2, vi q], (I, zPp π, D, 147)) rfl trivial ?_
  refine z_ci 12 [vr 2] [vi q] rfl (m_starters w) ?_
  refine z_br ((zns (I 2)) ≤ q) 30 19 [] rfl (fun h => absurd h (show ¬ ((zns (I 2)) ≤ q) from by omega)) (fun hx2 => ?_)
  refine z_n 3 (24, [(0, vr 1), (1, vi q)], [vi q, vr 2], (I, zPp π, D, 147)) rfl trivial ?_
  refine z_ci 13 [vr 2, vi q] [] rfl (m_starterAt w (by omega) (by omega)) ?_
  refine z_n 1 (33, [(0, vr 1), (1, vi q)], [vi (I 8 (I 2 9 * I 2 6 + q))], (I, zPp π, D, 147)) rfl trivial ?_
  first | exact z_ret rfl rfl rfl | exact z_ret rfl (zv1 (by omega)) rfl | (exfalso; omega)
set_option maxRecDepth 20000 in
theorem m_bumpx {I : zI} {π : Int → Nat} {D : zD} {a b : Int} (hq : ¬ ((0 ≤ a ∧ a < I 2 5) ∧ (0 ≤ b ∧ b < I 2 5))) : zMet 74 [vr 1, vi a, vi b] (I, zPp π, D, 147) (some (vi (-1001))) (I, zPp π, D, 147) := by
  refine z_n 3 (5, [(0, vr 1), (1, vi a), (2, vi b)], [vi a, vr 2], (I, zPp π, D, 147)) rfl trivial ?_
  by_cases hx1 : 0 ≤ a ∧ a < I 2 5
  · refine z_ci 6 [vr 2, vi a] [] rfl (m_hasCrew1 hx1) ?_
    refine z_br ((1 : Int) = 0) 22 11 [] rfl (fun h => absurd h (show ¬ ((1 : Int) = 0) from by decide)) (fun hx2 => ?_)
    refine z_n 3 (16, [(0, vr 1), (1, vi a), (2, vi b)], [vi b, vr 2], (I, zPp π, D, 147)) rfl trivial ?_
    refine z_ci 6 [vr 2, vi b] [] rfl (m_hasCrew0 (by omega)) ?_
    refine z_br (¬ (0 : Int) = 0) 26 22 [] rfl (fun h => absurd h (show ¬ (¬ (0 : Int) = 0) from by decide)) (fun hx3 => ?_)
    refine z_n 1 (25, [(0, vr 1), (1, vi a), (2, vi b)], [vi (-1001)], (I, zPp π, D, 147)) rfl trivial ?_
    exact z_ret rfl rfl rfl
  · refine z_ci 6 [vr 2, vi a] [] rfl (m_hasCrew0 hx1) ?_
    refine z_br ((0 : Int) = 0) 22 11 [] rfl (fun hx4 => ?_) (fun h => absurd (show (0 : Int) = 0 from by decide) h)
    refine z_n 1 (25, [(0, vr 1), (1, vi a), (2, vi b)], [vi (-1001)], (I, zPp π, D, 147)) rfl trivial ?_
    exact z_ret rfl rfl rfl
set_option maxRecDepth 20000 in
theorem m_whyx {I : zI} {π : Int → Nat} {D : zD} {a b : Int} (hq : ¬ ((0 ≤ a ∧ a < I 2 5) ∧ (0 ≤ b ∧ b < I 2 5))) : zMet 75 [vr 1, vi a, vi b] (I, zPp π, D, 147) (some (vi (-1001))) (I, zPp π, D, 147) := by
  refine z_n 3 (5, [(0, vr 1), (1, vi a), (2, vi b)], [vi a, vr 2], (I, zPp π, D, 147)) rfl trivial ?_
  by_cases hx1 : 0 ≤ a ∧ a < I 2 5
  · refine z_ci 6 [vr 2, vi a] [] rfl (m_hasCrew1 hx1) ?_
    refine z_br ((1 : Int) = 0) 22 11 [] rfl (fun h => absurd h (show ¬ ((1 : Int) = 0) from by decide)) (fun hx2 => ?_)
    refine z_n 3 (16, [(0, vr 1), (1, vi a), (2, vi b)], [vi b, vr 2], (I, zPp π, D, 147)) rfl trivial ?_
    refine z_ci 6 [vr 2, vi b] [] rfl (m_hasCrew0 (by omega)) ?_
    refine z_br (¬ (0 : Int) = 0) 26 22 [] rfl (fun h => absurd h (show ¬ (¬ (0 : Int) = 0) from by decide)) (fun hx3 => ?_)
    refine z_n 1 (25, [(0, vr 1), (1, vi a), (2, vi b)], [vi (-1001)], (I, zPp π, D, 147)) rfl trivial ?_
    exact z_ret rfl rfl rfl
  · refine z_ci 6 [vr 2, vi a] [] rfl (m_hasCrew0 hx1) ?_
    refine z_br ((0 : Int) = 0) 22 11 [] rfl (fun hx4 => ?_) (fun h => absurd (show (0 : Int) = 0 from by decide) h)
    refine z_n 1 (25, [(0, vr 1), (1, vi a), (2, vi b)], [vi (-1001)], (I, zPp π, D, 147)) rfl trivial ?_
    exact z_ret rfl rfl rfl
end
section
theorem z_end : True := trivial
end
