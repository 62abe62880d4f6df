/-- field links: class, pool index, the field's class, the field, place of the word -/
def zfl : List (Nat × Nat × Nat × Nat × Nat) := [(0, 7, 0, 0, 43), (1, 14, 1, 0, 96), (1, 20, 1, 1, 99), (1, 23, 1, 2, 101), (1, 29, 1, 3, 103), (1, 36, 1, 4, 105), (1, 40, 1, 9, 115), (1, 44, 1, 10, 117), (1, 47, 1, 11, 120), (1, 50, 1, 12, 123), (1, 53, 1, 5, 107), (1, 56, 1, 6, 109), (1, 59, 1, 7, 111), (1, 62, 1, 8, 113), (1, 75, 5, 2, 63), (1, 115, 5, 0, 58), (1, 118, 5, 1, 61), (2, 14, 2, 0, 176), (2, 20, 2, 1, 178), (2, 23, 2, 3, 182), (2, 27, 2, 4, 183), (2, 30, 2, 5, 184), (2, 43, 2, 6, 185), (2, 50, 1, 0, 98), (2, 58, 2, 2, 180), (2, 61, 1, 10, 118), (2, 64, 1, 11, 121), (3, 11, 3, 0, 160), (3, 18, 3, 1, 161), (4, 14, 4, 0, 80), (4, 20, 4, 1, 81), (4, 23, 4, 2, 82), (4, 26, 4, 3, 83), (4, 29, 4, 4, 84), (5, 14, 5, 0, 56), (5, 20, 5, 1, 59), (5, 23, 5, 2, 62), (6, 12, 6, 4, 213), (6, 23, 6, 5, 214), (7, 10, 7, 0, 262), (7, 19, 7, 1, 263), (7, 26, 7, 2, 264), (7, 33, 7, 3, 265), (7, 53, 1, 0, 97), (7, 67, 1, 10, 119), (7, 71, 1, 11, 122), (7, 74, 1, 5, 108), (7, 77, 1, 6, 110), (7, 80, 1, 7, 112), (7, 83, 1, 8, 114), (7, 90, 1, 9, 116), (7, 93, 1, 3, 104), (7, 97, 5, 2, 64), (7, 105, 3, 1, 162), (7, 108, 6, 0, 212), (7, 111, 1, 2, 102), (7, 114, 1, 1, 100), (7, 138, 1, 4, 106), (7, 166, 5, 0, 57), (7, 169, 5, 1, 60), (7, 203, 2, 2, 181), (7, 206, 2, 0, 177), (7, 207, 2, 1, 179)]
/-- virtual calls: class, index, method, arguments, places of link, instanceMethod, selects, initialized -/
def zvl : List (Nat × Nat × Nat × Nat × Nat × Nat × Nat × Nat) := [(1, 65, 2, 2, 238, 239, 240, 14), (1, 69, 11, 2, 242, 244, 0, 13), (1, 72, 24, 0, 246, 248, 1, 13), (1, 78, 43, 0, 254, 255, 256, 16), (1, 81, 9, 0, 258, 259, 260, 13), (1, 85, 1, 1, 250, 251, 252, 14), (1, 89, 8, 0, 338, 331, 332, 13), (1, 99, 6, 1, 466, 321, 322, 13), (1, 103, 12, 0, 467, 335, 336, 13), (1, 106, 14, 1, 462, 463, 464, 13), (1, 109, 53, 1, 528, 474, 475, 15), (1, 112, 13, 1, 529, 364, 365, 13), (1, 121, 19, 1, 551, 553, 9, 13), (1, 124, 20, 2, 555, 557, 10, 13), (1, 128, 17, 1, 400, 401, 402, 13), (1, 131, 44, 4, 404, 405, 406, 16), (1, 135, 22, 2, 409, 411, 5, 13), (1, 138, 23, 0, 413, 415, 6, 13), (1, 141, 25, 2, 437, 426, 427, 13), (1, 144, 26, 1, 490, 479, 480, 13), (1, 147, 27, 1, 491, 483, 484, 13), (1, 150, 3, 1, 295, 296, 297, 14), (1, 154, 55, 1, 305, 306, 307, 15), (1, 157, 49, 1, 310, 311, 312, 16), (2, 33, 33, 3, 358, 359, 360, 18), (2, 37, 12, 0, 362, 335, 336, 13), (2, 46, 13, 1, 363, 364, 365, 13), (2, 51, 1, 1, 367, 251, 252, 14), (2, 54, 2, 2, 368, 239, 240, 14), (2, 67, 34, 2, 369, 371, 3, 18), (2, 71, 35, 3, 373, 375, 4, 18), (3, 22, 39, 0, 283, 285, 2, 17), (3, 25, 40, 0, 287, 288, 289, 17), (3, 29, 30, 1, 291, 292, 293, 13), (4, 33, 2, 2, 408, 239, 240, 14), (4, 37, 47, 2, 496, 498, 8, 16), (4, 41, 1, 1, 500, 251, 252, 14), (4, 45, 3, 1, 314, 296, 297, 14), (5, 27, 2, 2, 395, 239, 240, 14), (5, 31, 1, 1, 477, 251, 252, 14), (5, 35, 52, 2, 563, 392, 393, 15), (5, 38, 3, 1, 309, 296, 297, 14), (7, 37, 5, 3, 234, 235, 236, 13), (7, 41, 38, 1, 279, 280, 281, 17), (7, 45, 9, 0, 315, 259, 260, 13), (7, 49, 6, 1, 320, 321, 322, 13), (7, 57, 1, 1, 324, 251, 252, 14), (7, 63, 2, 2, 325, 239, 240, 14), (7, 86, 8, 0, 330, 331, 332, 13), (7, 102, 12, 0, 334, 335, 336, 13), (7, 117, 10, 1, 454, 455, 456, 13), (7, 120, 15, 1, 458, 459, 460, 13), (7, 123, 14, 1, 468, 463, 464, 13), (7, 126, 62, 1, 469, 471, 7, 12), (7, 129, 26, 1, 478, 479, 480, 13), (7, 132, 27, 1, 482, 483, 484, 13), (7, 135, 28, 1, 486, 487, 488, 13), (7, 142, 45, 1, 492, 493, 494, 16), (7, 147, 46, 1, 501, 502, 503, 16), (7, 150, 53, 1, 473, 474, 475, 15), (7, 153, 13, 1, 377, 364, 365, 13), (7, 156, 16, 3, 524, 525, 526, 13), (7, 160, 52, 2, 391, 392, 393, 15), (7, 163, 51, 1, 538, 539, 540, 15), (7, 172, 17, 1, 542, 401, 402, 13), (7, 175, 18, 1, 547, 548, 549, 13), (7, 178, 54, 1, 559, 560, 561, 15), (7, 187, 21, 0, 396, 397, 398, 13), (7, 190, 40, 0, 344, 288, 289, 17), (7, 194, 30, 1, 345, 292, 293, 13), (7, 197, 41, 0, 346, 347, 348, 17), (7, 200, 32, 1, 354, 355, 356, 18), (7, 208, 36, 1, 378, 379, 380, 18), (7, 229, 7, 1, 421, 422, 423, 13), (7, 232, 25, 2, 425, 426, 427, 13), (7, 236, 48, 2, 509, 510, 511, 16), (7, 239, 29, 0, 433, 434, 435, 13), (11, 9, 60, 1, 326, 327, 328, 12), (11, 15, 63, 1, 446, 447, 448, 12), (11, 18, 61, 2, 450, 451, 452, 12), (11, 22, 74, 2, 417, 418, 419, 12), (11, 25, 75, 2, 505, 506, 507, 12), (11, 28, 64, 1, 513, 514, 515, 12), (11, 37, 66, 2, 520, 521, 522, 12), (11, 40, 65, 2, 530, 531, 532, 12), (11, 43, 67, 2, 534, 535, 536, 12), (11, 46, 68, 1, 543, 544, 545, 12), (11, 53, 70, 0, 340, 341, 342, 12), (11, 57, 69, 0, 570, 571, 572, 12), (11, 61, 58, 3, 275, 276, 277, 12), (11, 65, 59, 2, 316, 317, 318, 12), (11, 68, 71, 2, 350, 351, 352, 12), (11, 71, 72, 0, 387, 388, 389, 12), (11, 78, 76, 0, 429, 430, 431, 12)]
def zsl : List (Nat × Nat × Nat × Nat × Nat × Nat × Nat) := [(0, 13, 78, 2, 299, 300, 20), (1, 93, 78, 2, 339, 300, 20), (7, 182, 77, 1, 564, 565, 22), (7, 212, 73, 1, 382, 383, 12), (11, 31, 79, 2, 438, 439, 11), (11, 49, 80, 1, 443, 444, 11), (11, 74, 81, 3, 517, 518, 11)]
/-- constructors: the same class's or package's; and nest mates' private ones -/
def zil : List (Nat × Nat × Nat × Nat × Nat × Nat × Nat) := [(1, 11, 0, 1, 39, 40, 14), (2, 11, 0, 1, 175, 40, 14), (4, 11, 0, 1, 79, 40, 14), (5, 11, 0, 1, 55, 40, 14), (6, 20, 0, 1, 211, 40, 14), (7, 18, 37, 0, 153, 154, 17), (11, 60, 57, 0, 25, 26, 12)]
def znl : List (Nat × Nat × Nat × Nat × Nat × Nat × Nat) := [(1, 28, 50, 0, 50, 51, 15), (1, 35, 42, 0, 74, 75, 16), (3, 17, 4, 0, 159, 34, 13), (6, 11, 50, 0, 209, 51, 15), (7, 9, 4, 0, 33, 34, 13), (7, 25, 31, 0, 170, 171, 18), (7, 32, 56, 0, 204, 205, 19)]
def zol : List (Nat × Nat × Nat) := [(0, 1, 42), (1, 3, 36), (2, 3, 173), (3, 3, 156), (4, 3, 77), (5, 3, 53), (6, 3, 207), (7, 1, 28)]
def zal : List (Nat × Nat × Nat) := [(0, 19, 302)]
def zwl : List (Nat × Nat × Nat) := []
/-- class links: class, index, the class, places of link, instantiable, initialized -/
def zkl : List (Nat × Nat × Nat × Nat × Nat × Nat) := [(1, 9, 0, 37, 38, 14), (1, 26, 5, 48, 49, 15), (1, 33, 4, 72, 73, 16), (2, 9, 0, 174, 38, 14), (3, 9, 1, 157, 32, 13), (4, 9, 0, 78, 38, 14), (5, 9, 0, 54, 38, 14), (6, 9, 5, 208, 49, 15), (6, 18, 0, 210, 38, 14), (7, 7, 1, 31, 32, 13), (7, 16, 3, 151, 152, 17), (7, 23, 2, 168, 169, 18), (7, 30, 6, 202, 203, 19), (11, 10, 7, 23, 24, 12)]
def zkl_int : List (Nat × Nat × Int × Nat) := [(7, 228, (-2147483648), 386), (8, 265, (1431655765), 567), (8, 266, (858993459), 568), (8, 267, (252645135), 569), (11, 7, (15485959), 441), (11, 8, (2147483647), 442)]
def zkl_flt : List (Nat × Nat × UInt32 × Nat) := [(7, 227, 1258291200, 385)]
theorem zlay0 : u_ws RX0 TX0 1 = [44].filterMap (fun i => lw_tbl[i]?) := by decide +kernel
theorem zlay1 : u_ws RX1 TX1 13 = [124, 126, 128, 130, 132, 134, 136, 138, 140, 142, 144, 146, 148].filterMap (fun i => lw_tbl[i]?) := by decide +kernel
theorem zlay2 : u_ws RX2 TX2 7 = [186, 188, 190, 192, 194, 196, 198].filterMap (fun i => lw_tbl[i]?) := by decide +kernel
theorem zlay3 : u_ws RX3 TX3 2 = [163, 165].filterMap (fun i => lw_tbl[i]?) := by decide +kernel
theorem zlay4 : u_ws RX4 TX4 5 = [85, 87, 89, 91, 93].filterMap (fun i => lw_tbl[i]?) := by decide +kernel
theorem zlay5 : u_ws RX5 TX5 3 = [65, 67, 69].filterMap (fun i => lw_tbl[i]?) := by decide +kernel
theorem zlay6 : u_ws RX6 TX6 9 = [215, 217, 219, 221, 223, 225, 227, 229, 231].filterMap (fun i => lw_tbl[i]?) := by decide +kernel
theorem zlay7 : u_ws RX7 TX7 4 = [266, 268, 270, 272].filterMap (fun i => lw_tbl[i]?) := by decide +kernel
def zcp : List Nat := [41, 253, 241, 298, 35, 237, 323, 424, 333, 261, 457, 245, 337, 366, 465, 461, 527, 403, 550, 554, 558, 399, 412, 416, 249, 428, 481, 485, 489, 436, 294, 172, 357, 361, 372, 376, 381, 155, 282, 286, 290, 349, 76, 257, 407, 495, 504, 499, 512, 313, 52, 541, 394, 476, 562, 308, 206, 27, 278, 319, 329, 453, 472, 449, 516, 533, 523, 537, 546, 573, 343, 353, 390, 384, 420, 508, 432, 566, 301, 440, 445, 519]
theorem zvl_ok : zvl.all (fun q => decide (lw_tbl[q.2.2.2.2.1]? = some (.methodLink (zR q.1) q.2.1 (zname q.2.2.1))) && decide (lw_tbl[q.2.2.2.2.2.1]? = some (.instanceMethod (zname q.2.2.1))) && decide (lw_tbl[q.2.2.2.2.2.2.1]? = some (.selects (zname q.2.2.1).cls (zname q.2.2.1) (zname q.2.2.1))) && decide (lw_tbl[q.2.2.2.2.2.2.2]? = some (.initialized (zname q.2.2.1).cls)) && decide ((zname q.2.2.1).cls ≠ "java/lang/invoke/MethodHandle" ∧ (zname q.2.2.1).cls ≠ "java/lang/invoke/VarHandle" ∧ (parseMethodDescriptor (zname q.2.2.1).desc).map (fun d => d.parameters.length) = some q.2.2.2.1)) = true := by decide +kernel
theorem zsl_ok : zsl.all (fun q => decide (lw_tbl[q.2.2.2.2.1]? = some (.methodLink (zR q.1) q.2.1 (zname q.2.2.1))) && decide (lw_tbl[q.2.2.2.2.2.1]? = some (.static (zname q.2.2.1))) && decide (lw_tbl[q.2.2.2.2.2.2]? = some (.initialized (zname q.2.2.1).cls)) && decide ((zname q.2.2.1).cls ≠ "java/lang/invoke/MethodHandle" ∧ (zname q.2.2.1).cls ≠ "java/lang/invoke/VarHandle" ∧ (parseMethodDescriptor (zname q.2.2.1).desc).map (fun d => d.parameters.length) = some q.2.2.2.1)) = true := by decide +kernel
theorem zil_ok : zil.all (fun q => decide (lw_tbl[q.2.2.2.2.1]? = some (.methodLink (zR q.1) q.2.1 (zname q.2.2.1))) && decide (lw_tbl[q.2.2.2.2.2.1]? = some (.instanceMethod (zname q.2.2.1))) && decide (lw_tbl[q.2.2.2.2.2.2]? = some (.initialized (zname q.2.2.1).cls)) && decide ((zname q.2.2.1).name = "<init>") && decide (zrt q.2.2.1 = none) && decide ((zname q.2.2.1).cls ≠ "java/lang/invoke/MethodHandle" ∧ (zname q.2.2.1).cls ≠ "java/lang/invoke/VarHandle" ∧ (parseMethodDescriptor (zname q.2.2.1).desc).map (fun d => d.parameters.length) = some q.2.2.2.1)) = true := by decide +kernel
theorem znl_ok : znl.all (fun q => decide (lw_tbl[q.2.2.2.2.1]? = some (.methodLinkNest (zR q.1) q.2.1 (zname q.2.2.1) "BumpsChart")) && decide (lw_tbl[q.2.2.2.2.2.1]? = some (.instanceMethod (zname q.2.2.1))) && decide (lw_tbl[q.2.2.2.2.2.2]? = some (.initialized (zname q.2.2.1).cls)) && decide ((zname q.2.2.1).name = "<init>") && decide (zrt q.2.2.1 = none) && decide ((zname q.2.2.1).cls ≠ "java/lang/invoke/MethodHandle" ∧ (zname q.2.2.1).cls ≠ "java/lang/invoke/VarHandle" ∧ (parseMethodDescriptor (zname q.2.2.1).desc).map (fun d => d.parameters.length) = some q.2.2.2.1)) = true := by decide +kernel
theorem zfl_ok : zfl.all (fun q => decide (lw_tbl[q.2.2.2.2]? = some (.fieldLink (zR q.1) q.2.1 (zT q.2.2.1 q.2.2.2.1).1 (zT q.2.2.1 q.2.2.2.1).2.1 (zT q.2.2.1 q.2.2.2.1).2.2.1)) && decide (q.2.2.1 < 8) && decide (q.2.2.2.1 < znf q.2.2.1)) = true := by decide +kernel
theorem zkl_ok : zkl.all (fun q => decide (lw_tbl[q.2.2.2.1]? = some (.classLink (zR q.1) q.2.1 (zR q.2.2.1))) && decide (lw_tbl[q.2.2.2.2.1]? = some (.instantiable (zR q.2.2.1) (znf q.2.2.1))) && decide (lw_tbl[q.2.2.2.2.2]? = some (.initialized (zR q.2.2.1))) && decide (q.2.2.1 < 8)) = true := by decide +kernel
theorem zki_ok : zkl_int.all (fun q => decide (lw_tbl[q.2.2.2]? = some (.constant (zR q.1) q.2.1 (Int32.ofInt q.2.2.1))) && decide (-2147483648 ≤ q.2.2.1 ∧ q.2.2.1 ≤ 2147483647)) = true := by decide +kernel
theorem zkf_ok : zkl_flt.all (fun q => decide (lw_tbl[q.2.2.2]? = some (.constantFloat (zR q.1) q.2.1 q.2.2.1))) = true := by decide +kernel
theorem zol_ok : zol.all (fun q => decide (lw_tbl[q.2.2]? = some (.methodLink (zR q.1) q.2.1 objectInit))) = true := by decide +kernel
theorem zal_ok : zal.all (fun q => decide (lw_tbl[q.2.2]? = some (.methodLink (zR q.1) q.2.1 arraycopyName))) = true := by decide +kernel
theorem zs_oi : lw_tbl[29]? = some (.instanceMethod objectInit) := by decide +kernel
set_option maxRecDepth 20000 in
theorem zs_oc : Cond.code objectInit ⟨#[0xb1]⟩ 1 none ∈ lw_tbl := List.mem_of_getElem? (i := 30) rfl
theorem zs_arrInt : lw_tbl[47]? = some (.arrayClass .int) := by decide +kernel
theorem zs_arrDouble : lw_tbl[201]? = some (.arrayClass .double) := by decide +kernel
theorem zs_over : lw_tbl[158]? = some (.arrayOver (.object "BumpsChart$Chart")) := by decide +kernel
theorem zs_cs : lw_tbl[303]? = some (.static arraycopyName) := by decide +kernel
theorem zs_cn : lw_tbl[304]? = some (.native arraycopyName) := by decide +kernel
theorem zs_si : lw_tbl[21]? = some (.initialized "java/lang/System") := by decide +kernel
set_option maxRecDepth 20000 in
theorem zcw0 : Cond.code yX0_init cX0_init 2 none ∈ lw_tbl := List.mem_of_getElem? (i := 41) rfl
set_option maxRecDepth 20000 in
theorem zcw1 : Cond.code yX0_get cX0_get 2 (some .int) ∈ lw_tbl := List.mem_of_getElem? (i := 253) rfl
set_option maxRecDepth 20000 in
theorem zcw2 : Cond.code yX0_put cX0_put 3 none ∈ lw_tbl := List.mem_of_getElem? (i := 241) rfl
set_option maxRecDepth 20000 in
theorem zcw3 : Cond.code yX0_copyFrom cX0_copyFrom 2 none ∈ lw_tbl := List.mem_of_getElem? (i := 298) rfl
set_option maxRecDepth 20000 in
theorem zcw4 : Cond.code yX1_init cX1_init 1 none ∈ lw_tbl := List.mem_of_getElem? (i := 35) rfl
set_option maxRecDepth 20000 in
theorem zcw5 : Cond.code yX1_startAnew cX1_startAnew 5 none ∈ lw_tbl := List.mem_of_getElem? (i := 237) rfl
set_option maxRecDepth 20000 in
theorem zcw6 : Cond.code yX1_hasCrew cX1_hasCrew 2 (some .boolean) ∈ lw_tbl := List.mem_of_getElem? (i := 323) rfl
set_option maxRecDepth 20000 in
theorem zcw7 : Cond.code yX1_hasDay cX1_hasDay 2 (some .boolean) ∈ lw_tbl := List.mem_of_getElem? (i := 424) rfl
set_option maxRecDepth 20000 in
theorem zcw8 : Cond.code yX1_hasRace cX1_hasRace 1 (some .boolean) ∈ lw_tbl := List.mem_of_getElem? (i := 333) rfl
set_option maxRecDepth 20000 in
theorem zcw9 : Cond.code yX1_divisions cX1_divisions 1 (some .int) ∈ lw_tbl := List.mem_of_getElem? (i := 261) rfl
set_option maxRecDepth 20000 in
theorem zcw10 : Cond.code yX1_divisionOf cX1_divisionOf 2 (some .int) ∈ lw_tbl := List.mem_of_getElem? (i := 457) rfl
set_option maxRecDepth 20000 in
theorem zcw11 : Cond.code yX1_putAt cX1_putAt 3 none ∈ lw_tbl := List.mem_of_getElem? (i := 245) rfl
set_option maxRecDepth 20000 in
theorem zcw12 : Cond.code yX1_starters cX1_starters 1 (some .int) ∈ lw_tbl := List.mem_of_getElem? (i := 337) rfl
set_option maxRecDepth 20000 in
theorem zcw13 : Cond.code yX1_starterAt cX1_starterAt 2 (some .int) ∈ lw_tbl := List.mem_of_getElem? (i := 366) rfl
set_option maxRecDepth 20000 in
theorem zcw14 : Cond.code yX1_startNumber cX1_startNumber 3 (some .int) ∈ lw_tbl := List.mem_of_getElem? (i := 465) rfl
set_option maxRecDepth 20000 in
theorem zcw15 : Cond.code yX1_isStarter cX1_isStarter 2 (some .boolean) ∈ lw_tbl := List.mem_of_getElem? (i := 461) rfl
set_option maxRecDepth 20000 in
theorem zcw16 : Cond.code yX1_reasonAgainst cX1_reasonAgainst 7 (some .int) ∈ lw_tbl := List.mem_of_getElem? (i := 527) rfl
set_option maxRecDepth 20000 in
theorem zcw17 : Cond.code yX1_span cX1_span 2 (some .int) ∈ lw_tbl := List.mem_of_getElem? (i := 403) rfl
set_option maxRecDepth 20000 in
theorem zcw18 : Cond.code yX1_withThoseThatNeed cX1_withThoseThatNeed 4 (some .int) ∈ lw_tbl := List.mem_of_getElem? (i := 550) rfl
set_option maxRecDepth 20000 in
theorem zcw19 : Cond.code yX1_neededBy cX1_neededBy 4 (some .int) ∈ lw_tbl := List.mem_of_getElem? (i := 554) rfl
set_option maxRecDepth 20000 in
theorem zcw20 : Cond.code yX1_liesWithin cX1_liesWithin 4 (some .boolean) ∈ lw_tbl := List.mem_of_getElem? (i := 558) rfl
set_option maxRecDepth 20000 in
theorem zcw21 : Cond.code yX1_endRace cX1_endRace 5 (some .int) ∈ lw_tbl := List.mem_of_getElem? (i := 399) rfl
set_option maxRecDepth 20000 in
theorem zcw22 : Cond.code yX1_exchange cX1_exchange 5 none ∈ lw_tbl := List.mem_of_getElem? (i := 412) rfl
set_option maxRecDepth 20000 in
theorem zcw23 : Cond.code yX1_endDay cX1_endDay 1 none ∈ lw_tbl := List.mem_of_getElem? (i := 416) rfl
set_option maxRecDepth 20000 in
theorem zcw24 : Cond.code yX1_notePlaces cX1_notePlaces 2 none ∈ lw_tbl := List.mem_of_getElem? (i := 249) rfl
set_option maxRecDepth 20000 in
theorem zcw25 : Cond.code yX1_placeAfter cX1_placeAfter 3 (some .int) ∈ lw_tbl := List.mem_of_getElem? (i := 428) rfl
set_option maxRecDepth 20000 in
theorem zcw26 : Cond.code yX1_daysRisen cX1_daysRisen 4 (some .int) ∈ lw_tbl := List.mem_of_getElem? (i := 481) rfl
set_option maxRecDepth 20000 in
theorem zcw27 : Cond.code yX1_daysFallen cX1_daysFallen 4 (some .int) ∈ lw_tbl := List.mem_of_getElem? (i := 485) rfl
set_option maxRecDepth 20000 in
theorem zcw28 : Cond.code yX1_award cX1_award 2 (some .int) ∈ lw_tbl := List.mem_of_getElem? (i := 489) rfl
set_option maxRecDepth 20000 in
theorem zcw29 : Cond.code yX1_bestRiser cX1_bestRiser 6 (some .int) ∈ lw_tbl := List.mem_of_getElem? (i := 436) rfl
set_option maxRecDepth 20000 in
theorem zcw30 : Cond.code yX1_copyFrom cX1_copyFrom 2 none ∈ lw_tbl := List.mem_of_getElem? (i := 294) rfl
set_option maxRecDepth 20000 in
theorem zcw31 : Cond.code yX2_init cX2_init 1 none ∈ lw_tbl := List.mem_of_getElem? (i := 172) rfl
set_option maxRecDepth 20000 in
theorem zcw32 : Cond.code yX2_foretell cX2_foretell 2 none ∈ lw_tbl := List.mem_of_getElem? (i := 357) rfl
set_option maxRecDepth 20000 in
theorem zcw33 : Cond.code yX2_foretellWith cX2_foretellWith 6 none ∈ lw_tbl := List.mem_of_getElem? (i := 361) rfl
set_option maxRecDepth 20000 in
theorem zcw34 : Cond.code yX2_findNext cX2_findNext 13 (some .boolean) ∈ lw_tbl := List.mem_of_getElem? (i := 372) rfl
set_option maxRecDepth 20000 in
theorem zcw35 : Cond.code yX2_add cX2_add 5 none ∈ lw_tbl := List.mem_of_getElem? (i := 376) rfl
set_option maxRecDepth 20000 in
theorem zcw36 : Cond.code yX2_timeOf cX2_timeOf 2 (some .double) ∈ lw_tbl := List.mem_of_getElem? (i := 381) rfl
set_option maxRecDepth 20000 in
theorem zcw37 : Cond.code yX3_init cX3_init 2 none ∈ lw_tbl := List.mem_of_getElem? (i := 155) rfl
set_option maxRecDepth 20000 in
theorem zcw38 : Cond.code yX3_keep cX3_keep 3 none ∈ lw_tbl := List.mem_of_getElem? (i := 282) rfl
set_option maxRecDepth 20000 in
theorem zcw39 : Cond.code yX3_moveOldestToEnd cX3_moveOldestToEnd 3 none ∈ lw_tbl := List.mem_of_getElem? (i := 286) rfl
set_option maxRecDepth 20000 in
theorem zcw40 : Cond.code yX3_latest cX3_latest 1 (some (.object "BumpsChart$Chart")) ∈ lw_tbl := List.mem_of_getElem? (i := 290) rfl
set_option maxRecDepth 20000 in
theorem zcw41 : Cond.code yX3_dropLatest cX3_dropLatest 1 none ∈ lw_tbl := List.mem_of_getElem? (i := 349) rfl
set_option maxRecDepth 20000 in
theorem zcw42 : Cond.code yX4_init cX4_init 1 none ∈ lw_tbl := List.mem_of_getElem? (i := 76) rfl
set_option maxRecDepth 20000 in
theorem zcw43 : Cond.code yX4_empty cX4_empty 1 none ∈ lw_tbl := List.mem_of_getElem? (i := 257) rfl
set_option maxRecDepth 20000 in
theorem zcw44 : Cond.code yX4_add cX4_add 5 none ∈ lw_tbl := List.mem_of_getElem? (i := 407) rfl
set_option maxRecDepth 20000 in
theorem zcw45 : Cond.code yX4_madeBy cX4_madeBy 2 (some .int) ∈ lw_tbl := List.mem_of_getElem? (i := 495) rfl
set_option maxRecDepth 20000 in
theorem zcw46 : Cond.code yX4_madeOn cX4_madeOn 2 (some .int) ∈ lw_tbl := List.mem_of_getElem? (i := 504) rfl
set_option maxRecDepth 20000 in
theorem zcw47 : Cond.code yX4_countOf cX4_countOf 5 (some .int) ∈ lw_tbl := List.mem_of_getElem? (i := 499) rfl
set_option maxRecDepth 20000 in
theorem zcw48 : Cond.code yX4_follow cX4_follow 5 (some .int) ∈ lw_tbl := List.mem_of_getElem? (i := 512) rfl
set_option maxRecDepth 20000 in
theorem zcw49 : Cond.code yX4_copyFrom cX4_copyFrom 2 none ∈ lw_tbl := List.mem_of_getElem? (i := 313) rfl
set_option maxRecDepth 20000 in
theorem zcw50 : Cond.code yX5_init cX5_init 1 none ∈ lw_tbl := List.mem_of_getElem? (i := 52) rfl
set_option maxRecDepth 20000 in
theorem zcw51 : Cond.code yX5_has cX5_has 2 (some .boolean) ∈ lw_tbl := List.mem_of_getElem? (i := 541) rfl
set_option maxRecDepth 20000 in
theorem zcw52 : Cond.code yX5_add cX5_add 3 none ∈ lw_tbl := List.mem_of_getElem? (i := 394) rfl
set_option maxRecDepth 20000 in
theorem zcw53 : Cond.code yX5_isOut cX5_isOut 3 (some .boolean) ∈ lw_tbl := List.mem_of_getElem? (i := 476) rfl
set_option maxRecDepth 20000 in
theorem zcw54 : Cond.code yX5_takeBack cX5_takeBack 4 none ∈ lw_tbl := List.mem_of_getElem? (i := 562) rfl
set_option maxRecDepth 20000 in
theorem zcw55 : Cond.code yX5_copyFrom cX5_copyFrom 2 none ∈ lw_tbl := List.mem_of_getElem? (i := 308) rfl
set_option maxRecDepth 20000 in
theorem zcw56 : Cond.code yX6_init cX6_init 1 none ∈ lw_tbl := List.mem_of_getElem? (i := 206) rfl
set_option maxRecDepth 20000 in
theorem zcw57 : Cond.code yX7_init cX7_init 1 none ∈ lw_tbl := List.mem_of_getElem? (i := 27) rfl
set_option maxRecDepth 20000 in
theorem zcw58 : Cond.code yX7_begin cX7_begin 4 (some .int) ∈ lw_tbl := List.mem_of_getElem? (i := 278) rfl
set_option maxRecDepth 20000 in
theorem zcw59 : Cond.code yX7_setSpeed cX7_setSpeed 4 (some .int) ∈ lw_tbl := List.mem_of_getElem? (i := 319) rfl
set_option maxRecDepth 20000 in
theorem zcw60 : Cond.code yX7_count cX7_count 2 (some .int) ∈ lw_tbl := List.mem_of_getElem? (i := 329) rfl
set_option maxRecDepth 20000 in
theorem zcw61 : Cond.code yX7_crew cX7_crew 3 (some .int) ∈ lw_tbl := List.mem_of_getElem? (i := 453) rfl
set_option maxRecDepth 20000 in
theorem zcw62 : Cond.code yX7_outFlag cX7_outFlag 2 (some .int) ∈ lw_tbl := List.mem_of_getElem? (i := 472) rfl
set_option maxRecDepth 20000 in
theorem zcw63 : Cond.code yX7_at cX7_at 2 (some .int) ∈ lw_tbl := List.mem_of_getElem? (i := 449) rfl
set_option maxRecDepth 20000 in
theorem zcw64 : Cond.code yX7_starter cX7_starter 2 (some .int) ∈ lw_tbl := List.mem_of_getElem? (i := 516) rfl
set_option maxRecDepth 20000 in
theorem zcw65 : Cond.code yX7_bump cX7_bump 3 (some .int) ∈ lw_tbl := List.mem_of_getElem? (i := 533) rfl
set_option maxRecDepth 20000 in
theorem zcw66 : Cond.code yX7_why cX7_why 3 (some .int) ∈ lw_tbl := List.mem_of_getElem? (i := 523) rfl
set_option maxRecDepth 20000 in
theorem zcw67 : Cond.code yX7_bumped cX7_bumped 3 (some .int) ∈ lw_tbl := List.mem_of_getElem? (i := 537) rfl
set_option maxRecDepth 20000 in
theorem zcw68 : Cond.code yX7_rerow cX7_rerow 3 (some .int) ∈ lw_tbl := List.mem_of_getElem? (i := 546) rfl
set_option maxRecDepth 20000 in
theorem zcw69 : Cond.code yX7_finish cX7_finish 1 (some .int) ∈ lw_tbl := List.mem_of_getElem? (i := 573) rfl
set_option maxRecDepth 20000 in
theorem zcw70 : Cond.code yX7_undo cX7_undo 2 (some .int) ∈ lw_tbl := List.mem_of_getElem? (i := 343) rfl
set_option maxRecDepth 20000 in
theorem zcw71 : Cond.code yX7_foretold cX7_foretold 3 (some .int) ∈ lw_tbl := List.mem_of_getElem? (i := 353) rfl
set_option maxRecDepth 20000 in
theorem zcw72 : Cond.code yX7_row cX7_row 2 (some .int) ∈ lw_tbl := List.mem_of_getElem? (i := 390) rfl
set_option maxRecDepth 20000 in
theorem zcw73 : Cond.code yX7_floatBits cX7_floatBits 5 (some .int) ∈ lw_tbl := List.mem_of_getElem? (i := 384) rfl
set_option maxRecDepth 20000 in
theorem zcw74 : Cond.code yX7_place cX7_place 3 (some .int) ∈ lw_tbl := List.mem_of_getElem? (i := 420) rfl
set_option maxRecDepth 20000 in
theorem zcw75 : Cond.code yX7_again cX7_again 3 (some .int) ∈ lw_tbl := List.mem_of_getElem? (i := 508) rfl
set_option maxRecDepth 20000 in
theorem zcw76 : Cond.code yX7_bestRise cX7_bestRise 1 (some .int) ∈ lw_tbl := List.mem_of_getElem? (i := 432) rfl
set_option maxRecDepth 20000 in
theorem zcw77 : Cond.code yJ6_bitCount_0f7a4 cJ6_bitCount_0f7a4 1 (some .int) ∈ lw_tbl := List.mem_of_getElem? (i := 566) rfl
set_option maxRecDepth 20000 in
theorem zcw78 : Cond.code yJ9_min_7cf53 cJ9_min_7cf53 2 (some .int) ∈ lw_tbl := List.mem_of_getElem? (i := 301) rfl
set_option maxRecDepth 20000 in
theorem zcw79 : Cond.code yL_cell cL_cell 2 (some .int) ∈ lw_tbl := List.mem_of_getElem? (i := 440) rfl
set_option maxRecDepth 20000 in
theorem zcw80 : Cond.code yL_holds cL_holds 9 (some .boolean) ∈ lw_tbl := List.mem_of_getElem? (i := 445) rfl
set_option maxRecDepth 20000 in
theorem zcw81 : Cond.code yL_raced cL_raced 12 (some .boolean) ∈ lw_tbl := List.mem_of_getElem? (i := 519) rfl
