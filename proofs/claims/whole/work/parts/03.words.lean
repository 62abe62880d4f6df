/-- field links: class, pool index, the field's class, the field, place of the word -/
def zfl : List (Nat × Nat × Nat × Nat × Nat) := [(0, 7, 0, 0, 70), (1, 14, 1, 0, 123), (1, 20, 1, 1, 126), (1, 23, 1, 2, 128), (1, 29, 1, 3, 130), (1, 36, 1, 4, 133), (1, 40, 1, 9, 143), (1, 44, 1, 10, 145), (1, 47, 1, 11, 148), (1, 50, 1, 12, 151), (1, 53, 1, 5, 135), (1, 56, 1, 6, 137), (1, 59, 1, 7, 139), (1, 62, 1, 8, 141), (1, 75, 5, 2, 90), (1, 115, 5, 0, 85), (1, 118, 5, 1, 88), (2, 14, 2, 0, 204), (2, 20, 2, 1, 206), (2, 23, 2, 3, 210), (2, 27, 2, 4, 211), (2, 30, 2, 5, 212), (2, 43, 2, 6, 213), (2, 50, 1, 0, 125), (2, 58, 2, 2, 208), (2, 61, 1, 10, 146), (2, 64, 1, 11, 149), (3, 11, 3, 0, 188), (3, 18, 3, 1, 189), (4, 14, 4, 0, 107), (4, 20, 4, 1, 108), (4, 23, 4, 2, 109), (4, 26, 4, 3, 110), (4, 29, 4, 4, 111), (5, 14, 5, 0, 83), (5, 20, 5, 1, 86), (5, 23, 5, 2, 89), (6, 12, 6, 4, 248), (6, 23, 6, 5, 250), (6, 27, 6, 0, 240), (6, 35, 1, 3, 131), (6, 44, 6, 3, 246), (6, 47, 6, 1, 242), (6, 54, 6, 6, 251), (6, 57, 6, 7, 252), (6, 67, 6, 8, 253), (6, 70, 6, 2, 244), (7, 10, 7, 0, 301), (7, 19, 7, 1, 302), (7, 26, 7, 2, 303), (7, 33, 7, 3, 304), (7, 53, 1, 0, 124), (7, 67, 1, 10, 147), (7, 71, 1, 11, 150), (7, 74, 1, 5, 136), (7, 77, 1, 6, 138), (7, 80, 1, 7, 140), (7, 83, 1, 8, 142), (7, 90, 1, 9, 144), (7, 93, 1, 3, 132), (7, 97, 5, 2, 91), (7, 105, 3, 1, 190), (7, 108, 6, 0, 241), (7, 111, 1, 2, 129), (7, 114, 1, 1, 127), (7, 138, 1, 4, 134), (7, 166, 5, 0, 84), (7, 169, 5, 1, 87), (7, 203, 2, 2, 209), (7, 206, 2, 0, 205), (7, 207, 2, 1, 207), (7, 248, 6, 1, 243), (7, 251, 6, 2, 245), (7, 254, 6, 4, 249), (7, 260, 6, 3, 247), (8, 7, 8, 0, 687), (8, 13, 8, 1, 688), (8, 16, 8, 3, 690), (8, 20, 8, 9, 696), (8, 23, 8, 11, 698), (8, 27, 8, 12, 699), (8, 30, 8, 13, 700), (8, 33, 8, 14, 701), (8, 37, 8, 16, 703), (8, 48, 8, 2, 689), (8, 59, 8, 10, 697), (8, 83, 8, 4, 691), (8, 105, 8, 15, 702), (8, 124, 8, 5, 692), (8, 131, 8, 6, 693), (8, 134, 8, 7, 694), (8, 137, 8, 8, 695)]
/-- virtual calls: class, index, method, arguments, places of link, instanceMethod, selects, initialized -/
def zvl : List (Nat × Nat × Nat × Nat × Nat × Nat × Nat × Nat) := [(1, 65, 2, 2, 277, 278, 279, 39), (1, 69, 11, 2, 281, 283, 0, 38), (1, 72, 25, 0, 285, 287, 1, 38), (1, 78, 45, 0, 293, 294, 295, 41), (1, 81, 9, 0, 297, 298, 299, 38), (1, 85, 1, 1, 289, 290, 291, 39), (1, 89, 8, 0, 381, 374, 375, 38), (1, 99, 6, 1, 399, 360, 361, 38), (1, 103, 12, 0, 400, 378, 379, 38), (1, 106, 14, 1, 395, 396, 397, 38), (1, 109, 55, 1, 462, 407, 408, 40), (1, 112, 13, 1, 463, 451, 452, 38), (1, 121, 19, 1, 493, 495, 5, 38), (1, 124, 20, 2, 497, 499, 6, 38), (1, 128, 17, 1, 520, 482, 483, 38), (1, 131, 46, 4, 521, 522, 523, 41), (1, 135, 22, 2, 526, 528, 7, 38), (1, 138, 23, 0, 530, 532, 8, 38), (1, 141, 26, 2, 415, 416, 417, 38), (1, 144, 27, 1, 427, 412, 413, 38), (1, 147, 28, 1, 428, 420, 421, 38), (1, 150, 3, 1, 334, 335, 336, 39), (1, 154, 57, 1, 344, 345, 346, 40), (1, 157, 51, 1, 349, 350, 351, 41), (2, 33, 34, 3, 552, 553, 554, 43), (2, 37, 12, 0, 556, 378, 379, 38), (2, 46, 13, 1, 557, 451, 452, 38), (2, 51, 1, 1, 558, 290, 291, 39), (2, 54, 2, 2, 559, 278, 279, 39), (2, 67, 35, 2, 560, 562, 9, 43), (2, 71, 36, 3, 564, 566, 10, 43), (3, 22, 41, 0, 322, 324, 2, 42), (3, 25, 42, 0, 326, 327, 328, 42), (3, 29, 31, 1, 330, 331, 332, 38), (4, 33, 2, 2, 525, 278, 279, 39), (4, 37, 49, 2, 433, 435, 4, 41), (4, 41, 1, 1, 437, 290, 291, 39), (4, 45, 3, 1, 353, 335, 336, 39), (5, 27, 2, 2, 468, 278, 279, 39), (5, 31, 1, 1, 410, 290, 291, 39), (5, 35, 54, 2, 505, 465, 466, 40), (5, 38, 3, 1, 348, 335, 336, 39), (6, 31, 2, 2, 631, 278, 279, 39), (6, 40, 57, 1, 644, 345, 346, 40), (6, 50, 61, 1, 645, 647, 11, 44), (6, 60, 16, 3, 662, 459, 460, 38), (6, 64, 54, 2, 663, 465, 466, 40), (6, 73, 62, 1, 649, 651, 12, 44), (6, 77, 64, 1, 653, 655, 13, 44), (6, 80, 63, 2, 658, 660, 14, 44), (6, 84, 1, 1, 657, 290, 291, 39), (7, 37, 5, 3, 273, 274, 275, 38), (7, 41, 40, 1, 318, 319, 320, 42), (7, 45, 9, 0, 354, 298, 299, 38), (7, 49, 6, 1, 359, 360, 361, 38), (7, 57, 1, 1, 363, 290, 291, 39), (7, 63, 2, 2, 364, 278, 279, 39), (7, 86, 8, 0, 373, 374, 375, 38), (7, 102, 12, 0, 377, 378, 379, 38), (7, 117, 10, 1, 387, 388, 389, 38), (7, 120, 15, 1, 391, 392, 393, 38), (7, 123, 14, 1, 401, 396, 397, 38), (7, 126, 71, 1, 402, 404, 3, 37), (7, 129, 27, 1, 411, 412, 413, 38), (7, 132, 28, 1, 419, 420, 421, 38), (7, 135, 29, 1, 423, 424, 425, 38), (7, 142, 47, 1, 429, 430, 431, 41), (7, 147, 48, 1, 438, 439, 440, 41), (7, 150, 55, 1, 406, 407, 408, 40), (7, 153, 13, 1, 450, 451, 452, 38), (7, 156, 16, 3, 458, 459, 460, 38), (7, 160, 54, 2, 464, 465, 466, 40), (7, 163, 53, 1, 477, 478, 479, 40), (7, 172, 17, 1, 481, 482, 483, 38), (7, 175, 18, 1, 489, 490, 491, 38), (7, 178, 56, 1, 501, 502, 503, 40), (7, 187, 21, 0, 516, 517, 518, 38), (7, 190, 42, 0, 538, 327, 328, 42), (7, 194, 31, 1, 539, 331, 332, 38), (7, 197, 43, 0, 540, 541, 542, 42), (7, 200, 33, 1, 548, 549, 550, 43), (7, 208, 37, 1, 568, 569, 570, 43), (7, 216, 24, 2, 585, 586, 587, 38), (7, 220, 34, 3, 593, 553, 554, 43), (7, 224, 38, 1, 594, 595, 596, 43), (7, 229, 7, 1, 602, 603, 604, 38), (7, 232, 26, 2, 606, 416, 417, 38), (7, 236, 50, 2, 611, 612, 613, 41), (7, 239, 30, 0, 619, 620, 621, 38), (7, 242, 59, 1, 627, 628, 629, 44), (7, 245, 60, 1, 640, 641, 642, 44), (7, 257, 57, 1, 668, 345, 346, 40), (8, 40, 98, 3, 675, 677, 15, 45), (8, 52, 95, 0, 679, 681, 16, 45), (8, 56, 97, 0, 683, 685, 17, 45), (8, 62, 99, 1, 772, 774, 21, 45), (8, 66, 101, 1, 776, 778, 22, 45), (8, 69, 102, 2, 808, 810, 26, 45), (8, 73, 96, 0, 748, 750, 18, 45), (8, 76, 94, 1, 756, 758, 19, 45), (8, 80, 100, 0, 768, 770, 20, 45), (8, 86, 110, 2, 784, 786, 23, 45), (8, 90, 111, 2, 788, 790, 24, 45), (8, 93, 103, 2, 804, 806, 25, 45), (8, 96, 104, 2, 812, 814, 27, 45), (8, 99, 118, 2, 828, 830, 28, 45), (8, 102, 105, 0, 836, 838, 29, 45), (8, 108, 122, 0, 848, 850, 30, 45), (8, 117, 125, 2, 870, 872, 31, 45), (8, 121, 128, 1, 882, 884, 32, 45), (8, 127, 134, 1, 914, 916, 35, 45), (8, 140, 135, 0, 910, 912, 34, 45), (8, 143, 136, 0, 906, 908, 33, 45), (13, 13, 66, 3, 314, 315, 316, 37), (13, 17, 106, 3, 741, 742, 743, 45), (13, 18, 67, 2, 355, 356, 357, 37), (13, 22, 107, 2, 752, 753, 754, 45), (13, 23, 68, 2, 365, 366, 367, 37), (13, 26, 108, 2, 760, 761, 762, 45), (13, 27, 69, 1, 369, 370, 371, 37), (13, 31, 109, 1, 764, 765, 766, 45), (13, 32, 70, 2, 383, 384, 385, 37), (13, 35, 112, 2, 780, 781, 782, 45), (13, 36, 72, 1, 442, 443, 444, 37), (13, 39, 113, 1, 792, 793, 794, 45), (13, 40, 73, 1, 446, 447, 448, 37), (13, 43, 114, 1, 796, 797, 798, 45), (13, 44, 74, 2, 454, 455, 456, 37), (13, 47, 115, 2, 800, 801, 802, 45), (13, 48, 75, 2, 469, 470, 471, 37), (13, 51, 116, 2, 816, 817, 818, 45), (13, 52, 76, 2, 473, 474, 475, 37), (13, 55, 117, 2, 820, 821, 822, 45), (13, 56, 77, 1, 485, 486, 487, 37), (13, 59, 119, 1, 824, 825, 826, 45), (13, 60, 78, 0, 512, 513, 514, 37), (13, 64, 120, 0, 832, 833, 834, 45), (13, 65, 79, 0, 534, 535, 536, 37), (13, 68, 121, 0, 840, 841, 842, 45), (13, 69, 80, 2, 544, 545, 546, 37), (13, 72, 123, 2, 844, 845, 846, 45), (13, 73, 81, 0, 577, 578, 579, 37), (13, 76, 124, 0, 862, 863, 864, 45), (13, 77, 82, 2, 581, 582, 583, 37), (13, 80, 126, 2, 866, 867, 868, 45), (13, 81, 83, 1, 589, 590, 591, 37), (13, 84, 127, 1, 874, 875, 876, 45), (13, 85, 85, 2, 598, 599, 600, 37), (13, 88, 129, 2, 878, 879, 880, 45), (13, 89, 86, 2, 607, 608, 609, 37), (13, 92, 130, 2, 886, 887, 888, 45), (13, 93, 87, 0, 615, 616, 617, 37), (13, 96, 131, 0, 890, 891, 892, 45), (13, 97, 88, 1, 623, 624, 625, 37), (13, 100, 132, 1, 894, 895, 896, 45), (13, 101, 89, 0, 632, 633, 634, 37), (13, 104, 133, 0, 898, 899, 900, 45), (13, 105, 90, 1, 636, 637, 638, 37), (13, 108, 137, 1, 902, 903, 904, 45), (13, 109, 91, 0, 664, 665, 666, 37), (13, 112, 138, 0, 918, 919, 920, 45)]
def zsl : List (Nat × Nat × Nat × Nat × Nat × Nat × Nat) := [(0, 13, 142, 2, 338, 339, 46), (1, 93, 142, 2, 382, 339, 46), (7, 182, 141, 1, 506, 507, 48), (7, 212, 84, 1, 572, 573, 37), (8, 44, 93, 3, 745, 746, 45), (8, 111, 140, 1, 852, 853, 49), (9, 59, 139, 1, 855, 856, 49)]
/-- constructors: the same class's or package's; and nest mates' private ones -/
def zil : List (Nat × Nat × Nat × Nat × Nat × Nat × Nat) := [(1, 11, 0, 1, 66, 67, 39), (2, 11, 0, 1, 203, 67, 39), (4, 11, 0, 1, 106, 67, 39), (5, 11, 0, 1, 82, 67, 39), (6, 20, 0, 1, 239, 67, 39), (7, 18, 39, 0, 181, 182, 42), (13, 9, 65, 0, 52, 53, 37), (13, 12, 92, 0, 671, 672, 45)]
def znl : List (Nat × Nat × Nat × Nat × Nat × Nat × Nat) := [(1, 28, 52, 0, 77, 78, 40), (1, 35, 44, 0, 101, 102, 41), (3, 17, 4, 0, 187, 61, 38), (6, 11, 52, 0, 237, 78, 40), (7, 9, 4, 0, 60, 61, 38), (7, 25, 32, 0, 198, 199, 43), (7, 32, 58, 0, 232, 233, 44)]
def zol : List (Nat × Nat × Nat) := [(0, 1, 69), (1, 3, 63), (2, 3, 201), (3, 3, 184), (4, 3, 104), (5, 3, 80), (6, 3, 235), (7, 1, 55), (8, 1, 674)]
def zal : List (Nat × Nat × Nat) := [(0, 19, 341)]
def zwl : List (Nat × Nat × Nat) := [(9, 74, 858)]
/-- class links: class, index, the class, places of link, instantiable, initialized -/
def zkl : List (Nat × Nat × Nat × Nat × Nat × Nat) := [(1, 9, 0, 64, 65, 39), (1, 26, 5, 75, 76, 40), (1, 33, 4, 99, 100, 41), (2, 9, 0, 202, 65, 39), (3, 9, 1, 185, 59, 38), (4, 9, 0, 105, 65, 39), (5, 9, 0, 81, 65, 39), (6, 9, 5, 236, 76, 40), (6, 18, 0, 238, 65, 39), (7, 7, 1, 58, 59, 38), (7, 16, 3, 179, 180, 42), (7, 23, 2, 196, 197, 43), (7, 30, 6, 230, 231, 44), (13, 7, 7, 50, 51, 37), (13, 10, 8, 669, 670, 45)]
def zkl_int : List (Nat × Nat × Int × Nat) := [(7, 228, (-2147483648), 576), (9, 77, (2143289344), 861), (10, 265, (1431655765), 509), (10, 266, (858993459), 510), (10, 267, (252645135), 511)]
def zkl_flt : List (Nat × Nat × UInt32 × Nat) := [(7, 227, 1258291200, 575)]
theorem zlay0 : u_ws RX0 TX0 1 = [71].filterMap (fun i => lw_tbl[i]?) := by decide +kernel
theorem zlay1 : u_ws RX1 TX1 13 = [152, 154, 156, 158, 160, 162, 164, 166, 168, 170, 172, 174, 176].filterMap (fun i => lw_tbl[i]?) := by decide +kernel
theorem zlay2 : u_ws RX2 TX2 7 = [214, 216, 218, 220, 222, 224, 226].filterMap (fun i => lw_tbl[i]?) := by decide +kernel
theorem zlay3 : u_ws RX3 TX3 2 = [191, 193].filterMap (fun i => lw_tbl[i]?) := by decide +kernel
theorem zlay4 : u_ws RX4 TX4 5 = [112, 114, 116, 118, 120].filterMap (fun i => lw_tbl[i]?) := by decide +kernel
theorem zlay5 : u_ws RX5 TX5 3 = [92, 94, 96].filterMap (fun i => lw_tbl[i]?) := by decide +kernel
theorem zlay6 : u_ws RX6 TX6 9 = [254, 256, 258, 260, 262, 264, 266, 268, 270].filterMap (fun i => lw_tbl[i]?) := by decide +kernel
theorem zlay7 : u_ws RX7 TX7 4 = [305, 307, 309, 311].filterMap (fun i => lw_tbl[i]?) := by decide +kernel
theorem zlay8 : u_ws RX8 TX8 17 = [704, 706, 708, 710, 712, 714, 716, 718, 720, 722, 724, 726, 728, 730, 732, 734, 736].filterMap (fun i => lw_tbl[i]?) := by decide +kernel
def zcp : List Nat := [68, 292, 280, 337, 62, 276, 362, 605, 376, 300, 390, 284, 380, 453, 398, 394, 461, 484, 492, 496, 500, 519, 529, 533, 588, 288, 418, 414, 422, 426, 622, 333, 200, 551, 555, 563, 567, 571, 597, 183, 321, 325, 329, 543, 103, 296, 524, 432, 441, 436, 614, 352, 79, 480, 467, 409, 504, 347, 234, 630, 643, 648, 652, 661, 656, 54, 317, 358, 368, 372, 386, 405, 445, 449, 457, 472, 476, 488, 515, 537, 547, 580, 584, 592, 574, 601, 610, 618, 626, 635, 639, 667, 673, 747, 759, 682, 751, 686, 678, 775, 771, 779, 811, 807, 815, 839, 744, 755, 763, 767, 787, 791, 783, 795, 799, 803, 819, 823, 831, 827, 835, 843, 851, 847, 865, 873, 869, 877, 885, 881, 889, 893, 897, 901, 917, 913, 909, 905, 921, 857, 854, 508, 340]
theorem zvl_ok : zvl.all (fun q => decide (lw_tbl[q.2.2.2.2.1]? = some (.methodLink (zR q.1) q.2.1 (zname q.2.2.1))) && decide (lw_tbl[q.2.2.2.2.2.1]? = some (.instanceMethod (zname q.2.2.1))) && decide (lw_tbl[q.2.2.2.2.2.2.1]? = some (.selects (zname q.2.2.1).cls (zname q.2.2.1) (zname q.2.2.1))) && decide (lw_tbl[q.2.2.2.2.2.2.2]? = some (.initialized (zname q.2.2.1).cls)) && decide ((zname q.2.2.1).cls ≠ "java/lang/invoke/MethodHandle" ∧ (zname q.2.2.1).cls ≠ "java/lang/invoke/VarHandle" ∧ (parseMethodDescriptor (zname q.2.2.1).desc).map (fun d => d.parameters.length) = some q.2.2.2.1)) = true := by decide +kernel
theorem zsl_ok : zsl.all (fun q => decide (lw_tbl[q.2.2.2.2.1]? = some (.methodLink (zR q.1) q.2.1 (zname q.2.2.1))) && decide (lw_tbl[q.2.2.2.2.2.1]? = some (.static (zname q.2.2.1))) && decide (lw_tbl[q.2.2.2.2.2.2]? = some (.initialized (zname q.2.2.1).cls)) && decide ((zname q.2.2.1).cls ≠ "java/lang/invoke/MethodHandle" ∧ (zname q.2.2.1).cls ≠ "java/lang/invoke/VarHandle" ∧ (parseMethodDescriptor (zname q.2.2.1).desc).map (fun d => d.parameters.length) = some q.2.2.2.1)) = true := by decide +kernel
theorem zil_ok : zil.all (fun q => decide (lw_tbl[q.2.2.2.2.1]? = some (.methodLink (zR q.1) q.2.1 (zname q.2.2.1))) && decide (lw_tbl[q.2.2.2.2.2.1]? = some (.instanceMethod (zname q.2.2.1))) && decide (lw_tbl[q.2.2.2.2.2.2]? = some (.initialized (zname q.2.2.1).cls)) && decide ((zname q.2.2.1).name = "<init>") && decide (zrt q.2.2.1 = none) && decide ((zname q.2.2.1).cls ≠ "java/lang/invoke/MethodHandle" ∧ (zname q.2.2.1).cls ≠ "java/lang/invoke/VarHandle" ∧ (parseMethodDescriptor (zname q.2.2.1).desc).map (fun d => d.parameters.length) = some q.2.2.2.1)) = true := by decide +kernel
theorem znl_ok : znl.all (fun q => decide (lw_tbl[q.2.2.2.2.1]? = some (.methodLinkNest (zR q.1) q.2.1 (zname q.2.2.1) "BumpsChart")) && decide (lw_tbl[q.2.2.2.2.2.1]? = some (.instanceMethod (zname q.2.2.1))) && decide (lw_tbl[q.2.2.2.2.2.2]? = some (.initialized (zname q.2.2.1).cls)) && decide ((zname q.2.2.1).name = "<init>") && decide (zrt q.2.2.1 = none) && decide ((zname q.2.2.1).cls ≠ "java/lang/invoke/MethodHandle" ∧ (zname q.2.2.1).cls ≠ "java/lang/invoke/VarHandle" ∧ (parseMethodDescriptor (zname q.2.2.1).desc).map (fun d => d.parameters.length) = some q.2.2.2.1)) = true := by decide +kernel
theorem zfl_ok : zfl.all (fun q => decide (lw_tbl[q.2.2.2.2]? = some (.fieldLink (zR q.1) q.2.1 (zT q.2.2.1 q.2.2.2.1).1 (zT q.2.2.1 q.2.2.2.1).2.1 (zT q.2.2.1 q.2.2.2.1).2.2.1)) && decide (q.2.2.1 < 9) && decide (q.2.2.2.1 < znf q.2.2.1)) = true := by decide +kernel
theorem zkl_ok : zkl.all (fun q => decide (lw_tbl[q.2.2.2.1]? = some (.classLink (zR q.1) q.2.1 (zR q.2.2.1))) && decide (lw_tbl[q.2.2.2.2.1]? = some (.instantiable (zR q.2.2.1) (znf q.2.2.1))) && decide (lw_tbl[q.2.2.2.2.2]? = some (.initialized (zR q.2.2.1))) && decide (q.2.2.1 < 9)) = true := by decide +kernel
theorem zki_ok : zkl_int.all (fun q => decide (lw_tbl[q.2.2.2]? = some (.constant (zR q.1) q.2.1 (Int32.ofInt q.2.2.1))) && decide (-2147483648 ≤ q.2.2.1 ∧ q.2.2.1 ≤ 2147483647)) = true := by decide +kernel
theorem zkf_ok : zkl_flt.all (fun q => decide (lw_tbl[q.2.2.2]? = some (.constantFloat (zR q.1) q.2.1 q.2.2.1))) = true := by decide +kernel
theorem zol_ok : zol.all (fun q => decide (lw_tbl[q.2.2]? = some (.methodLink (zR q.1) q.2.1 objectInit))) = true := by decide +kernel
theorem zal_ok : zal.all (fun q => decide (lw_tbl[q.2.2]? = some (.methodLink (zR q.1) q.2.1 arraycopyName))) = true := by decide +kernel
theorem zwl_ok : zwl.all (fun q => decide (lw_tbl[q.2.2]? = some (.methodLink (zR q.1) q.2.1 ⟨"java/lang/Float", "floatToRawIntBits", "(F)I"⟩))) = true := by decide +kernel
theorem zs_oi : lw_tbl[56]? = some (.instanceMethod objectInit) := by decide +kernel
set_option maxRecDepth 20000 in
theorem zs_oc : Cond.code objectInit ⟨#[0xb1]⟩ 1 none ∈ lw_tbl := List.mem_of_getElem? (i := 57) rfl
theorem zs_arrInt : lw_tbl[74]? = some (.arrayClass .int) := by decide +kernel
theorem zs_arrChar : lw_tbl[739]? = some (.arrayClass .char) := by decide +kernel
theorem zs_arrBool : lw_tbl[740]? = some (.arrayClass .boolean) := by decide +kernel
theorem zs_arrDouble : lw_tbl[229]? = some (.arrayClass .double) := by decide +kernel
theorem zs_over : lw_tbl[186]? = some (.arrayOver (.object "BumpsChart$Chart")) := by decide +kernel
theorem zs_cs : lw_tbl[342]? = some (.static arraycopyName) := by decide +kernel
theorem zs_cn : lw_tbl[343]? = some (.native arraycopyName) := by decide +kernel
theorem zs_si : lw_tbl[47]? = some (.initialized "java/lang/System") := by decide +kernel
theorem zs_rs : lw_tbl[859]? = some (.static ⟨"java/lang/Float", "floatToRawIntBits", "(F)I"⟩) := by decide +kernel
theorem zs_rn : lw_tbl[860]? = some (.native ⟨"java/lang/Float", "floatToRawIntBits", "(F)I"⟩) := by decide +kernel
theorem zs_fi : lw_tbl[49]? = some (.initialized "java/lang/Float") := by decide +kernel
set_option maxRecDepth 20000 in
theorem zcw0 : Cond.code yX0_init cX0_init 2 none ∈ lw_tbl := List.mem_of_getElem? (i := 68) rfl
set_option maxRecDepth 20000 in
theorem zcw1 : Cond.code yX0_get cX0_get 2 (some .int) ∈ lw_tbl := List.mem_of_getElem? (i := 292) rfl
set_option maxRecDepth 20000 in
theorem zcw2 : Cond.code yX0_put cX0_put 3 none ∈ lw_tbl := List.mem_of_getElem? (i := 280) rfl
set_option maxRecDepth 20000 in
theorem zcw3 : Cond.code yX0_copyFrom cX0_copyFrom 2 none ∈ lw_tbl := List.mem_of_getElem? (i := 337) rfl
set_option maxRecDepth 20000 in
theorem zcw4 : Cond.code yX1_init cX1_init 1 none ∈ lw_tbl := List.mem_of_getElem? (i := 62) rfl
set_option maxRecDepth 20000 in
theorem zcw5 : Cond.code yX1_startAnew cX1_startAnew 5 none ∈ lw_tbl := List.mem_of_getElem? (i := 276) rfl
set_option maxRecDepth 20000 in
theorem zcw6 : Cond.code yX1_hasCrew cX1_hasCrew 2 (some .boolean) ∈ lw_tbl := List.mem_of_getElem? (i := 362) rfl
set_option maxRecDepth 20000 in
theorem zcw7 : Cond.code yX1_hasDay cX1_hasDay 2 (some .boolean) ∈ lw_tbl := List.mem_of_getElem? (i := 605) rfl
set_option maxRecDepth 20000 in
theorem zcw8 : Cond.code yX1_hasRace cX1_hasRace 1 (some .boolean) ∈ lw_tbl := List.mem_of_getElem? (i := 376) rfl
set_option maxRecDepth 20000 in
theorem zcw9 : Cond.code yX1_divisions cX1_divisions 1 (some .int) ∈ lw_tbl := List.mem_of_getElem? (i := 300) rfl
set_option maxRecDepth 20000 in
theorem zcw10 : Cond.code yX1_divisionOf cX1_divisionOf 2 (some .int) ∈ lw_tbl := List.mem_of_getElem? (i := 390) rfl
set_option maxRecDepth 20000 in
theorem zcw11 : Cond.code yX1_putAt cX1_putAt 3 none ∈ lw_tbl := List.mem_of_getElem? (i := 284) rfl
set_option maxRecDepth 20000 in
theorem zcw12 : Cond.code yX1_starters cX1_starters 1 (some .int) ∈ lw_tbl := List.mem_of_getElem? (i := 380) rfl
set_option maxRecDepth 20000 in
theorem zcw13 : Cond.code yX1_starterAt cX1_starterAt 2 (some .int) ∈ lw_tbl := List.mem_of_getElem? (i := 453) rfl
set_option maxRecDepth 20000 in
theorem zcw14 : Cond.code yX1_startNumber cX1_startNumber 3 (some .int) ∈ lw_tbl := List.mem_of_getElem? (i := 398) rfl
set_option maxRecDepth 20000 in
theorem zcw15 : Cond.code yX1_isStarter cX1_isStarter 2 (some .boolean) ∈ lw_tbl := List.mem_of_getElem? (i := 394) rfl
set_option maxRecDepth 20000 in
theorem zcw16 : Cond.code yX1_reasonAgainst cX1_reasonAgainst 7 (some .int) ∈ lw_tbl := List.mem_of_getElem? (i := 461) rfl
set_option maxRecDepth 20000 in
theorem zcw17 : Cond.code yX1_span cX1_span 2 (some .int) ∈ lw_tbl := List.mem_of_getElem? (i := 484) rfl
set_option maxRecDepth 20000 in
theorem zcw18 : Cond.code yX1_withThoseThatNeed cX1_withThoseThatNeed 4 (some .int) ∈ lw_tbl := List.mem_of_getElem? (i := 492) rfl
set_option maxRecDepth 20000 in
theorem zcw19 : Cond.code yX1_neededBy cX1_neededBy 4 (some .int) ∈ lw_tbl := List.mem_of_getElem? (i := 496) rfl
set_option maxRecDepth 20000 in
theorem zcw20 : Cond.code yX1_liesWithin cX1_liesWithin 4 (some .boolean) ∈ lw_tbl := List.mem_of_getElem? (i := 500) rfl
set_option maxRecDepth 20000 in
theorem zcw21 : Cond.code yX1_endRace cX1_endRace 5 (some .int) ∈ lw_tbl := List.mem_of_getElem? (i := 519) rfl
set_option maxRecDepth 20000 in
theorem zcw22 : Cond.code yX1_exchange cX1_exchange 5 none ∈ lw_tbl := List.mem_of_getElem? (i := 529) rfl
set_option maxRecDepth 20000 in
theorem zcw23 : Cond.code yX1_endDay cX1_endDay 1 none ∈ lw_tbl := List.mem_of_getElem? (i := 533) rfl
set_option maxRecDepth 20000 in
theorem zcw24 : Cond.code yX1_position cX1_position 4 (some .double) ∈ lw_tbl := List.mem_of_getElem? (i := 588) rfl
set_option maxRecDepth 20000 in
theorem zcw25 : Cond.code yX1_notePlaces cX1_notePlaces 2 none ∈ lw_tbl := List.mem_of_getElem? (i := 288) rfl
set_option maxRecDepth 20000 in
theorem zcw26 : Cond.code yX1_placeAfter cX1_placeAfter 3 (some .int) ∈ lw_tbl := List.mem_of_getElem? (i := 418) rfl
set_option maxRecDepth 20000 in
theorem zcw27 : Cond.code yX1_daysRisen cX1_daysRisen 4 (some .int) ∈ lw_tbl := List.mem_of_getElem? (i := 414) rfl
set_option maxRecDepth 20000 in
theorem zcw28 : Cond.code yX1_daysFallen cX1_daysFallen 4 (some .int) ∈ lw_tbl := List.mem_of_getElem? (i := 422) rfl
set_option maxRecDepth 20000 in
theorem zcw29 : Cond.code yX1_award cX1_award 2 (some .int) ∈ lw_tbl := List.mem_of_getElem? (i := 426) rfl
set_option maxRecDepth 20000 in
theorem zcw30 : Cond.code yX1_bestRiser cX1_bestRiser 6 (some .int) ∈ lw_tbl := List.mem_of_getElem? (i := 622) rfl
set_option maxRecDepth 20000 in
theorem zcw31 : Cond.code yX1_copyFrom cX1_copyFrom 2 none ∈ lw_tbl := List.mem_of_getElem? (i := 333) rfl
set_option maxRecDepth 20000 in
theorem zcw32 : Cond.code yX2_init cX2_init 1 none ∈ lw_tbl := List.mem_of_getElem? (i := 200) rfl
set_option maxRecDepth 20000 in
theorem zcw33 : Cond.code yX2_foretell cX2_foretell 2 none ∈ lw_tbl := List.mem_of_getElem? (i := 551) rfl
set_option maxRecDepth 20000 in
theorem zcw34 : Cond.code yX2_foretellWith cX2_foretellWith 6 none ∈ lw_tbl := List.mem_of_getElem? (i := 555) rfl
set_option maxRecDepth 20000 in
theorem zcw35 : Cond.code yX2_findNext cX2_findNext 13 (some .boolean) ∈ lw_tbl := List.mem_of_getElem? (i := 563) rfl
set_option maxRecDepth 20000 in
theorem zcw36 : Cond.code yX2_add cX2_add 5 none ∈ lw_tbl := List.mem_of_getElem? (i := 567) rfl
set_option maxRecDepth 20000 in
theorem zcw37 : Cond.code yX2_timeOf cX2_timeOf 2 (some .double) ∈ lw_tbl := List.mem_of_getElem? (i := 571) rfl
set_option maxRecDepth 20000 in
theorem zcw38 : Cond.code yX2_hasUp cX2_hasUp 3 (some .boolean) ∈ lw_tbl := List.mem_of_getElem? (i := 597) rfl
set_option maxRecDepth 20000 in
theorem zcw39 : Cond.code yX3_init cX3_init 2 none ∈ lw_tbl := List.mem_of_getElem? (i := 183) rfl
set_option maxRecDepth 20000 in
theorem zcw40 : Cond.code yX3_keep cX3_keep 3 none ∈ lw_tbl := List.mem_of_getElem? (i := 321) rfl
set_option maxRecDepth 20000 in
theorem zcw41 : Cond.code yX3_moveOldestToEnd cX3_moveOldestToEnd 3 none ∈ lw_tbl := List.mem_of_getElem? (i := 325) rfl
set_option maxRecDepth 20000 in
theorem zcw42 : Cond.code yX3_latest cX3_latest 1 (some (.object "BumpsChart$Chart")) ∈ lw_tbl := List.mem_of_getElem? (i := 329) rfl
set_option maxRecDepth 20000 in
theorem zcw43 : Cond.code yX3_dropLatest cX3_dropLatest 1 none ∈ lw_tbl := List.mem_of_getElem? (i := 543) rfl
set_option maxRecDepth 20000 in
theorem zcw44 : Cond.code yX4_init cX4_init 1 none ∈ lw_tbl := List.mem_of_getElem? (i := 103) rfl
set_option maxRecDepth 20000 in
theorem zcw45 : Cond.code yX4_empty cX4_empty 1 none ∈ lw_tbl := List.mem_of_getElem? (i := 296) rfl
set_option maxRecDepth 20000 in
theorem zcw46 : Cond.code yX4_add cX4_add 5 none ∈ lw_tbl := List.mem_of_getElem? (i := 524) rfl
set_option maxRecDepth 20000 in
theorem zcw47 : Cond.code yX4_madeBy cX4_madeBy 2 (some .int) ∈ lw_tbl := List.mem_of_getElem? (i := 432) rfl
set_option maxRecDepth 20000 in
theorem zcw48 : Cond.code yX4_madeOn cX4_madeOn 2 (some .int) ∈ lw_tbl := List.mem_of_getElem? (i := 441) rfl
set_option maxRecDepth 20000 in
theorem zcw49 : Cond.code yX4_countOf cX4_countOf 5 (some .int) ∈ lw_tbl := List.mem_of_getElem? (i := 436) rfl
set_option maxRecDepth 20000 in
theorem zcw50 : Cond.code yX4_follow cX4_follow 5 (some .int) ∈ lw_tbl := List.mem_of_getElem? (i := 614) rfl
set_option maxRecDepth 20000 in
theorem zcw51 : Cond.code yX4_copyFrom cX4_copyFrom 2 none ∈ lw_tbl := List.mem_of_getElem? (i := 352) rfl
set_option maxRecDepth 20000 in
theorem zcw52 : Cond.code yX5_init cX5_init 1 none ∈ lw_tbl := List.mem_of_getElem? (i := 79) rfl
set_option maxRecDepth 20000 in
theorem zcw53 : Cond.code yX5_has cX5_has 2 (some .boolean) ∈ lw_tbl := List.mem_of_getElem? (i := 480) rfl
set_option maxRecDepth 20000 in
theorem zcw54 : Cond.code yX5_add cX5_add 3 none ∈ lw_tbl := List.mem_of_getElem? (i := 467) rfl
set_option maxRecDepth 20000 in
theorem zcw55 : Cond.code yX5_isOut cX5_isOut 3 (some .boolean) ∈ lw_tbl := List.mem_of_getElem? (i := 409) rfl
set_option maxRecDepth 20000 in
theorem zcw56 : Cond.code yX5_takeBack cX5_takeBack 4 none ∈ lw_tbl := List.mem_of_getElem? (i := 504) rfl
set_option maxRecDepth 20000 in
theorem zcw57 : Cond.code yX5_copyFrom cX5_copyFrom 2 none ∈ lw_tbl := List.mem_of_getElem? (i := 347) rfl
set_option maxRecDepth 20000 in
theorem zcw58 : Cond.code yX6_init cX6_init 1 none ∈ lw_tbl := List.mem_of_getElem? (i := 234) rfl
set_option maxRecDepth 20000 in
theorem zcw59 : Cond.code yX6_append cX6_append 2 none ∈ lw_tbl := List.mem_of_getElem? (i := 630) rfl
set_option maxRecDepth 20000 in
theorem zcw60 : Cond.code yX6_check cX6_check 4 none ∈ lw_tbl := List.mem_of_getElem? (i := 643) rfl
set_option maxRecDepth 20000 in
theorem zcw61 : Cond.code yX6_readBump cX6_readBump 4 (some .boolean) ∈ lw_tbl := List.mem_of_getElem? (i := 648) rfl
set_option maxRecDepth 20000 in
theorem zcw62 : Cond.code yX6_digitsAt cX6_digitsAt 3 (some .int) ∈ lw_tbl := List.mem_of_getElem? (i := 652) rfl
set_option maxRecDepth 20000 in
theorem zcw63 : Cond.code yX6_numberAt cX6_numberAt 5 (some .int) ∈ lw_tbl := List.mem_of_getElem? (i := 661) rfl
set_option maxRecDepth 20000 in
theorem zcw64 : Cond.code yX6_signAt cX6_signAt 2 (some .int) ∈ lw_tbl := List.mem_of_getElem? (i := 656) rfl
set_option maxRecDepth 20000 in
theorem zcw65 : Cond.code yX7_init cX7_init 1 none ∈ lw_tbl := List.mem_of_getElem? (i := 54) rfl
set_option maxRecDepth 20000 in
theorem zcw66 : Cond.code yX7_begin cX7_begin 4 (some .int) ∈ lw_tbl := List.mem_of_getElem? (i := 317) rfl
set_option maxRecDepth 20000 in
theorem zcw67 : Cond.code yX7_setSpeed cX7_setSpeed 4 (some .int) ∈ lw_tbl := List.mem_of_getElem? (i := 358) rfl
set_option maxRecDepth 20000 in
theorem zcw68 : Cond.code yX7_set cX7_set 4 (some .int) ∈ lw_tbl := List.mem_of_getElem? (i := 368) rfl
set_option maxRecDepth 20000 in
theorem zcw69 : Cond.code yX7_count cX7_count 2 (some .int) ∈ lw_tbl := List.mem_of_getElem? (i := 372) rfl
set_option maxRecDepth 20000 in
theorem zcw70 : Cond.code yX7_crew cX7_crew 3 (some .int) ∈ lw_tbl := List.mem_of_getElem? (i := 386) rfl
set_option maxRecDepth 20000 in
theorem zcw71 : Cond.code yX7_outFlag cX7_outFlag 2 (some .int) ∈ lw_tbl := List.mem_of_getElem? (i := 405) rfl
set_option maxRecDepth 20000 in
theorem zcw72 : Cond.code yX7_at cX7_at 2 (some .int) ∈ lw_tbl := List.mem_of_getElem? (i := 445) rfl
set_option maxRecDepth 20000 in
theorem zcw73 : Cond.code yX7_starter cX7_starter 2 (some .int) ∈ lw_tbl := List.mem_of_getElem? (i := 449) rfl
set_option maxRecDepth 20000 in
theorem zcw74 : Cond.code yX7_bump cX7_bump 3 (some .int) ∈ lw_tbl := List.mem_of_getElem? (i := 457) rfl
set_option maxRecDepth 20000 in
theorem zcw75 : Cond.code yX7_why cX7_why 3 (some .int) ∈ lw_tbl := List.mem_of_getElem? (i := 472) rfl
set_option maxRecDepth 20000 in
theorem zcw76 : Cond.code yX7_bumped cX7_bumped 3 (some .int) ∈ lw_tbl := List.mem_of_getElem? (i := 476) rfl
set_option maxRecDepth 20000 in
theorem zcw77 : Cond.code yX7_rerow cX7_rerow 3 (some .int) ∈ lw_tbl := List.mem_of_getElem? (i := 488) rfl
set_option maxRecDepth 20000 in
theorem zcw78 : Cond.code yX7_finish cX7_finish 1 (some .int) ∈ lw_tbl := List.mem_of_getElem? (i := 515) rfl
set_option maxRecDepth 20000 in
theorem zcw79 : Cond.code yX7_undo cX7_undo 2 (some .int) ∈ lw_tbl := List.mem_of_getElem? (i := 537) rfl
set_option maxRecDepth 20000 in
theorem zcw80 : Cond.code yX7_foretold cX7_foretold 3 (some .int) ∈ lw_tbl := List.mem_of_getElem? (i := 547) rfl
set_option maxRecDepth 20000 in
theorem zcw81 : Cond.code yX7_row cX7_row 2 (some .int) ∈ lw_tbl := List.mem_of_getElem? (i := 580) rfl
set_option maxRecDepth 20000 in
theorem zcw82 : Cond.code yX7_distanceBits cX7_distanceBits 3 (some .int) ∈ lw_tbl := List.mem_of_getElem? (i := 584) rfl
set_option maxRecDepth 20000 in
theorem zcw83 : Cond.code yX7_speedFor cX7_speedFor 4 (some .int) ∈ lw_tbl := List.mem_of_getElem? (i := 592) rfl
set_option maxRecDepth 20000 in
theorem zcw84 : Cond.code yX7_floatBits cX7_floatBits 5 (some .int) ∈ lw_tbl := List.mem_of_getElem? (i := 574) rfl
set_option maxRecDepth 20000 in
theorem zcw85 : Cond.code yX7_place cX7_place 3 (some .int) ∈ lw_tbl := List.mem_of_getElem? (i := 601) rfl
set_option maxRecDepth 20000 in
theorem zcw86 : Cond.code yX7_again cX7_again 3 (some .int) ∈ lw_tbl := List.mem_of_getElem? (i := 610) rfl
set_option maxRecDepth 20000 in
theorem zcw87 : Cond.code yX7_bestRise cX7_bestRise 1 (some .int) ∈ lw_tbl := List.mem_of_getElem? (i := 618) rfl
set_option maxRecDepth 20000 in
theorem zcw88 : Cond.code yX7_type cX7_type 2 (some .int) ∈ lw_tbl := List.mem_of_getElem? (i := 626) rfl
set_option maxRecDepth 20000 in
theorem zcw89 : Cond.code yX7_clearText cX7_clearText 2 (some .int) ∈ lw_tbl := List.mem_of_getElem? (i := 635) rfl
set_option maxRecDepth 20000 in
theorem zcw90 : Cond.code yX7_fault cX7_fault 2 (some .int) ∈ lw_tbl := List.mem_of_getElem? (i := 639) rfl
set_option maxRecDepth 20000 in
theorem zcw91 : Cond.code yX7_enter cX7_enter 1 (some .int) ∈ lw_tbl := List.mem_of_getElem? (i := 667) rfl
set_option maxRecDepth 20000 in
theorem zcw92 : Cond.code yX8_init cX8_init 1 none ∈ lw_tbl := List.mem_of_getElem? (i := 673) rfl
set_option maxRecDepth 20000 in
theorem zcw93 : Cond.code yX8_in cX8_in 3 (some .boolean) ∈ lw_tbl := List.mem_of_getElem? (i := 747) rfl
set_option maxRecDepth 20000 in
theorem zcw94 : Cond.code yX8_isCrew cX8_isCrew 2 (some .boolean) ∈ lw_tbl := List.mem_of_getElem? (i := 759) rfl
set_option maxRecDepth 20000 in
theorem zcw95 : Cond.code yX8_divisions cX8_divisions 1 (some .int) ∈ lw_tbl := List.mem_of_getElem? (i := 682) rfl
set_option maxRecDepth 20000 in
theorem zcw96 : Cond.code yX8_records cX8_records 2 none ∈ lw_tbl := List.mem_of_getElem? (i := 751) rfl
set_option maxRecDepth 20000 in
theorem zcw97 : Cond.code yX8_charts cX8_charts 2 none ∈ lw_tbl := List.mem_of_getElem? (i := 686) rfl
set_option maxRecDepth 20000 in
theorem zcw98 : Cond.code yX8_begins cX8_begins 5 none ∈ lw_tbl := List.mem_of_getElem? (i := 678) rfl
set_option maxRecDepth 20000 in
theorem zcw99 : Cond.code yX8_crewAt cX8_crewAt 3 (some .int) ∈ lw_tbl := List.mem_of_getElem? (i := 775) rfl
set_option maxRecDepth 20000 in
theorem zcw100 : Cond.code yX8_lines cX8_lines 4 none ∈ lw_tbl := List.mem_of_getElem? (i := 771) rfl
set_option maxRecDepth 20000 in
theorem zcw101 : Cond.code yX8_numberOf cX8_numberOf 3 (some .int) ∈ lw_tbl := List.mem_of_getElem? (i := 779) rfl
set_option maxRecDepth 20000 in
theorem zcw102 : Cond.code yX8_isClear cX8_isClear 5 (some .boolean) ∈ lw_tbl := List.mem_of_getElem? (i := 811) rfl
set_option maxRecDepth 20000 in
theorem zcw103 : Cond.code yX8_refusal cX8_refusal 5 (some .int) ∈ lw_tbl := List.mem_of_getElem? (i := 807) rfl
set_option maxRecDepth 20000 in
theorem zcw104 : Cond.code yX8_puts cX8_puts 3 (some .int) ∈ lw_tbl := List.mem_of_getElem? (i := 815) rfl
set_option maxRecDepth 20000 in
theorem zcw105 : Cond.code yX8_finishes cX8_finishes 6 (some .int) ∈ lw_tbl := List.mem_of_getElem? (i := 839) rfl
set_option maxRecDepth 20000 in
theorem zcw106 : Cond.code yX8_begin cX8_begin 4 (some .int) ∈ lw_tbl := List.mem_of_getElem? (i := 744) rfl
set_option maxRecDepth 20000 in
theorem zcw107 : Cond.code yX8_setSpeed cX8_setSpeed 4 (some .int) ∈ lw_tbl := List.mem_of_getElem? (i := 755) rfl
set_option maxRecDepth 20000 in
theorem zcw108 : Cond.code yX8_set cX8_set 4 (some .int) ∈ lw_tbl := List.mem_of_getElem? (i := 763) rfl
set_option maxRecDepth 20000 in
theorem zcw109 : Cond.code yX8_count cX8_count 3 (some .int) ∈ lw_tbl := List.mem_of_getElem? (i := 767) rfl
set_option maxRecDepth 20000 in
theorem zcw110 : Cond.code yX8_days cX8_days 6 (some .int) ∈ lw_tbl := List.mem_of_getElem? (i := 787) rfl
set_option maxRecDepth 20000 in
theorem zcw111 : Cond.code yX8_bumpsOf cX8_bumpsOf 5 (some .int) ∈ lw_tbl := List.mem_of_getElem? (i := 791) rfl
set_option maxRecDepth 20000 in
theorem zcw112 : Cond.code yX8_crew cX8_crew 4 (some .int) ∈ lw_tbl := List.mem_of_getElem? (i := 783) rfl
set_option maxRecDepth 20000 in
theorem zcw113 : Cond.code yX8_at cX8_at 2 (some .int) ∈ lw_tbl := List.mem_of_getElem? (i := 795) rfl
set_option maxRecDepth 20000 in
theorem zcw114 : Cond.code yX8_starter cX8_starter 2 (some .int) ∈ lw_tbl := List.mem_of_getElem? (i := 799) rfl
set_option maxRecDepth 20000 in
theorem zcw115 : Cond.code yX8_bump cX8_bump 3 (some .int) ∈ lw_tbl := List.mem_of_getElem? (i := 803) rfl
set_option maxRecDepth 20000 in
theorem zcw116 : Cond.code yX8_why cX8_why 3 (some .int) ∈ lw_tbl := List.mem_of_getElem? (i := 819) rfl
set_option maxRecDepth 20000 in
theorem zcw117 : Cond.code yX8_bumped cX8_bumped 5 (some .int) ∈ lw_tbl := List.mem_of_getElem? (i := 823) rfl
set_option maxRecDepth 20000 in
theorem zcw118 : Cond.code yX8_needs cX8_needs 5 (some .boolean) ∈ lw_tbl := List.mem_of_getElem? (i := 831) rfl
set_option maxRecDepth 20000 in
theorem zcw119 : Cond.code yX8_rerow cX8_rerow 6 (some .int) ∈ lw_tbl := List.mem_of_getElem? (i := 827) rfl
set_option maxRecDepth 20000 in
theorem zcw120 : Cond.code yX8_finish cX8_finish 1 (some .int) ∈ lw_tbl := List.mem_of_getElem? (i := 835) rfl
set_option maxRecDepth 20000 in
theorem zcw121 : Cond.code yX8_undo cX8_undo 2 (some .int) ∈ lw_tbl := List.mem_of_getElem? (i := 843) rfl
set_option maxRecDepth 20000 in
theorem zcw122 : Cond.code yX8_foretells cX8_foretells 11 none ∈ lw_tbl := List.mem_of_getElem? (i := 851) rfl
set_option maxRecDepth 20000 in
theorem zcw123 : Cond.code yX8_foretold cX8_foretold 3 (some .int) ∈ lw_tbl := List.mem_of_getElem? (i := 847) rfl
set_option maxRecDepth 20000 in
theorem zcw124 : Cond.code yX8_row cX8_row 2 (some .int) ∈ lw_tbl := List.mem_of_getElem? (i := 865) rfl
set_option maxRecDepth 20000 in
theorem zcw125 : Cond.code yX8_whereIs cX8_whereIs 3 (some .double) ∈ lw_tbl := List.mem_of_getElem? (i := 873) rfl
set_option maxRecDepth 20000 in
theorem zcw126 : Cond.code yX8_distanceBits cX8_distanceBits 3 (some .int) ∈ lw_tbl := List.mem_of_getElem? (i := 869) rfl
set_option maxRecDepth 20000 in
theorem zcw127 : Cond.code yX8_speedFor cX8_speedFor 7 (some .int) ∈ lw_tbl := List.mem_of_getElem? (i := 877) rfl
set_option maxRecDepth 20000 in
theorem zcw128 : Cond.code yX8_isDay cX8_isDay 2 (some .boolean) ∈ lw_tbl := List.mem_of_getElem? (i := 885) rfl
set_option maxRecDepth 20000 in
theorem zcw129 : Cond.code yX8_place cX8_place 3 (some .int) ∈ lw_tbl := List.mem_of_getElem? (i := 881) rfl
set_option maxRecDepth 20000 in
theorem zcw130 : Cond.code yX8_again cX8_again 5 (some .int) ∈ lw_tbl := List.mem_of_getElem? (i := 889) rfl
set_option maxRecDepth 20000 in
theorem zcw131 : Cond.code yX8_bestRise cX8_bestRise 5 (some .int) ∈ lw_tbl := List.mem_of_getElem? (i := 893) rfl
set_option maxRecDepth 20000 in
theorem zcw132 : Cond.code yX8_type cX8_type 2 (some .int) ∈ lw_tbl := List.mem_of_getElem? (i := 897) rfl
set_option maxRecDepth 20000 in
theorem zcw133 : Cond.code yX8_clearText cX8_clearText 2 (some .int) ∈ lw_tbl := List.mem_of_getElem? (i := 901) rfl
set_option maxRecDepth 20000 in
theorem zcw134 : Cond.code yX8_number cX8_number 5 (some .int) ∈ lw_tbl := List.mem_of_getElem? (i := 917) rfl
set_option maxRecDepth 20000 in
theorem zcw135 : Cond.code yX8_readsBump cX8_readsBump 1 none ∈ lw_tbl := List.mem_of_getElem? (i := 913) rfl
set_option maxRecDepth 20000 in
theorem zcw136 : Cond.code yX8_faulty cX8_faulty 2 (some .int) ∈ lw_tbl := List.mem_of_getElem? (i := 909) rfl
set_option maxRecDepth 20000 in
theorem zcw137 : Cond.code yX8_fault cX8_fault 3 (some .int) ∈ lw_tbl := List.mem_of_getElem? (i := 905) rfl
set_option maxRecDepth 20000 in
theorem zcw138 : Cond.code yX8_enter cX8_enter 2 (some .int) ∈ lw_tbl := List.mem_of_getElem? (i := 921) rfl
set_option maxRecDepth 20000 in
theorem zcw139 : Cond.code yJxf58ca_isNaN_12338 cJxf58ca_isNaN_12338 1 (some .boolean) ∈ lw_tbl := List.mem_of_getElem? (i := 857) rfl
set_option maxRecDepth 20000 in
theorem zcw140 : Cond.code yJxf58ca_floatToIntBits_5c35a cJxf58ca_floatToIntBits_5c35a 1 (some .int) ∈ lw_tbl := List.mem_of_getElem? (i := 854) rfl
set_option maxRecDepth 20000 in
theorem zcw141 : Cond.code yJ6_bitCount_0f7a4 cJ6_bitCount_0f7a4 1 (some .int) ∈ lw_tbl := List.mem_of_getElem? (i := 508) rfl
set_option maxRecDepth 20000 in
theorem zcw142 : Cond.code yJ9_min_7cf53 cJ9_min_7cf53 2 (some .int) ∈ lw_tbl := List.mem_of_getElem? (i := 340) rfl
