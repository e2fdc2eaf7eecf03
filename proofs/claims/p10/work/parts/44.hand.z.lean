/-! the entry, by entry.py -/
def tp_nl : List Cond := flatC (Cond.and given_1 narrow_1)
def tp_pool : List Nat := [201, 207, 212, 216, 219, 222, 225, 228, 231, 235, 238, 241, 246, 249, 252, 255, 258, 261, 264, 267, 271, 276, 281, 284, 287, 290, 295, 298, 301, 306, 309, 312, 315, 320, 323, 326, 331, 335, 340, 343, 348, 351, 354, 357, 362, 365, 368, 201, 209, 209, 209, 209, 209, 209, 209, 209, 209, 209, 243, 243, 243, 243, 243, 243, 243, 243, 243, 273, 278, 278, 278, 278, 292, 292, 292, 303, 303, 303, 303, 317, 278, 201, 328, 201, 337, 337, 345, 345, 273, 317, 359, 359, 359, 337, 135, 137, 139]
def tp_own : List String := ["TwoPass$Operation", "TwoPass$Operation", "TwoPass$Operation", "TwoPass$Operation", "TwoPass$Operation", "TwoPass$Operation", "TwoPass$Operation", "TwoPass$Operation", "TwoPass$Operation", "TwoPass$Operation", "TwoPass$Operation", "TwoPass$Operation", "TwoPass$Operation", "TwoPass$Operation", "TwoPass$Operation", "TwoPass$Operation", "TwoPass$Operation", "TwoPass$Operation", "TwoPass$Operation", "TwoPass$Operation", "TwoPass$Operation", "TwoPass$Operation", "TwoPass$Operation", "TwoPass$Operation", "TwoPass$Operation", "TwoPass$Operation", "TwoPass$Operation", "TwoPass$Operation", "TwoPass$Operation", "TwoPass$Operation", "TwoPass$Operation", "TwoPass$Operation", "TwoPass$Operation", "TwoPass$Operation", "TwoPass$Operation", "TwoPass$Operation", "TwoPass$Operation", "TwoPass$Operation", "TwoPass$Operation", "TwoPass$Operation", "TwoPass$Operation", "TwoPass$Operation", "TwoPass$Operation", "TwoPass$Operation", "TwoPass$Operation", "TwoPass$Operation", "TwoPass$Operation", "TwoPass$Operation", "TwoPass$Operation", "TwoPass$Operation", "TwoPass$Operation", "TwoPass$Operation", "TwoPass$Operation", "TwoPass$Operation", "TwoPass$Operation", "TwoPass$Operation", "TwoPass$Operation", "TwoPass$Operation", "TwoPass$Operation", "TwoPass$Operation", "TwoPass$Operation", "TwoPass$Operation", "TwoPass$Operation", "TwoPass$Operation", "TwoPass$Operation", "TwoPass$Operation", "TwoPass$Operation", "TwoPass$Operation", "TwoPass$Operation", "TwoPass$Operation", "TwoPass$Operation", "TwoPass$Operation", "TwoPass$Operation", "TwoPass$Operation", "TwoPass$Operation", "TwoPass$Operation", "TwoPass$Operation", "TwoPass$Operation", "TwoPass$Operation", "TwoPass$Operation", "TwoPass$Operation", "TwoPass$Operation", "TwoPass$Operation", "TwoPass$Operation", "TwoPass$Operation", "TwoPass$Operation", "TwoPass$Operation", "TwoPass$Operation", "TwoPass$Operation", "TwoPass$Operation", "TwoPass$Operation", "TwoPass$Operation", "TwoPass$Operation", "TwoPass$Operation", "TwoPass$Typed", "TwoPass$Typed", "TwoPass$Typed"]
theorem tp_ownO : ∀ i : Nat, i < 94 → tp_own.getD i "" = "TwoPass$Operation" := by decide +kernel
def tp_e_ls_p : List Nat := [344, 1595, 1596, 1597, 1598, 1599, 1600, 1601, 1602, 1603, 1604, 759, 1605, 1606, 1607, 1608, 769, 1609, 1610, 1611, 753, 1612, 1613, 1614, 1615, 1616, 1617, 1618, 1619, 1620, 1621, 1622, 747, 1623, 1624, 1625, 1626, 1627, 1628, 1629, 1630, 1631, 1632, 1633, 1634, 1635, 1636]
set_option maxRecDepth 100000 in
theorem tp_e_ls : ∀ i : Nat, i < 47 → lw_tbl[tp_e_ls_p.getD i 0]? = some (Cond.laysStatic "TwoPass$Operation" (tp_opn.getD i "") "LTwoPass$Operation;") := by decide +kernel
def tp_e_ex_p : List Nat := [11, 303, 309, 315, 321, 327, 333, 339, 345, 351, 357, 85, 363, 369, 375, 381, 91, 387, 393, 399, 79, 405, 411, 417, 423, 429, 435, 441, 447, 453, 459, 465, 73, 471, 477, 483, 489, 495, 501, 507, 513, 519, 525, 531, 537, 543, 549]
set_option maxRecDepth 100000 in
theorem tp_e_ex : ∀ i : Nat, i < 47 → tp_nl[tp_e_ex_p.getD i 0]? = some (Cond.exactly (.static "TwoPass$Operation" (tp_opn.getD i "") "LTwoPass$Operation;") "TwoPass$Operation") := by decide +kernel
def tp_e_or_p : List Nat := [12, 304, 310, 316, 322, 328, 334, 340, 346, 352, 358, 86, 364, 370, 376, 382, 92, 388, 394, 400, 80, 406, 412, 418, 424, 430, 436, 442, 448, 454, 460, 466, 74, 472, 478, 484, 490, 496, 502, 508, 514, 520, 526, 532, 538, 544, 550]
set_option maxRecDepth 100000 in
theorem tp_e_or : ∀ i : Nat, i < 47 → tp_nl[tp_e_or_p.getD i 0]? = some (Cond.eq (.field (.static "TwoPass$Operation" (tp_opn.getD i "") "LTwoPass$Operation;") "java/lang/Enum" "ordinal" "I") (.int (Int32.ofNat i))) := by decide +kernel
def tp_e_la_p : List Nat := [15, 307, 313, 319, 325, 331, 337, 343, 349, 355, 361, 89, 367, 373, 379, 385, 95, 391, 397, 403, 83, 409, 415, 421, 427, 433, 439, 445, 451, 457, 463, 469, 77, 475, 481, 487, 493, 499, 505, 511, 517, 523, 529, 535, 541, 547, 553]
set_option maxRecDepth 100000 in
theorem tp_e_la : ∀ i : Nat, i < 47 → tp_nl[tp_e_la_p.getD i 0]? = some (Cond.eq (.field (.static "TwoPass$Operation" (tp_opn.getD i "") "LTwoPass$Operation;") "TwoPass$Operation" "layout" "I") (.int (tp_lay.getD i 0))) := by decide +kernel
def tp_e_co_p : List Nat := [16, 308, 314, 320, 326, 332, 338, 344, 350, 356, 362, 90, 368, 374, 380, 386, 96, 392, 398, 404, 84, 410, 416, 422, 428, 434, 440, 446, 452, 458, 464, 470, 78, 476, 482, 488, 494, 500, 506, 512, 518, 524, 530, 536, 542, 548, 554]
set_option maxRecDepth 100000 in
theorem tp_e_co : ∀ i : Nat, i < 47 → tp_nl[tp_e_co_p.getD i 0]? = some (Cond.eq (.field (.static "TwoPass$Operation" (tp_opn.getD i "") "LTwoPass$Operation;") "TwoPass$Operation" "code" "I") (.int (tp_cod.getD i 0))) := by decide +kernel
def tp_e_tx_p : List Nat := [13, 305, 311, 317, 323, 329, 335, 341, 347, 353, 359, 87, 365, 371, 377, 383, 93, 389, 395, 401, 81, 407, 413, 419, 425, 431, 437, 443, 449, 455, 461, 467, 75, 473, 479, 485, 491, 497, 503, 509, 515, 521, 527, 533, 539, 545, 551]
set_option maxRecDepth 100000 in
theorem tp_e_tx : ∀ i : Nat, i < 47 → tp_nl[tp_e_tx_p.getD i 0]? = some (Cond.eq (.field (.static "TwoPass$Operation" (tp_opn.getD i "") "LTwoPass$Operation;") "TwoPass$Operation" "text" "Ljava/lang/String;") (.string "TwoPass$Operation" (tp_pool.getD i 0))) := by decide +kernel
def tp_e_op_p : List Nat := [14, 306, 312, 318, 324, 330, 336, 342, 348, 354, 360, 88, 366, 372, 378, 384, 94, 390, 396, 402, 82, 408, 414, 420, 426, 432, 438, 444, 450, 456, 462, 468, 76, 474, 480, 486, 492, 498, 504, 510, 516, 522, 528, 534, 540, 546, 552]
set_option maxRecDepth 100000 in
theorem tp_e_op : ∀ i : Nat, i < 47 → tp_nl[tp_e_op_p.getD i 0]? = some (Cond.eq (.field (.static "TwoPass$Operation" (tp_opn.getD i "") "LTwoPass$Operation;") "TwoPass$Operation" "operands" "Ljava/lang/String;") (.string "TwoPass$Operation" (tp_pool.getD (47 + i) 0))) := by decide +kernel
def tp_e_el_p : List Nat := [22, 23, 24, 25, 26, 27, 28, 29, 30, 31, 32, 33, 34, 35, 36, 37, 38, 39, 40, 41, 42, 43, 44, 45, 46, 47, 48, 49, 50, 51, 52, 53, 54, 55, 56, 57, 58, 59, 60, 61, 62, 63, 64, 65, 66, 67, 68]
set_option maxRecDepth 100000 in
theorem tp_e_el : ∀ i : Nat, i < 47 → tp_nl[tp_e_el_p.getD i 0]? = some (Cond.eq (.elem (.static "TwoPass" "OPERATIONS" "[LTwoPass$Operation;") (.int (Int32.ofNat i))) (.static "TwoPass$Operation" (tp_opn.getD i "") "LTwoPass$Operation;")) := by decide +kernel
def tp_e_sx_p : List Nat := [752, 810, 826, 833, 840, 847, 855, 862, 869, 876, 882, 784, 889, 897, 905, 912, 801, 920, 928, 936, 770, 944, 960, 966, 972, 979, 995, 1001, 1007, 1023, 1030, 1037, 756, 1044, 1052, 1059, 1072, 1079, 1089, 1097, 1112, 1120, 1126, 1132, 1146, 1155, 1165, 752, 817, 817, 817, 817, 817, 817, 817, 817, 817, 817, 792, 792, 792, 792, 792, 792, 792, 792, 792, 777, 950, 950, 950, 950, 985, 985, 985, 1014, 1014, 1014, 1014, 763, 950, 752, 1065, 752, 1084, 1084, 1105, 1105, 777, 763, 1141, 1141, 1141, 1084, 629, 637, 643]
set_option maxRecDepth 100000 in
theorem tp_e_sx : ∀ i : Nat, i < 97 → tp_nl[tp_e_sx_p.getD i 0]? = some (Cond.exactly (.string (tp_own.getD i "") (tp_pool.getD i 0)) "java/lang/String") := by decide +kernel
def tp_e_sc_p : List Nat := [753, 811, 827, 834, 841, 848, 856, 863, 870, 877, 883, 785, 890, 898, 906, 913, 802, 921, 929, 937, 771, 945, 961, 967, 973, 980, 996, 1002, 1008, 1024, 1031, 1038, 757, 1045, 1053, 1060, 1073, 1080, 1090, 1098, 1113, 1121, 1127, 1133, 1147, 1156, 1166, 753, 818, 818, 818, 818, 818, 818, 818, 818, 818, 818, 793, 793, 793, 793, 793, 793, 793, 793, 793, 778, 951, 951, 951, 951, 986, 986, 986, 1015, 1015, 1015, 1015, 764, 951, 753, 1066, 753, 1085, 1085, 1106, 1106, 778, 764, 1142, 1142, 1142, 1085, 630, 638, 644]
set_option maxRecDepth 100000 in
theorem tp_e_sc : ∀ i : Nat, i < 97 → tp_nl[tp_e_sc_p.getD i 0]? = some (Cond.eq (.field (.string (tp_own.getD i "") (tp_pool.getD i 0)) "java/lang/String" "coder" "B") (.int 0)) := by decide +kernel
def tp_e_sa_p : List Nat := [754, 812, 828, 835, 842, 849, 857, 864, 871, 878, 884, 786, 891, 899, 907, 914, 803, 922, 930, 938, 772, 946, 962, 968, 974, 981, 997, 1003, 1009, 1025, 1032, 1039, 758, 1046, 1054, 1061, 1074, 1081, 1091, 1099, 1114, 1122, 1128, 1134, 1148, 1157, 1167, 754, 819, 819, 819, 819, 819, 819, 819, 819, 819, 819, 794, 794, 794, 794, 794, 794, 794, 794, 794, 779, 952, 952, 952, 952, 987, 987, 987, 1016, 1016, 1016, 1016, 765, 952, 754, 1067, 754, 1086, 1086, 1107, 1107, 779, 765, 1143, 1143, 1143, 1086, 631, 639, 645]
set_option maxRecDepth 100000 in
theorem tp_e_sa : ∀ i : Nat, i < 97 → tp_nl[tp_e_sa_p.getD i 0]? = some (Cond.arrayOf (.field (.string (tp_own.getD i "") (tp_pool.getD i 0)) "java/lang/String" "value" "[B") .byte) := by decide +kernel
def tp_e_sl_p : List Nat := [755, 813, 829, 836, 843, 850, 858, 865, 872, 879, 885, 787, 892, 900, 908, 915, 804, 923, 931, 939, 773, 947, 963, 969, 975, 982, 998, 1004, 1010, 1026, 1033, 1040, 759, 1047, 1055, 1062, 1075, 1082, 1092, 1100, 1115, 1123, 1129, 1135, 1149, 1158, 1168, 755, 820, 820, 820, 820, 820, 820, 820, 820, 820, 820, 795, 795, 795, 795, 795, 795, 795, 795, 795, 780, 953, 953, 953, 953, 988, 988, 988, 1017, 1017, 1017, 1017, 766, 953, 755, 1068, 755, 1087, 1087, 1108, 1108, 780, 766, 1144, 1144, 1144, 1087, 632, 640, 646]
set_option maxRecDepth 100000 in
theorem tp_e_sl : ∀ i : Nat, i < 97 → tp_nl[tp_e_sl_p.getD i 0]? = some (Cond.eq (.length (.field (.string (tp_own.getD i "") (tp_pool.getD i 0)) "java/lang/String" "value" "[B")) (.int (Int32.ofNat (tp_len.getD i 0)))) := by decide +kernel
def tp_e_se_p : List (List Nat) := [[], [814, 815, 816], [830, 831, 832], [837, 838, 839], [844, 845, 846], [851, 852, 853, 854], [859, 860, 861], [866, 867, 868], [873, 874, 875], [880, 881], [886, 887, 888], [788, 789, 790, 791], [893, 894, 895, 896], [901, 902, 903, 904], [909, 910, 911], [916, 917, 918, 919], [805, 806, 807, 808, 809], [924, 925, 926, 927], [932, 933, 934, 935], [940, 941, 942, 943], [774, 775, 776], [948, 949], [964, 965], [970, 971], [976, 977, 978], [983, 984], [999, 1000], [1005, 1006], [1011, 1012, 1013], [1027, 1028, 1029], [1034, 1035, 1036], [1041, 1042, 1043], [760, 761, 762], [1048, 1049, 1050, 1051], [1056, 1057, 1058], [1063, 1064], [1076, 1077, 1078], [1083], [1093, 1094, 1095, 1096], [1101, 1102, 1103, 1104], [1116, 1117, 1118, 1119], [1124, 1125], [1130, 1131], [1136, 1137, 1138, 1139, 1140], [1150, 1151, 1152, 1153, 1154], [1159, 1160, 1161, 1162, 1163, 1164], [1169, 1170, 1171, 1172, 1173, 1174, 1175], [], [821, 822, 823, 824, 825], [821, 822, 823, 824, 825], [821, 822, 823, 824, 825], [821, 822, 823, 824, 825], [821, 822, 823, 824, 825], [821, 822, 823, 824, 825], [821, 822, 823, 824, 825], [821, 822, 823, 824, 825], [821, 822, 823, 824, 825], [821, 822, 823, 824, 825], [796, 797, 798, 799, 800], [796, 797, 798, 799, 800], [796, 797, 798, 799, 800], [796, 797, 798, 799, 800], [796, 797, 798, 799, 800], [796, 797, 798, 799, 800], [796, 797, 798, 799, 800], [796, 797, 798, 799, 800], [796, 797, 798, 799, 800], [781, 782, 783], [954, 955, 956, 957, 958, 959], [954, 955, 956, 957, 958, 959], [954, 955, 956, 957, 958, 959], [954, 955, 956, 957, 958, 959], [989, 990, 991, 992, 993, 994], [989, 990, 991, 992, 993, 994], [989, 990, 991, 992, 993, 994], [1018, 1019, 1020, 1021, 1022], [1018, 1019, 1020, 1021, 1022], [1018, 1019, 1020, 1021, 1022], [1018, 1019, 1020, 1021, 1022], [767, 768, 769], [954, 955, 956, 957, 958, 959], [], [1069, 1070, 1071], [], [1088], [1088], [1109, 1110, 1111], [1109, 1110, 1111], [781, 782, 783], [767, 768, 769], [1145], [1145], [1145], [1088], [633, 634, 635, 636], [641, 642], [647, 648]]
set_option maxRecDepth 100000 in
theorem tp_e_se : ∀ i : Nat, i < 97 → ∀ j : Nat, j < tp_len.getD i 0 → tp_nl[(tp_e_se_p.getD i []).getD j 0]? = some (Cond.eq (.elem (.field (.string (tp_own.getD i "") (tp_pool.getD i 0)) "java/lang/String" "value" "[B") (.int (Int32.ofNat j))) (.int ((tp_byt.getD i []).getD j 0))) := by decide +kernel
theorem tp_e_sn : ∀ i : Nat, i < 97 → tp_len.getD i 0 < 2 ^ 31 := by decide +kernel
def tp_e_d1_p : List Nat := [100, 101, 102, 103, 104, 105, 106, 107, 108, 109, 110, 111, 112, 113, 114, 115, 116, 117, 118, 119, 120, 121, 122, 123, 124, 125, 126, 127, 128, 129, 130, 131, 132, 133, 134, 135, 136, 137, 138, 139, 140, 141, 142, 143, 144, 145, 146, 147, 148, 149, 150, 151, 152, 153, 154, 155, 156, 157, 158, 159, 160, 161, 162, 163, 164, 165, 166, 167, 168, 169, 170, 171, 172, 173, 174, 175, 176, 177, 178, 179, 180, 181, 182, 183, 184, 185, 186, 187, 188, 189, 190, 191, 192, 193, 194, 195, 196, 197, 198, 199]
set_option maxRecDepth 100000 in
theorem tp_e_d1 : ∀ i : Nat, i < 100 → tp_nl[tp_e_d1_p.getD i 0]? = some (Cond.eq (.elem (.static "java/lang/Integer" "DigitOnes" "[B") (.int (Int32.ofNat i))) (.int (tp_ones.getD i 0))) := by decide +kernel
def tp_e_d2_p : List Nat := [203, 204, 205, 206, 207, 208, 209, 210, 211, 212, 213, 214, 215, 216, 217, 218, 219, 220, 221, 222, 223, 224, 225, 226, 227, 228, 229, 230, 231, 232, 233, 234, 235, 236, 237, 238, 239, 240, 241, 242, 243, 244, 245, 246, 247, 248, 249, 250, 251, 252, 253, 254, 255, 256, 257, 258, 259, 260, 261, 262, 263, 264, 265, 266, 267, 268, 269, 270, 271, 272, 273, 274, 275, 276, 277, 278, 279, 280, 281, 282, 283, 284, 285, 286, 287, 288, 289, 290, 291, 292, 293, 294, 295, 296, 297, 298, 299, 300, 301, 302]
set_option maxRecDepth 100000 in
theorem tp_e_d2 : ∀ i : Nat, i < 100 → tp_nl[tp_e_d2_p.getD i 0]? = some (Cond.eq (.elem (.static "java/lang/Integer" "DigitTens" "[B") (.int (Int32.ofNat i))) (.int (tp_tens.getD i 0))) := by decide +kernel
theorem tp_e_aO : (.arrayOf (.static "TwoPass" "OPERATIONS" "[LTwoPass$Operation;") (.object "TwoPass$Operation") : Cond) ∈ tp_nl := List.mem_of_getElem? (i := 19) (by decide +kernel)
theorem tp_e_nO : (.eq (.length (.static "TwoPass" "OPERATIONS" "[LTwoPass$Operation;")) (.int (Int32.ofNat 47)) : Cond) ∈ tp_nl := List.mem_of_getElem? (i := 20) (by decide +kernel)
theorem tp_e_lO : (.laysStatic "TwoPass" "OPERATIONS" "[LTwoPass$Operation;" : Cond) ∈ lw_tbl := List.mem_of_getElem? (i := 419) (by decide +kernel)
theorem tp_e_aE : (.arrayOf (.static "java/util/ArrayList" "DEFAULTCAPACITY_EMPTY_ELEMENTDATA" "[Ljava/lang/Object;") (.object "java/lang/Object") : Cond) ∈ tp_nl := List.mem_of_getElem? (i := 5) (by decide +kernel)
theorem tp_e_nE : (.eq (.length (.static "java/util/ArrayList" "DEFAULTCAPACITY_EMPTY_ELEMENTDATA" "[Ljava/lang/Object;")) (.int (Int32.ofNat 0)) : Cond) ∈ tp_nl := List.mem_of_getElem? (i := 7) (by decide +kernel)
theorem tp_e_lE : (.laysStatic "java/util/ArrayList" "DEFAULTCAPACITY_EMPTY_ELEMENTDATA" "[Ljava/lang/Object;" : Cond) ∈ lw_tbl := List.mem_of_getElem? (i := 150) (by decide +kernel)
theorem tp_e_a1 : (.arrayOf (.static "java/lang/Integer" "DigitOnes" "[B") .byte : Cond) ∈ tp_nl := List.mem_of_getElem? (i := 98) (by decide +kernel)
theorem tp_e_n1 : (.eq (.length (.static "java/lang/Integer" "DigitOnes" "[B")) (.int (Int32.ofNat 100)) : Cond) ∈ tp_nl := List.mem_of_getElem? (i := 99) (by decide +kernel)
theorem tp_e_l1 : (.laysStatic "java/lang/Integer" "DigitOnes" "[B" : Cond) ∈ lw_tbl := List.mem_of_getElem? (i := 937) (by decide +kernel)
theorem tp_e_a2 : (.arrayOf (.static "java/lang/Integer" "DigitTens" "[B") .byte : Cond) ∈ tp_nl := List.mem_of_getElem? (i := 201) (by decide +kernel)
theorem tp_e_n2 : (.eq (.length (.static "java/lang/Integer" "DigitTens" "[B")) (.int (Int32.ofNat 100)) : Cond) ∈ tp_nl := List.mem_of_getElem? (i := 202) (by decide +kernel)
theorem tp_e_l2 : (.laysStatic "java/lang/Integer" "DigitTens" "[B" : Cond) ∈ lw_tbl := List.mem_of_getElem? (i := 939) (by decide +kernel)
theorem tp_e_lF : (.laysStatic "jdk/internal/util/Preconditions" "SIOOBE_FORMATTER" "Ljava/util/function/BiFunction;" : Cond) ∈ lw_tbl := List.mem_of_getElem? (i := 448) (by decide +kernel)
theorem tp_e_rF : (.isRef (.static "jdk/internal/util/Preconditions" "SIOOBE_FORMATTER" "Ljava/util/function/BiFunction;") : Cond) ∈ tp_nl := List.mem_of_getElem? (i := 69) (by decide +kernel)
theorem tp_e_lU : (.laysStatic Bundle.tN "UNASSIGNED_STACK" Bundle.steD : Cond) ∈ lw_tbl := List.mem_of_getElem? (i := 253) (by decide +kernel)
theorem tp_e_rU : (.isRef (.static Bundle.tN "UNASSIGNED_STACK" Bundle.steD) : Cond) ∈ tp_nl := List.mem_of_getElem? (i := 9) (by decide +kernel)
theorem tp_e_lS : (.laysStatic Bundle.tN "SUPPRESSED_SENTINEL" Bundle.listD : Cond) ∈ lw_tbl := List.mem_of_getElem? (i := 255) (by decide +kernel)
theorem tp_e_rS : (.isRef (.static Bundle.tN "SUPPRESSED_SENTINEL" Bundle.listD) : Cond) ∈ tp_nl := List.mem_of_getElem? (i := 10) (by decide +kernel)
theorem tp_e_lC : (.laysStatic "java/lang/String" "COMPACT_STRINGS" "Z" : Cond) ∈ lw_tbl := List.mem_of_getElem? (i := 178) (by decide +kernel)
theorem tp_e_vC : (.eq (.static "java/lang/String" "COMPACT_STRINGS" "Z") (.int 1) : Cond) ∈ tp_nl := List.mem_of_getElem? (i := 8) (by decide +kernel)
theorem tp_e_iO : (.initialized "TwoPass$Operation" : Cond) ∈ lw_tbl := List.mem_of_getElem? (i := 80) (by decide +kernel)
theorem tp_e_iT : (.initialized "TwoPass" : Cond) ∈ lw_tbl := List.mem_of_getElem? (i := 62) (by decide +kernel)
theorem tp_e_iA : (.initialized "java/util/ArrayList" : Cond) ∈ lw_tbl := List.mem_of_getElem? (i := 67) (by decide +kernel)
theorem tp_e_iI : (.initialized "java/lang/Integer" : Cond) ∈ lw_tbl := List.mem_of_getElem? (i := 93) (by decide +kernel)
theorem tp_e_iP : (.initialized "jdk/internal/util/Preconditions" : Cond) ∈ lw_tbl := List.mem_of_getElem? (i := 82) (by decide +kernel)
theorem tp_e_iH : (.initialized "java/lang/Throwable" : Cond) ∈ lw_tbl := List.mem_of_getElem? (i := 73) (by decide +kernel)
theorem tp_e_iS : (.initialized "java/lang/String" : Cond) ∈ lw_tbl := List.mem_of_getElem? (i := 70) (by decide +kernel)
theorem tp_e_R0 : (.stringRef "TwoPass$Typed" 135 "zero" : Cond) ∈ lw_tbl := List.mem_of_getElem? (i := 483) (by decide +kernel)
theorem tp_e_R1 : (.stringRef "TwoPass$Typed" 137 "ra" : Cond) ∈ lw_tbl := List.mem_of_getElem? (i := 484) (by decide +kernel)
theorem tp_e_R2 : (.stringRef "TwoPass$Typed" 139 "sp" : Cond) ∈ lw_tbl := List.mem_of_getElem? (i := 485) (by decide +kernel)
theorem tp_e_oS : (.arrayOver (.object "TwoPass$Source") : Cond) ∈ lw_tbl := List.mem_of_getElem? (i := 131) (by decide +kernel)
theorem tp_e_oO : (.arrayOver (.object "java/lang/Object") : Cond) ∈ lw_tbl := List.mem_of_getElem? (i := 603) (by decide +kernel)
theorem tp_e_x0 : (.not (.castable "java/lang/IllegalStateException" "java/lang/IllegalArgumentException") : Cond) ∈ tp_nl := List.mem_of_getElem? (i := 561) (by decide +kernel)
theorem tp_e_x1 : (.not (.castable "java/lang/IllegalStateException" "java/util/NoSuchElementException") : Cond) ∈ tp_nl := List.mem_of_getElem? (i := 592) (by decide +kernel)
theorem tp_e_x2 : (.not (.castable "java/lang/UnsupportedOperationException" "java/util/NoSuchElementException") : Cond) ∈ tp_nl := List.mem_of_getElem? (i := 595) (by decide +kernel)
theorem tp_e_x3 : (.not (.castable "java/lang/UnsupportedOperationException" "java/lang/IllegalStateException") : Cond) ∈ tp_nl := List.mem_of_getElem? (i := 580) (by decide +kernel)
theorem tp_e_x4 : (.not (.castable "java/lang/IndexOutOfBoundsException" "java/lang/IllegalStateException") : Cond) ∈ tp_nl := List.mem_of_getElem? (i := 581) (by decide +kernel)
theorem tp_e_mi : (.isRef (.mirror "[Ljava/lang/Object;") : Cond) ∈ tp_nl := List.mem_of_getElem? (i := 628) (by decide +kernel)
theorem tp_htg {args : Array Value} {s : State} (hts : ∀ w ∈ lw_tbl, w.before args s = true) : ∀ w ∈ tp_G, w.before args s = true := by
  intro w hw
  rcases List.mem_append.mp (List.mem_filter.mp hw).1 with h | h
  · have hx := hts (.selects "java/lang/StringBuilder" ⟨"java/lang/AbstractStringBuilder", "isLatin1", "()Z"⟩ ⟨"java/lang/AbstractStringBuilder", "isLatin1", "()Z"⟩) (List.mem_of_getElem? (i := 871) (by decide +kernel))
    simp only [tp_xs, List.mem_cons, List.not_mem_nil, or_false] at h
    rcases h with rfl | rfl | rfl | rfl
    · exact tp_selP hx rfl ⟨by decide, by decide⟩ (hts _ (List.mem_of_getElem? (i := 849) (by decide +kernel))) (hts _ (List.mem_of_getElem? (i := 850) (by decide +kernel)))
    · exact tp_selP hx rfl ⟨by decide, by decide⟩ (hts _ (List.mem_of_getElem? (i := 853) (by decide +kernel))) (hts _ (List.mem_of_getElem? (i := 854) (by decide +kernel)))
    · exact tp_selP hx rfl ⟨by decide, by decide⟩ (hts _ (List.mem_of_getElem? (i := 894) (by decide +kernel))) (hts _ (List.mem_of_getElem? (i := 895) (by decide +kernel)))
    · exact tp_selP hx rfl ⟨by decide, by decide⟩ (hts _ (List.mem_of_getElem? (i := 890) (by decide +kernel))) (hts _ (List.mem_of_getElem? (i := 891) (by decide +kernel)))
  · exact hts w h
theorem tp_arr {args : Array Value} {s : State} {ty : FieldType} (h : (Cond.arrayClass ty).before args s = true) : ∃ c : ClassId, ArrOfT s c ty ∧ s.vm.findClass ("[" ++ ty.toString) = some c := by
  obtain ⟨c, k, comp, h1, h2, h3⟩ := Cond.arrayClass_spec (args := args) (first := s) (o := none) (s := s) (idx := []) h
  exact ⟨c, fun n z => ⟨fun k h => (by cases h), k, h2, comp, h3⟩, h1⟩
theorem tp_arrO {args : Array Value} {s : State} {C : String} (h : (Cond.arrayOver (.object C)).before args s = true) : ∃ c : ClassId, ArrOfT s c (.object C) ∧ va_RA s c (.object C) := by
  obtain ⟨comp, c, k, h1, -, h2, h3, h4⟩ := Cond.arrayOver_spec (args := args) (first := s) (o := none) (s := s) (idx := []) h
  exact ⟨c, fun n z => ⟨fun k h => (by cases h), k, h2, comp, h3⟩, k, comp, h2, h3, h1, h4⟩
section TPE
variable {args : Array Value} {s : State} {A : Nat → Prop}
theorem tp_e_ops (hts : ∀ w ∈ lw_tbl, w.before args s = true) (hn : ∀ w ∈ tp_nl, w.before args s = true) (hA : ∀ a : Nat, a < s.heap.size → ¬ A a) : ∃ ad : Nat → Nat, va_En "TwoPass$Operation" "LTwoPass$Operation;" tp_opn tp_opF ad A s s.heap ∧ ∀ i : Nat, i < 47 → (Term.static "TwoPass$Operation" (tp_opn.getD i "") "LTwoPass$Operation;").eval args s none [] s = some (.ref (ad i)) := by
  have h0 : ∀ i : Nat, ∃ t : Nat, i < 47 → (Term.static "TwoPass$Operation" (tp_opn.getD i "") "LTwoPass$Operation;").eval args s none [] s = some (.ref t) ∧ va_O "TwoPass$Operation" t A s s.heap := by
    intro i
    by_cases hi : i < 47
    · have hex := hn _ (List.mem_of_getElem? (tp_e_ex i hi))
      obtain ⟨a, c, cell, k, q1, -⟩ := Cond.exactly_spec (args := args) (first := s) (o := none) (s := s) (idx := []) hex
      exact ⟨a, fun _ => ⟨q1, va_Oof hex q1 hA⟩⟩
    · exact ⟨0, fun h => absurd h hi⟩
  obtain ⟨ad, had⟩ := Classical.axiomOfChoice h0
  refine ⟨ad, ⟨fun i hi => ?_, fun i j hi hj e => ?_⟩, fun i hi => (had i hi).1⟩
  · have hi : i < 47 := hi
    refine ⟨va_Zref (hts _ (List.mem_of_getElem? (tp_e_ls i hi))) (hts _ tp_e_iO) (had i hi).1 hA, (had i hi).2, fun q hq => ?_⟩
    rcases List.mem_cons.mp hq with rfl | hq
    · exact vk_OFof (had i hi).1 (va_eqt (hn _ (List.mem_of_getElem? (tp_e_la i hi)))) hA
    · rcases List.mem_cons.mp hq with rfl | hq
      · exact vk_OFof (had i hi).1 (va_eqt (hn _ (List.mem_of_getElem? (tp_e_co i hi)))) hA
      · exact absurd hq List.not_mem_nil
  · have hi : i < 47 := hi
    have hj : j < 47 := hj
    have e1 := va_eqt (hn _ (List.mem_of_getElem? (tp_e_or i hi)))
    have e2 := va_eqt (hn _ (List.mem_of_getElem? (tp_e_or j hj)))
    rw [va_fe (had i hi).1] at e1
    rw [va_fe (had j hj).1, ← e, e1] at e2
    have e3 : Int32.ofNat i = Int32.ofNat j := Value.int.inj (Option.some.inj e2)
    have e4 := congrArg Int32.toInt e3
    rw [tp_ofn (by omega), tp_ofn (by omega)] at e4
    omega
theorem tp_e_str (hn : ∀ w ∈ tp_nl, w.before args s = true) (hA : ∀ a : Nat, a < s.heap.size → ¬ A a) : ∃ ad : Nat → Nat × Nat, ∀ i : Nat, i < 97 → (Term.string (tp_own.getD i "") (tp_pool.getD i 0)).eval args s none [] s = some (.ref (ad i).1) ∧ va_O "java/lang/String" (ad i).1 A s s.heap ∧ va_OF "java/lang/String" "coder" "B" (.int 0) (ad i).1 A s s.heap ∧ va_OF "java/lang/String" "value" "[B" (.ref (ad i).2) (ad i).1 A s s.heap ∧ va_T .byte (ad i).2 (tp_len.getD i 0) (fun j => .int ((tp_byt.getD i []).getD j 0)) A s s.heap := by
  refine Classical.axiomOfChoice (r := fun (i : Nat) (q : Nat × Nat) => i < 97 → (Term.string (tp_own.getD i "") (tp_pool.getD i 0)).eval args s none [] s = some (.ref q.1) ∧ va_O "java/lang/String" q.1 A s s.heap ∧ va_OF "java/lang/String" "coder" "B" (.int 0) q.1 A s s.heap ∧ va_OF "java/lang/String" "value" "[B" (.ref q.2) q.1 A s s.heap ∧ va_T .byte q.2 (tp_len.getD i 0) (fun j => .int ((tp_byt.getD i []).getD j 0)) A s s.heap) ?_
  intro i
  by_cases hi : i < 97
  · have hex := hn _ (List.mem_of_getElem? (tp_e_sx i hi))
    obtain ⟨a, c, cell, k, q1, -⟩ := Cond.exactly_spec (args := args) (first := s) (o := none) (s := s) (idx := []) hex
    obtain ⟨t, ht, hT⟩ := va_Tof (f := fun j => .int ((tp_byt.getD i []).getD j 0)) (A := A) (tp_e_sn i hi) (hn _ (List.mem_of_getElem? (tp_e_sa i hi))) (va_eqt (hn _ (List.mem_of_getElem? (tp_e_sl i hi)))) (fun j hj => va_eqt (hn _ (List.mem_of_getElem? (tp_e_se i hi j hj)))) hA
    exact ⟨(a, t), fun _ => ⟨q1, va_Oof hex q1 hA, vk_OFof q1 (va_eqt (hn _ (List.mem_of_getElem? (tp_e_sc i hi)))) hA, vk_OFof q1 ht hA, hT⟩⟩
  · exact ⟨(0, 0), fun h => absurd h hi⟩
def tp_mkad (o : Nat → Nat) (st : Nat → Nat × Nat) (e q d1 d2 mi : Nat) : Nat → Nat := fun k => if k < 47 then o k else if k = 100 then e else if k = 101 then q else if k = 102 then d1 else if k = 103 then d2 else if k = 105 then mi else if k < 400 then (st (k - 200)).1 else (st (k - 400)).2
theorem tp_mkK {o : Nat → Nat} {st : Nat → Nat × Nat} {e q d1 d2 mi i : Nat} (h : i < 97) : tp_mkad o st e q d1 d2 mi (200 + i) = (st i).1 := by
  unfold tp_mkad
  rw [if_neg (by omega), if_neg (by omega), if_neg (by omega), if_neg (by omega), if_neg (by omega), if_neg (by omega), if_pos (by omega), Nat.add_sub_cancel_left]
theorem tp_mkV {o : Nat → Nat} {st : Nat → Nat × Nat} {e q d1 d2 mi i : Nat} (h : i < 97) : tp_mkad o st e q d1 d2 mi (400 + i) = (st i).2 := by
  unfold tp_mkad
  rw [if_neg (by omega), if_neg (by omega), if_neg (by omega), if_neg (by omega), if_neg (by omega), if_neg (by omega), if_neg (by omega), Nat.add_sub_cancel_left]
/-- the constants, at any environment with these addresses -/
theorem tp_e_C (hts : ∀ w ∈ lw_tbl, w.before args s = true) (hn : ∀ w ∈ tp_nl, w.before args s = true) (hA : ∀ a : Nat, a < s.heap.size → ¬ A a) : ∃ ad : Nat → Nat, ∀ E : tp_Env, tp_ad E = ad → tp_C E A s s.heap ∧ tp_R E s := by
  obtain ⟨o, ho, heo⟩ := tp_e_ops (A := A) hts hn hA
  obtain ⟨st, hst⟩ := tp_e_str (A := A) hn hA
  obtain ⟨e, hee, hTe⟩ := va_Tof (f := fun _ => .null) (A := A) (N := 0) (by decide) (hn _ tp_e_aE) (va_eqt (hn _ tp_e_nE)) (fun j hj => absurd hj (Nat.not_lt_zero j)) hA
  obtain ⟨q, heq, -⟩ := va_Tof (f := fun j => .ref (o j)) (A := A) (N := 47) (by decide) (hn _ tp_e_aO) (va_eqt (hn _ tp_e_nO)) (fun j hj => va_eqv (hn _ (List.mem_of_getElem? (tp_e_el j hj))) (heo j hj)) hA
  obtain ⟨d1, he1, hT1⟩ := va_Tof (f := fun j => .int (tp_ones.getD j 0)) (A := A) (N := 100) (by decide) (hn _ tp_e_a1) (va_eqt (hn _ tp_e_n1)) (fun j hj => va_eqt (hn _ (List.mem_of_getElem? (tp_e_d1 j hj)))) hA
  obtain ⟨d2, he2, hT2⟩ := va_Tof (f := fun j => .int (tp_tens.getD j 0)) (A := A) (N := 100) (by decide) (hn _ tp_e_a2) (va_eqt (hn _ tp_e_n2)) (fun j hj => va_eqt (hn _ (List.mem_of_getElem? (tp_e_d2 j hj)))) hA
  obtain ⟨mi, hmi⟩ := va_Mi.of (hn _ tp_e_mi)
  refine ⟨tp_mkad o st e q d1 d2 mi, fun E hE => ?_⟩
  have gO : ∀ i : Nat, i < 47 → tp_ad E i = o i := fun i hi => by rw [hE]; exact if_pos hi
  have gK : ∀ i : Nat, i < 97 → tp_ad E (200 + i) = (st i).1 := fun i hi => by rw [hE]; exact tp_mkK hi
  have gV : ∀ i : Nat, i < 97 → tp_ad E (400 + i) = (st i).2 := fun i hi => by rw [hE]; exact tp_mkV hi
  have g100 : tp_ad E 100 = e := by rw [hE]; rfl
  have g101 : tp_ad E 101 = q := by rw [hE]; rfl
  have g102 : tp_ad E 102 = d1 := by rw [hE]; rfl
  have g103 : tp_ad E 103 = d2 := by rw [hE]; rfl
  have g105 : tp_ad E 105 = mi := by rw [hE]; rfl
  have hQ : va_T (.object "TwoPass$Operation") q 47 (fun j => .ref (tp_ad E j)) A s s.heap := by
    obtain ⟨q', heq', hT'⟩ := va_Tof (f := fun j => .ref (tp_ad E j)) (A := A) (N := 47) (by decide) (hn _ tp_e_aO) (va_eqt (hn _ tp_e_nO)) (fun j hj => by rw [gO j hj]; exact va_eqv (hn _ (List.mem_of_getElem? (tp_e_el j hj))) (heo j hj)) hA
    cases heq.symm.trans heq'
    exact hT'
  refine ⟨⟨va_Zof (hts _ tp_e_lC) (hts _ tp_e_iS) (va_eqt (hn _ tp_e_vC)) hA, by rw [g100]; exact va_Zref (hts _ tp_e_lE) (hts _ tp_e_iA) hee hA, by rw [g100]; exact hTe, ⟨⟨fun i hi => ?_, fun i j hi hj e => ?_⟩, fun i hi => ?_, fun i hi => ?_, by rw [g101]; exact va_Zref (hts _ tp_e_lO) (hts _ tp_e_iT) heq hA, by rw [g101]; exact hQ⟩, fun i hi => ?_, by rw [g102]; exact va_Zref (hts _ tp_e_l1) (hts _ tp_e_iI) he1 hA, by rw [g102]; exact hT1, by rw [g103]; exact va_Zref (hts _ tp_e_l2) (hts _ tp_e_iI) he2 hA, by rw [g103]; exact hT2, va_Zqof (hts _ tp_e_lF) (hts _ tp_e_iP) (hn _ tp_e_rF) hA⟩, by rw [tp_R, gK 94 (by decide), gK 95 (by decide), gK 96 (by decide), g105]; exact ⟨vk_R.of (hts _ tp_e_R0) (hst 94 (by decide)).1, vk_R.of (hts _ tp_e_R1) (hst 95 (by decide)).1, vk_R.of (hts _ tp_e_R2) (hst 96 (by decide)).1, hmi, va_Nc.of (hn _ tp_e_x0), va_Nc.of (hn _ tp_e_x1), va_Nc.of (hn _ tp_e_x2), va_Nc.of (hn _ tp_e_x3), va_Nc.of (hn _ tp_e_x4)⟩⟩
  · rw [gO i hi]
    exact ho.1 i hi
  · rw [gO i hi, gO j hj] at e
    exact ho.2 i j hi hj e
  · show va_OF "TwoPass$Operation" "text" "Ljava/lang/String;" (.ref (tp_ad E (200 + i))) (tp_ad E i) A s s.heap
    rw [gO i hi, gK i (by omega)]
    exact vk_OFof (heo i hi) (va_eqv (hn _ (List.mem_of_getElem? (tp_e_tx i hi))) (by have h := (hst i (by omega)).1; rwa [tp_ownO i (by omega)] at h)) hA
  · show va_OF "TwoPass$Operation" "operands" "Ljava/lang/String;" (.ref (tp_ad E (200 + (47 + i)))) (tp_ad E i) A s s.heap
    rw [gO i hi, gK (47 + i) (by omega)]
    exact vk_OFof (heo i hi) (va_eqv (hn _ (List.mem_of_getElem? (tp_e_op i hi))) (by have h := (hst (47 + i) (by omega)).1; rwa [tp_ownO (47 + i) (by omega)] at h)) hA
  · rw [gK i hi, gV i hi]
    exact (hst i hi).2
end TPE
