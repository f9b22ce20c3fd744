def sm_ca3 : List (Nat × Nat × Nat × Nat × Nat) := [(77, 1, 104, 1, 3), (71, 1, 105, 3, 3), (81, 0, 106, 1, 3), (85, 0, 107, 2, 3), (89, 0, 109, 2, 3), (93, 0, 110, 1, 3), (96, 0, 114, 3, 3), (100, 1, 117, 1, 3), (144, 0, 120, 1, 3), (134, 0, 121, 0, 3), (119, 0, 122, 0, 3), (112, 0, 123, 0, 3), (138, 0, 124, 0, 3), (116, 0, 125, 2, 3), (128, 0, 126, 2, 3), (141, 0, 127, 0, 3), (131, 1, 128, 1, 3), (177, 0, 131, 1, 3), (180, 0, 132, 2, 3), (174, 0, 133, 1, 3), (168, 0, 134, 2, 3), (161, 1, 135, 2, 3), (165, 0, 136, 3, 3), (153, 0, 137, 3, 3), (157, 1, 138, 4, 3), (183, 0, 140, 1, 3), (188, 0, 141, 2, 3), (171, 0, 142, 1, 3), (191, 0, 144, 2, 3), (194, 0, 145, 1, 3), (197, 0, 146, 0, 3), (200, 0, 147, 0, 3), (203, 0, 149, 0, 3), (206, 0, 150, 2, 3), (213, 0, 156, 2, 3), (222, 0, 160, 0, 3), (225, 0, 161, 1, 3), (229, 0, 163, 1, 3), (232, 0, 166, 4, 3), (236, 0, 168, 1, 3), (241, 0, 170, 1, 3), (244, 0, 171, 2, 3), (247, 0, 173, 2, 3), (250, 0, 175, 2, 3), (256, 0, 177, 1, 3), (259, 0, 178, 1, 3), (266, 0, 181, 3, 3), (269, 0, 182, 1, 3), (272, 1, 183, 3, 3), (277, 0, 185, 2, 3), (281, 0, 186, 2, 3), (295, 0, 189, 1, 3), (307, 0, 194, 1, 3), (299, 0, 195, 1, 3), (302, 0, 196, 1, 3)]
def sm_cp3 : List Nat := [747, 751, 754, 758, 766, 770, 786, 798, 810, 814, 818, 822, 826, 830, 834, 838, 842, 853, 857, 861, 865, 869, 872, 876, 880, 887, 892, 896, 904, 908, 912, 916, 924, 928, 954, 973, 977, 985, 997, 1005, 1013, 1018, 1026, 1034, 1043, 1048, 1060, 1064, 1069, 1077, 1081, 1096, 1119, 1123, 1127]
def sm_fl4 : List (Nat × Nat × Nat × Nat) := []
def sm_fp4 : List Nat := []
def sm_ci4 : List (Nat × Int32) := []
def sm_cj4 : List (Nat × Int64) := []
def sm_st4 : List (Nat × Unit) := []
def sm_na4 : List (Nat × Nat) := []
def sm_ca4 : List (Nat × Nat × Nat × Nat × Nat) := [(13, 0, 0, 2, 2), (18, 0, 3, 3, 2), (23, 0, 6, 2, 2), (27, 0, 7, 1, 2), (32, 0, 8, 5, 2), (37, 0, 10, 1, 2), (41, 0, 11, 2, 2), (45, 0, 13, 3, 2), (49, 0, 14, 1, 2), (53, 0, 21, 1, 2), (57, 0, 24, 2, 2), (61, 0, 32, 2, 2), (65, 0, 36, 2, 2), (69, 0, 42, 0, 2), (74, 0, 47, 2, 2), (78, 0, 48, 1, 2), (82, 0, 49, 1, 2), (86, 0, 50, 1, 2), (90, 0, 52, 1, 2), (94, 0, 55, 1, 2), (98, 0, 56, 4, 2), (103, 0, 57, 2, 2), (107, 0, 60, 1, 2), (111, 0, 62, 1, 2), (115, 0, 63, 2, 2), (119, 0, 65, 1, 2), (123, 0, 67, 2, 2), (127, 0, 70, 2, 2), (131, 0, 72, 2, 2), (135, 0, 76, 1, 2), (139, 0, 80, 1, 2), (143, 0, 81, 3, 2), (147, 0, 83, 2, 2), (151, 0, 87, 1, 2), (155, 0, 88, 2, 2), (159, 0, 90, 0, 2), (163, 0, 91, 0, 2), (168, 0, 92, 0, 2), (172, 0, 93, 1, 2), (176, 0, 98, 0, 2), (180, 0, 99, 1, 2), (184, 0, 100, 0, 2), (17, 0, 103, 2, 3), (22, 0, 108, 3, 3), (26, 0, 111, 2, 3), (31, 0, 112, 1, 3), (36, 0, 113, 5, 3), (40, 0, 115, 1, 3), (44, 0, 116, 2, 3), (48, 0, 118, 3, 3), (52, 0, 119, 1, 3), (56, 0, 129, 1, 3), (60, 0, 130, 2, 3), (64, 0, 139, 2, 3), (68, 0, 143, 2, 3), (73, 0, 148, 0, 3), (77, 0, 151, 2, 3), (81, 0, 152, 1, 3), (85, 0, 153, 1, 3), (89, 0, 154, 1, 3), (93, 0, 155, 1, 3), (97, 0, 157, 1, 3), (102, 0, 158, 4, 3), (106, 0, 159, 2, 3), (110, 0, 162, 1, 3), (114, 0, 164, 1, 3), (118, 0, 165, 2, 3), (122, 0, 167, 1, 3), (126, 0, 169, 2, 3), (130, 0, 172, 2, 3), (134, 0, 174, 2, 3), (138, 0, 176, 1, 3), (142, 0, 179, 1, 3), (146, 0, 180, 3, 3), (150, 0, 184, 2, 3), (154, 0, 187, 1, 3), (158, 0, 188, 2, 3), (162, 0, 190, 0, 3), (167, 0, 191, 0, 3), (171, 0, 192, 0, 3), (175, 0, 193, 1, 3), (179, 0, 197, 0, 3), (183, 0, 198, 1, 3), (187, 0, 199, 0, 3)]
def sm_cp4 : List Nat := [229, 240, 252, 256, 260, 270, 274, 281, 285, 312, 324, 358, 374, 398, 424, 428, 432, 436, 444, 455, 459, 464, 476, 484, 489, 497, 505, 517, 525, 542, 557, 561, 569, 586, 590, 601, 605, 609, 613, 633, 637, 641, 743, 762, 774, 778, 782, 790, 794, 802, 806, 845, 849, 883, 900, 920, 932, 937, 941, 945, 949, 958, 962, 968, 981, 989, 993, 1001, 1009, 1022, 1030, 1039, 1052, 1056, 1072, 1085, 1089, 1102, 1106, 1110, 1114, 1131, 1135, 1139]
def sm_fl (o : Nat) : List (Nat × Nat × Nat × Nat) := match o with
  | 0 => sm_fl0
  | 1 => sm_fl1
  | 2 => sm_fl2
  | 3 => sm_fl3
  | _ => sm_fl4
def sm_fp (o : Nat) : List Nat := match o with
  | 0 => sm_fp0
  | 1 => sm_fp1
  | 2 => sm_fp2
  | 3 => sm_fp3
  | _ => sm_fp4
def sm_ci (o : Nat) : List (Nat × Int32) := match o with
  | 0 => sm_ci0
  | 1 => sm_ci1
  | 2 => sm_ci2
  | 3 => sm_ci3
  | _ => sm_ci4
def sm_cj (o : Nat) : List (Nat × Int64) := match o with
  | 0 => sm_cj0
  | 1 => sm_cj1
  | 2 => sm_cj2
  | 3 => sm_cj3
  | _ => sm_cj4
def sm_st (o : Nat) : List (Nat × Unit) := match o with
  | 0 => sm_st0
  | 1 => sm_st1
  | 2 => sm_st2
  | 3 => sm_st3
  | _ => sm_st4
def sm_na (o : Nat) : List (Nat × Nat) := match o with
  | 0 => sm_na0
  | 1 => sm_na1
  | 2 => sm_na2
  | 3 => sm_na3
  | _ => sm_na4
def sm_ca (o : Nat) : List (Nat × Nat × Nat × Nat × Nat) := match o with
  | 0 => sm_ca0
  | 1 => sm_ca1
  | 2 => sm_ca2
  | 3 => sm_ca3
  | _ => sm_ca4
def sm_cp (o : Nat) : List Nat := match o with
  | 0 => sm_cp0
  | 1 => sm_cp1
  | 2 => sm_cp2
  | 3 => sm_cp3
  | _ => sm_cp4
/-- a method: name, code, locals, what it returns, class, static?, where its words are -/
abbrev sm_MT : Type := MethodName × ByteArray × Nat × Option FieldType × Nat × Bool × Nat × Nat × Nat
def sm_md0 : List sm_MT := [
  (⟨"MiceRegisters", "row", "(II)I"⟩, prog_1_method_2_code, 4, some .int, 2, false, 232, 230, 231),
  (⟨"MiceRegisters", "isNoRow", "(I)Z"⟩, prog_1_method_48_code, 1, some .boolean, 2, true, 235, 234, 0),
  (⟨"MiceRegisters", "refuseBy", "(I)I"⟩, prog_1_method_47_code, 2, some .int, 2, false, 239, 238, 0),
  (⟨"MiceRegisters", "lay", "(III)I"⟩, prog_1_method_3_code, 6, some .int, 2, false, 243, 241, 242),
  (⟨"MiceRegisters", "refusalOfPlace", "(II)I"⟩, prog_1_method_54_code, 3, some .int, 2, false, 247, 246, 1),
  (⟨"MiceRegisters", "tell", "(I)I"⟩, prog_1_method_44_code, 2, some .int, 2, false, 251, 250, 2),
  (⟨"MiceRegisters", "at", "(II)I"⟩, prog_1_method_4_code, 4, some .int, 2, false, 255, 253, 254),
  (⟨"MiceRegisters", "tear", "(I)I"⟩, prog_1_method_5_code, 2, some .int, 2, false, 259, 257, 258),
  (⟨"MiceRegisters", "copy", "(IIIII)I"⟩, prog_1_method_6_code, 6, some .int, 2, false, 263, 261, 262),
  (⟨"MiceRegisters", "isBeyond", "(III)Z"⟩, prog_1_method_53_code, 3, some .boolean, 2, true, 266, 265, 0),
  (⟨"MiceRegisters", "mean", "(I)I"⟩, prog_1_method_7_code, 6, some .int, 2, false, 273, 271, 272),
  (⟨"MiceRegisters", "text", "(II)I"⟩, prog_1_method_8_code, 4, some .int, 2, false, 277, 275, 276),
  (⟨"MiceRegisters", "isNoText", "(I)Z"⟩, prog_1_method_49_code, 1, some .boolean, 2, true, 280, 279, 0),
  (⟨"MiceRegisters", "put", "(III)I"⟩, prog_1_method_9_code, 5, some .int, 2, false, 284, 282, 283),
  (⟨"MiceRegisters", "fault", "(I)I"⟩, prog_1_method_10_code, 2, some .int, 2, false, 288, 286, 287),
  (⟨"MiceRegisters", "readAside", "(I)I"⟩, prog_1_method_63_code, 7, some .int, 2, false, 292, 291, 3),
  (⟨"MiceRegisters", "behindBlanks", "([BI)I"⟩, prog_1_method_64_code, 3, some .int, 2, true, 295, 294, 0),
  (⟨"MiceRegisters", "readLine", "([BII)I"⟩, prog_1_method_65_code, 6, some .int, 2, false, 299, 298, 4),
  (⟨"MiceRegisters", "faultOfFigure", "([BIIII)I"⟩, prog_1_method_67_code, 6, some .int, 2, true, 302, 301, 0),
  (⟨"MiceRegisters", "readMouse", "([BII)I"⟩, prog_1_method_66_code, 6, some .int, 2, false, 306, 305, 5),
  (⟨"MiceRegisters", "kindOfLetter", "(I)I"⟩, prog_1_method_68_code, 2, some .int, 2, true, 309, 308, 0),
  (⟨"MiceRegisters", "register", "(I)I"⟩, prog_1_method_11_code, 3, some .int, 2, false, 315, 313, 314),
  (⟨"MiceRegisters$Register", "beginAnew", "()V"⟩, prog_3_method_2_code, 2, none, 1, false, 319, 317, 318),
  (⟨"MiceRegisters$Register", "takeFrom", "(LMiceRegisters$Register;)V"⟩, prog_3_method_3_code, 3, none, 1, false, 323, 321, 322),
  (⟨"MiceRegisters", "line", "(II)I"⟩, prog_1_method_12_code, 3, some .int, 2, false, 327, 325, 326)]
