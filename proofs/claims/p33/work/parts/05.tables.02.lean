def sm_fl (o : Nat) : List (Nat × Nat × Nat × Nat) := match o with
  | 0 => sm_fl0
  | 1 => sm_fl1
  | 2 => sm_fl2
  | 3 => sm_fl3
  | _ => sm_fl4
def sm_fp (o : Nat) : List Nat := match o with
  | 0 => sm_fp0
  | 1 => sm_fp1
  | 2 => sm_fp2
  | 3 => sm_fp3
  | _ => sm_fp4
def sm_ci (o : Nat) : List (Nat × Int32) := match o with
  | 0 => sm_ci0
  | 1 => sm_ci1
  | 2 => sm_ci2
  | 3 => sm_ci3
  | _ => sm_ci4
def sm_cj (o : Nat) : List (Nat × Int64) := match o with
  | 0 => sm_cj0
  | 1 => sm_cj1
  | 2 => sm_cj2
  | 3 => sm_cj3
  | _ => sm_cj4
def sm_st (o : Nat) : List (Nat × Unit) := match o with
  | 0 => sm_st0
  | 1 => sm_st1
  | 2 => sm_st2
  | 3 => sm_st3
  | _ => sm_st4
def sm_na (o : Nat) : List (Nat × Nat) := match o with
  | 0 => sm_na0
  | 1 => sm_na1
  | 2 => sm_na2
  | 3 => sm_na3
  | _ => sm_na4
def sm_ca (o : Nat) : List (Nat × Nat × Nat × Nat × Nat) := match o with
  | 0 => sm_ca0
  | 1 => sm_ca1
  | 2 => sm_ca2
  | 3 => sm_ca3
  | _ => sm_ca4
def sm_cp (o : Nat) : List Nat := match o with
  | 0 => sm_cp0
  | 1 => sm_cp1
  | 2 => sm_cp2
  | 3 => sm_cp3
  | _ => sm_cp4
/-- a method: name, code, locals, what it returns, class, static?, where its words are -/
abbrev sm_MT : Type := MethodName × ByteArray × Nat × Option FieldType × Nat × Bool × Nat × Nat × Nat
def sm_md0 : List sm_MT := [
  (⟨"MiceRegisters", "row", "(II)I"⟩, prog_1_method_2_code, 4, some .int, 2, false, 232, 230, 231),
  (⟨"MiceRegisters", "isNoRow", "(I)Z"⟩, prog_1_method_48_code, 1, some .boolean, 2, true, 235, 234, 0),
  (⟨"MiceRegisters", "refuseBy", "(I)I"⟩, prog_1_method_47_code, 2, some .int, 2, false, 239, 238, 0),
  (⟨"MiceRegisters", "lay", "(III)I"⟩, prog_1_method_3_code, 6, some .int, 2, false, 243, 241, 242),
  (⟨"MiceRegisters", "refusalOfPlace", "(II)I"⟩, prog_1_method_54_code, 3, some .int, 2, false, 247, 246, 1),
  (⟨"MiceRegisters", "tell", "(I)I"⟩, prog_1_method_44_code, 2, some .int, 2, false, 251, 250, 2),
  (⟨"MiceRegisters", "at", "(II)I"⟩, prog_1_method_4_code, 4, some .int, 2, false, 255, 253, 254),
  (⟨"MiceRegisters", "tear", "(I)I"⟩, prog_1_method_5_code, 2, some .int, 2, false, 259, 257, 258),
  (⟨"MiceRegisters", "copy", "(IIIII)I"⟩, prog_1_method_6_code, 6, some .int, 2, false, 263, 261, 262),
  (⟨"MiceRegisters", "isBeyond", "(III)Z"⟩, prog_1_method_53_code, 3, some .boolean, 2, true, 266, 265, 0),
  (⟨"MiceRegisters", "mean", "(I)I"⟩, prog_1_method_7_code, 6, some .int, 2, false, 273, 271, 272),
  (⟨"MiceRegisters", "text", "(II)I"⟩, prog_1_method_8_code, 4, some .int, 2, false, 277, 275, 276),
  (⟨"MiceRegisters", "isNoText", "(I)Z"⟩, prog_1_method_49_code, 1, some .boolean, 2, true, 280, 279, 0),
  (⟨"MiceRegisters", "put", "(III)I"⟩, prog_1_method_9_code, 5, some .int, 2, false, 284, 282, 283),
  (⟨"MiceRegisters", "fault", "(I)I"⟩, prog_1_method_10_code, 2, some .int, 2, false, 288, 286, 287),
  (⟨"MiceRegisters", "readAside", "(I)I"⟩, prog_1_method_63_code, 7, some .int, 2, false, 292, 291, 3),
  (⟨"MiceRegisters", "behindBlanks", "([BI)I"⟩, prog_1_method_64_code, 3, some .int, 2, true, 295, 294, 0),
  (⟨"MiceRegisters", "readLine", "([BII)I"⟩, prog_1_method_65_code, 6, some .int, 2, false, 299, 298, 4),
  (⟨"MiceRegisters", "faultOfFigure", "([BIIII)I"⟩, prog_1_method_67_code, 6, some .int, 2, true, 302, 301, 0),
  (⟨"MiceRegisters", "readMouse", "([BII)I"⟩, prog_1_method_66_code, 6, some .int, 2, false, 306, 305, 5),
  (⟨"MiceRegisters", "kindOfLetter", "(I)I"⟩, prog_1_method_68_code, 2, some .int, 2, true, 309, 308, 0),
  (⟨"MiceRegisters", "register", "(I)I"⟩, prog_1_method_11_code, 3, some .int, 2, false, 315, 313, 314),
  (⟨"MiceRegisters$Register", "beginAnew", "()V"⟩, prog_3_method_2_code, 2, none, 1, false, 319, 317, 318),
  (⟨"MiceRegisters$Register", "takeFrom", "(LMiceRegisters$Register;)V"⟩, prog_3_method_3_code, 3, none, 1, false, 323, 321, 322),
  (⟨"MiceRegisters", "line", "(II)I"⟩, prog_1_method_12_code, 3, some .int, 2, false, 327, 325, 326)]
def sm_md1 : List sm_MT := [
  (⟨"MiceRegisters", "isNoLine", "(I)Z"⟩, prog_1_method_51_code, 2, some .boolean, 2, false, 331, 330, 6),
  (⟨"MiceRegisters", "ofLine", "(II)I"⟩, prog_1_method_56_code, 3, some .int, 2, false, 335, 334, 7),
  (⟨"MiceRegisters$Register", "miceThatWant", "(I)I"⟩, prog_3_method_10_code, 4, some .int, 1, false, 339, 337, 338),
  (⟨"MiceRegisters$Register", "lineWantedBy", "(I)I"⟩, prog_3_method_7_code, 8, some .int, 1, false, 343, 341, 342),
  (⟨"MiceRegisters$Register", "isOpen", "(I)Z"⟩, prog_3_method_8_code, 2, some .boolean, 1, false, 347, 346, 8),
  (⟨"MiceRegisters$Register", "distance", "(II)I"⟩, prog_3_method_9_code, 3, some .int, 1, false, 351, 350, 9),
  (⟨"MiceRegisters", "liking", "(IIII)I"⟩, prog_1_method_70_code, 4, some .int, 2, true, 357, 356, 0),
  (⟨"MiceRegisters", "mouse", "(II)I"⟩, prog_1_method_13_code, 3, some .int, 2, false, 361, 359, 360),
  (⟨"MiceRegisters", "isNoMouse", "(I)Z"⟩, prog_1_method_52_code, 2, some .boolean, 2, false, 365, 364, 10),
  (⟨"MiceRegisters", "ofMouse", "(II)I"⟩, prog_1_method_57_code, 3, some .int, 2, false, 369, 368, 11),
  (⟨"MiceRegisters", "eatenInAYear", "(II)I"⟩, prog_1_method_71_code, 2, some .int, 2, true, 372, 371, 0),
  (⟨"MiceRegisters", "mark", "(II)I"⟩, prog_1_method_14_code, 3, some .int, 2, false, 377, 375, 376),
  (⟨"MiceRegisters", "isOfKind", "(II)Z"⟩, prog_1_method_69_code, 2, some .boolean, 2, true, 380, 379, 0),
  (⟨"MiceRegisters$Register", "linesLikedBy", "(I)I"⟩, prog_3_method_11_code, 4, some .int, 1, false, 384, 382, 383),
  (⟨"MiceRegisters$Register", "linesLittleWrong", "()I"⟩, prog_3_method_12_code, 3, some .int, 1, false, 388, 386, 387),
  (⟨"MiceRegisters$Register", "yearsToEatUpAlone", "(I)I"⟩, prog_3_method_13_code, 3, some .int, 1, false, 392, 390, 391),
  (⟨"MiceRegisters$Register", "allCheese", "()I"⟩, prog_3_method_14_code, 3, some .int, 1, false, 397, 395, 396),
  (⟨"MiceRegisters", "year", "()I"⟩, prog_1_method_15_code, 1, some .int, 2, false, 401, 399, 400),
  (⟨"MiceRegisters", "doTruly", "(III)I"⟩, prog_1_method_72_code, 4, some .int, 2, false, 405, 404, 12),
  (⟨"MiceRegisters$Deeds", "add", "(III)V"⟩, prog_2_method_2_code, 4, none, 0, false, 409, 407, 408),
  (⟨"MiceRegisters$Register", "change", "(III)I"⟩, prog_3_method_4_code, 5, some .int, 1, false, 413, 411, 412),
  (⟨"MiceRegisters$Register", "passYear", "(I)I"⟩, prog_3_method_6_code, 6, some .int, 1, false, 420, 418, 419),
  (⟨"MiceRegisters", "cheese", "(II)I"⟩, prog_1_method_16_code, 3, some .int, 2, false, 427, 425, 426),
  (⟨"MiceRegisters", "cat", "(I)I"⟩, prog_1_method_17_code, 2, some .int, 2, false, 431, 429, 430),
  (⟨"MiceRegisters", "wax", "(I)I"⟩, prog_1_method_18_code, 2, some .int, 2, false, 435, 433, 434)]
def sm_md2 : List sm_MT := [
  (⟨"MiceRegisters", "undo", "(I)I"⟩, prog_1_method_19_code, 3, some .int, 2, false, 439, 437, 438),
  (⟨"MiceRegisters", "doAgain", "()V"⟩, prog_1_method_73_code, 2, none, 2, false, 443, 442, 13),
  (⟨"MiceRegisters", "keep", "(I)I"⟩, prog_1_method_20_code, 2, some .int, 2, false, 447, 445, 446),
  (⟨"MiceRegisters", "isNoPlace", "(I)Z"⟩, prog_1_method_50_code, 1, some .boolean, 2, true, 450, 449, 0),
  (⟨"MiceRegisters$Deeds", "takeFrom", "(LMiceRegisters$Deeds;)V"⟩, prog_2_method_3_code, 3, none, 0, false, 454, 452, 453),
  (⟨"MiceRegisters", "on", "(I)I"⟩, prog_1_method_21_code, 2, some .int, 2, false, 458, 456, 457),
  (⟨"MiceRegisters", "likes", "(IIII)I"⟩, prog_1_method_22_code, 5, some .int, 2, false, 462, 460, 461),
  (⟨"MiceRegisters", "left", "(II)I"⟩, prog_1_method_23_code, 3, some .int, 2, false, 467, 465, 466),
  (⟨"MiceRegisters", "goAside", "(I)V"⟩, prog_1_method_75_code, 2, none, 2, false, 471, 470, 14),
  (⟨"MiceRegisters$Register", "passYears", "(I)V"⟩, prog_3_method_5_code, 3, none, 1, false, 475, 473, 474),
  (⟨"MiceRegisters", "eaten", "(I)I"⟩, prog_1_method_24_code, 2, some .int, 2, false, 479, 477, 478),
  (⟨"MiceRegisters$Register", "linesEatenUp", "()I"⟩, prog_3_method_17_code, 3, some .int, 1, false, 483, 481, 482),
  (⟨"MiceRegisters", "when", "(I)I"⟩, prog_1_method_25_code, 3, some .int, 2, false, 487, 485, 486),
  (⟨"MiceRegisters", "save", "(II)I"⟩, prog_1_method_26_code, 5, some .int, 2, false, 492, 490, 491),
  (⟨"MiceRegisters", "isSavedBy", "(IIII)Z"⟩, prog_1_method_77_code, 6, some .boolean, 2, false, 496, 495, 15),
  (⟨"MiceRegisters", "guard", "(I)I"⟩, prog_1_method_27_code, 6, some .int, 2, false, 500, 498, 499),
  (⟨"MiceRegisters$Register", "allLeft", "()I"⟩, prog_3_method_15_code, 3, some .int, 1, false, 504, 502, 503),
  (⟨"MiceRegisters", "places", "(II)I"⟩, prog_1_method_28_code, 6, some .int, 2, false, 508, 506, 507),
  (⟨"MiceRegisters", "refusalOfTrace", "(II)I"⟩, prog_1_method_55_code, 5, some .int, 2, false, 512, 511, 16),
  (⟨"MiceRegisters", "goesAsRow", "(II)Z"⟩, prog_1_method_78_code, 4, some .boolean, 2, false, 516, 515, 17),
  (⟨"MiceRegisters", "kinds", "(II)I"⟩, prog_1_method_29_code, 4, some .int, 2, false, 520, 518, 519),
  (⟨"MiceRegisters", "kindsThatFit", "(II)I"⟩, prog_1_method_79_code, 5, some .int, 2, false, 524, 523, 18),
  (⟨"MiceRegisters", "look", "(II)I"⟩, prog_1_method_30_code, 9, some .int, 2, false, 528, 526, 527),
  (⟨"MiceRegisters", "followKinds", "(II)V"⟩, prog_1_method_80_code, 5, none, 2, false, 532, 531, 19),
  (⟨"MiceRegisters", "followKind", "(II)V"⟩, prog_1_method_81_code, 4, none, 2, false, 536, 535, 20)]
