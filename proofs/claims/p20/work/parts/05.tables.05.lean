def sm_md6 : List sm_MT := [
  (⟨"MiceRegistersModel", "passes", "(II)I"⟩, prog_5_method_37_code, 7, some .int, 3, false, 931, 930, 58),
  (⟨"MiceRegistersModel", "cheese", "(II)I"⟩, prog_5_method_50_code, 3, some .int, 3, false, 935, 933, 934),
  (⟨"MiceRegistersModel", "cat", "(I)I"⟩, prog_5_method_51_code, 3, some .int, 3, false, 940, 938, 939),
  (⟨"MiceRegistersModel", "wax", "(I)I"⟩, prog_5_method_52_code, 2, some .int, 3, false, 944, 942, 943),
  (⟨"MiceRegistersModel", "undo", "(I)I"⟩, prog_5_method_53_code, 4, some .int, 3, false, 948, 946, 947),
  (⟨"MiceRegistersModel", "keep", "(I)I"⟩, prog_5_method_55_code, 2, some .int, 3, false, 952, 950, 951),
  (⟨"MiceRegistersModel", "copyRegister", "(II)V"⟩, prog_5_method_54_code, 4, none, 3, false, 957, 956, 59),
  (⟨"MiceRegistersModel", "on", "(I)I"⟩, prog_5_method_56_code, 2, some .int, 3, false, 961, 959, 960),
  (⟨"MiceRegistersModel", "likes", "(IIII)I"⟩, prog_5_method_59_code, 5, some .int, 3, false, 965, 963, 964),
  (⟨"MiceRegistersModel", "left", "(II)I"⟩, prog_5_method_60_code, 3, some .int, 3, false, 971, 969, 970),
  (⟨"MiceRegistersModel", "layTried", "()V"⟩, prog_5_method_57_code, 2, none, 3, false, 976, 975, 60),
  (⟨"MiceRegistersModel", "passTried", "(I)V"⟩, prog_5_method_58_code, 3, none, 3, false, 980, 979, 61),
  (⟨"MiceRegistersModel", "eaten", "(I)I"⟩, prog_5_method_62_code, 2, some .int, 3, false, 984, 982, 983),
  (⟨"MiceRegistersModel", "eatenAt", "(I)I"⟩, prog_5_method_61_code, 4, some .int, 3, false, 988, 987, 62),
  (⟨"MiceRegistersModel", "when", "(I)I"⟩, prog_5_method_63_code, 3, some .int, 3, false, 992, 990, 991),
  (⟨"MiceRegistersModel", "save", "(II)I"⟩, prog_5_method_65_code, 5, some .int, 3, false, 996, 994, 995),
  (⟨"MiceRegistersModel", "isSaved", "(IIII)Z"⟩, prog_5_method_64_code, 5, some .boolean, 3, false, 1000, 999, 63),
  (⟨"MiceRegistersModel", "guard", "(I)I"⟩, prog_5_method_67_code, 5, some .int, 3, false, 1004, 1002, 1003),
  (⟨"MiceRegistersModel", "leftIn", "(I)I"⟩, prog_5_method_66_code, 4, some .int, 3, false, 1008, 1007, 64),
  (⟨"MiceRegistersModel", "places", "(II)I"⟩, prog_5_method_70_code, 6, some .int, 3, false, 1012, 1010, 1011),
  (⟨"MiceRegistersModel", "noRow", "(I)I"⟩, prog_5_method_68_code, 4, some .int, 3, false, 1016, 1015, 65),
  (⟨"MiceRegistersModel", "isSo", "(II)Z"⟩, prog_5_method_69_code, 5, some .boolean, 3, false, 1021, 1020, 66),
  (⟨"MiceRegistersModel", "kinds", "(II)I"⟩, prog_5_method_72_code, 4, some .int, 3, false, 1025, 1023, 1024),
  (⟨"MiceRegistersModel", "kindsBy", "(II)I"⟩, prog_5_method_71_code, 6, some .int, 3, false, 1029, 1028, 67),
  (⟨"MiceRegistersModel", "look", "(II)I"⟩, prog_5_method_74_code, 10, some .int, 3, false, 1033, 1031, 1032)]
def sm_md7 : List sm_MT := [
  (⟨"MiceRegistersModel", "layParts", "(II)V"⟩, prog_5_method_73_code, 6, none, 3, false, 1037, 1036, 68),
  (⟨"MiceRegistersModel", "sets", "(I)I"⟩, prog_5_method_77_code, 6, some .int, 3, false, 1042, 1040, 1041),
  (⟨"MiceRegistersModel", "noSets", "(I)I"⟩, prog_5_method_76_code, 2, some .int, 3, false, 1046, 1045, 69),
  (⟨"MiceRegistersModel", "leftOf", "(I)I"⟩, prog_5_method_75_code, 4, some .int, 3, false, 1051, 1050, 70),
  (⟨"MiceRegistersModel", "sure", "(I)I"⟩, prog_5_method_78_code, 8, some .int, 3, false, 1055, 1053, 1054),
  (⟨"MiceRegistersModel", "duel", "(III)I"⟩, prog_5_method_82_code, 7, some .int, 3, false, 1059, 1057, 1058),
  (⟨"MiceRegistersModel", "moreLeft", "(III)I"⟩, prog_5_method_79_code, 5, some .int, 3, false, 1063, 1062, 71),
  (⟨"MiceRegistersModel", "beginTurn", "(I)V"⟩, prog_5_method_81_code, 2, none, 3, false, 1067, 1066, 72),
  (⟨"MiceRegistersModel", "better", "(III)I"⟩, prog_5_method_80_code, 3, some .int, 3, true, 1071, 1070, 0),
  (⟨"MiceRegistersModel", "odds", "(II)I"⟩, prog_5_method_85_code, 10, some .int, 3, false, 1075, 1073, 1074),
  (⟨"MiceRegistersModel", "chancesOf", "(II)J"⟩, prog_5_method_84_code, 6, some .long, 3, false, 1080, 1079, 73),
  (⟨"MiceRegistersModel", "tellParts", "(JJ)V"⟩, prog_5_method_83_code, 11, none, 3, false, 1084, 1083, 74),
  (⟨"MiceRegistersModel", "mid", "(I)I"⟩, prog_5_method_86_code, 9, some .int, 3, false, 1088, 1086, 1087),
  (⟨"MiceRegistersModel", "lots", "(II)I"⟩, prog_5_method_88_code, 6, some .int, 3, false, 1092, 1090, 1091),
  (⟨"MiceRegistersModel", "byLot", "(J)V"⟩, prog_5_method_87_code, 6, none, 3, false, 1099, 1098, 75),
  (⟨"MiceRegistersModel", "asked", "()I"⟩, prog_5_method_89_code, 1, some .int, 3, false, 1105, 1103, 1104),
  (⟨"MiceRegistersModel", "upper", "()J"⟩, prog_5_method_90_code, 1, some .long, 3, false, 1109, 1107, 1108),
  (⟨"MiceRegistersModel", "lower", "()J"⟩, prog_5_method_91_code, 1, some .long, 3, false, 1113, 1111, 1112),
  (⟨"MiceRegistersModel", "count", "(I)I"⟩, prog_5_method_95_code, 2, some .int, 3, false, 1117, 1115, 1116),
  (⟨"MiceRegistersModel", "countOf", "(I)I"⟩, prog_5_method_94_code, 2, some .int, 3, false, 1122, 1121, 76),
  (⟨"MiceRegistersModel", "those", "(I)I"⟩, prog_5_method_92_code, 4, some .int, 3, false, 1126, 1125, 77),
  (⟨"MiceRegistersModel", "thereOf", "(I)I"⟩, prog_5_method_93_code, 4, some .int, 3, false, 1130, 1129, 78),
  (⟨"MiceRegistersModel", "finding", "()I"⟩, prog_5_method_96_code, 1, some .int, 3, false, 1134, 1132, 1133),
  (⟨"MiceRegistersModel", "findings", "(I)I"⟩, prog_5_method_97_code, 2, some .int, 3, false, 1138, 1136, 1137),
  (⟨"MiceRegistersModel", "digest", "()J"⟩, prog_5_method_98_code, 5, some .long, 3, false, 1142, 1140, 1141)]
def sm_md : List sm_MT := sm_md0 ++ (sm_md1 ++ (sm_md2 ++ (sm_md3 ++ (sm_md4 ++ (sm_md5 ++ (sm_md6 ++ (sm_md7)))))))
def sm_mchk (q : sm_MT) : Bool := (if q.2.2.2.2.2.1 then sm_ck q.2.2.2.2.2.2.2.1 (.static q.1) else sm_ck q.2.2.2.2.2.2.2.1 (.instanceMethod q.1) && sm_ck q.2.2.2.2.2.2.2.2 (.selects q.1.cls q.1 q.1)) && decide (q.2.2.1 ≤ 81) && decide (q.2.2.2.2.1 < 4)
theorem sm_pn : ∀ o, o < 4 → plainName (sm_own o) = true ∧ sm_own o ≠ "java/lang/invoke/MethodHandle" ∧ sm_own o ≠ "java/lang/invoke/VarHandle" := by decide +kernel
theorem sm_mchk0 : sm_md0.all sm_mchk = true := by decide +kernel
set_option maxRecDepth 100000 in
theorem sm_mcls0 : sm_md0.map (fun q => q.1.cls) = sm_md0.map (fun q => sm_own q.2.2.2.2.1) := rfl
theorem sm_mchk1 : sm_md1.all sm_mchk = true := by decide +kernel
set_option maxRecDepth 100000 in
theorem sm_mcls1 : sm_md1.map (fun q => q.1.cls) = sm_md1.map (fun q => sm_own q.2.2.2.2.1) := rfl
theorem sm_mchk2 : sm_md2.all sm_mchk = true := by decide +kernel
set_option maxRecDepth 100000 in
theorem sm_mcls2 : sm_md2.map (fun q => q.1.cls) = sm_md2.map (fun q => sm_own q.2.2.2.2.1) := rfl
theorem sm_mchk3 : sm_md3.all sm_mchk = true := by decide +kernel
set_option maxRecDepth 100000 in
theorem sm_mcls3 : sm_md3.map (fun q => q.1.cls) = sm_md3.map (fun q => sm_own q.2.2.2.2.1) := rfl
theorem sm_mchk4 : sm_md4.all sm_mchk = true := by decide +kernel
