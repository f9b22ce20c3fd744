def kch1044 : aw_H := [(15, kcx1043)]
/-- Register.change -/
def kcc1061 : ak_C := (45, [.inl 15, .inr (false, [(2, 2)]), .inr (false, [(0, 0)]), .inr (false, ar_t32)], kch794, [15], [([], some (.inr (false, ar_t32)), kch1044)])
theorem kck1061 : ai_chk [] kcc1061 (fun pc => sm_ch sm_t45 pc, sm_Kn 1 5 none, fun x => sm_lk sm_ca1 x, some .int) [15] 5 0 [] [] 2000 [] = true := by decide +kernel
def kch1045 : aw_H := [(15, kcx1043), (42, kcx696), (43, .inr (.inr (.inr ()))), (44, .inr (.inr (.inr ()))), (45, .inr (.inr (.inr ())))]
/-- MiceRegisters.doTruly -/
def kcc1062 : ak_C := (43, [.inl 0, .inr (false, [(2, 2)]), .inr (false, [(0, 0)]), .inr (false, ar_t32)], kch796, [15, 42, 43, 44, 45], [([], some (.inr (false, ar_t32)), kch1045)])
theorem kck1062 : ai_chk [kcc0, kcc1061] kcc1062 (fun pc => sm_ch sm_t43 pc, sm_Kn 2 4 none, fun x => sm_lk sm_ca2 x, some .int) [15, 42] 4 0 [] [] 2000 [] = true := by decide +kernel
/-- Register.change -/
def kcc1063 : ak_C := (45, [.inl 15, .inr (false, [(1, 1)]), .inr (false, [(0, 0)]), .inr (false, ar_t32)], kch756, [19], [([], some (.inr (false, ar_t32)), kch788)])
theorem kck1063 : ai_chk [] kcc1063 (fun pc => sm_ch sm_t45 pc, sm_Kn 1 5 none, fun x => sm_lk sm_ca1 x, some .int) [19] 5 0 [] [] 2000 [] = true := by decide +kernel
/-- MiceRegisters.doTruly -/
def kcc1064 : ak_C := (43, [.inl 0, .inr (false, [(1, 1)]), .inr (false, [(0, 0)]), .inr (false, ar_t32)], kch790, [19, 42, 43, 44, 45], [([], some (.inr (false, ar_t32)), kch789)])
theorem kck1064 : ai_chk [kcc1, kcc1063] kcc1064 (fun pc => sm_ch sm_t43 pc, sm_Kn 2 4 none, fun x => sm_lk sm_ca2 x, some .int) [19, 42] 4 0 [] [] 2000 [] = true := by decide +kernel
/-- MiceRegisters.doByLot -/
def kcc1065 : ak_C := (89, [.inl 0, .inr (false, [(0, 2147483646)])], kch783, [15, 18, 19, 23, 42, 43, 44, 45], [([], none, kch782)])
theorem kck1065 : ai_chk [kcc1007, kcc1002, kcc999, kcc996, kcc1060, kcc1062, kcc1064] kcc1065 (fun pc => sm_ch sm_t89 pc, sm_Kn 2 3 none, fun x => sm_lk sm_ca2 x, none) [15, 18, 19, 23, 42] 3 0 [] [] 2000 [] = true := by decide +kernel
/-- Register.allLeft -/
def kcc1066 : ak_C := (66, [.inl 15], kch713, [], [([], some (.inr (false, [(0, 0)])), []), ([], some (.inr (false, ar_t32)), [])])
theorem kck1066 : ai_chk [] kcc1066 (fun pc => sm_ch sm_t66 pc, sm_Kn 1 3 none, fun x => sm_lk sm_ca1 x, some .int) [] 3 0 [4] [] 2000 [(4, [(0, .inl 15), (1, .inr (false, [(0, 0)])), (2, .inr (false, [(0, 0)]))], [], kch713),
  (4, [(0, .inl 15), (1, .inr (false, ar_t32)), (2, .inr (false, [(1, 1)]))], [], kch956),
  (4, [(0, .inl 15), (1, .inr (false, ar_t32)), (2, .inr (false, [(2, 2)]))], [], kch957),
  (4, [(0, .inl 15), (1, .inr (false, ar_t32)), (2, .inr (false, [(3, 3)]))], [], kch958),
  (4, [(0, .inl 15), (1, .inr (false, ar_t32)), (2, .inr (false, [(4, 4)]))], [], kch959),
  (4, [(0, .inl 15), (1, .inr (false, ar_t32)), (2, .inr (false, [(5, 5)]))], [], kch960),
  (4, [(0, .inl 15), (1, .inr (false, ar_t32)), (2, .inr (false, [(6, 6)]))], [], kch961),
  (4, [(0, .inl 15), (1, .inr (false, ar_t32)), (2, .inr (false, [(7, 7)]))], [], kch962),
  (4, [(0, .inl 15), (1, .inr (false, ar_t32)), (2, .inr (false, [(8, 8)]))], [], kch963)] = true := by decide +kernel
def kch1046 : aw_H := [(15, kcx688), (18, .inr (.inl (0, 8, [], []))), (19, .inr (.inl (0, 8, [], []))), (23, kcx36), (42, kcx696), (43, .inr (.inr (.inr ()))), (44, .inr (.inr (.inr ()))), (45, .inr (.inr (.inr ())))]
/-- MiceRegisters.lots -/
def kcc1067 : ak_C := (88, [.inl 0, .inr (false, ar_t32), .inr (false, ar_t32)], kch783, [15, 18, 19, 23, 42, 43, 44, 45], [([[], [], []], some (.inr (false, [(-1, -1)])), kch782), ([[], [(1, 20)], [(1, 2147483646)]], some (.inr (false, [(-4, -4)])), kch785), ([[], [(1, 20)], [(1, 2147483646)]], some (.inr (false, [(-2, -2)])), kch1046), ([[], [(1, 20)], [(1, 2147483646)]], some (.inr (false, ar_t32)), kch782), ([[], [(1, 20)], [(1, 2147483646)]], some (.inr (false, [(0, 0)])), kch782)])
def kch1047 : aw_H := [(0, kcx2), (15, kcx688), (16, .inr (.inl (0, 8, [], []))), (18, .inr (.inl (0, 8, [], []))), (19, .inr (.inl (0, 8, [], []))), (20, .inr (.inl (0, 4, [], []))), (21, .inr (.inl (0, 4, [], []))), (23, kcx36), (42, kcx696), (43, .inr (.inr (.inr ()))), (44, .inr (.inr (.inr ()))), (45, .inr (.inr (.inr ())))]
theorem kck1067 : ai_chk [kcc1065, kcc1066] kcc1067 (fun pc => sm_ch sm_t88 pc, sm_Kn 2 6 none, fun x => sm_lk sm_ca2 x, some .int) [15, 18, 19, 23, 42] 6 3 [60] [] 2000 [(60, [(0, .inl 0), (1, .inr (false, [(1, 20)])), (2, .inr (false, [(1, 2147483646)])), (3, .inr (true, [(1, 2147483646)])), (5, .inr (false, [(0, 0)]))], [], kch1047),
  (60, [(0, .inl 0), (1, .inr (false, [(1, 20)])), (2, .inr (false, [(1, 2147483646)])), (3, .inr (true, [(0, 2147483646)])), (5, .inr (false, [(1, 1)]))], [], kch783),
  (60, [(0, .inl 0), (1, .inr (false, [(2, 20)])), (2, .inr (false, [(1, 2147483646)])), (3, .inr (true, [(0, 2147483646)])), (5, .inr (false, [(2, 2)]))], [], kch783),
  (60, [(0, .inl 0), (1, .inr (false, [(3, 20)])), (2, .inr (false, [(1, 2147483646)])), (3, .inr (true, [(0, 2147483646)])), (5, .inr (false, [(3, 3)]))], [], kch783),
  (60, [(0, .inl 0), (1, .inr (false, [(4, 20)])), (2, .inr (false, [(1, 2147483646)])), (3, .inr (true, [(0, 2147483646)])), (5, .inr (false, [(4, 4)]))], [], kch783),
  (60, [(0, .inl 0), (1, .inr (false, [(5, 20)])), (2, .inr (false, [(1, 2147483646)])), (3, .inr (true, [(0, 2147483646)])), (5, .inr (false, [(5, 5)]))], [], kch783),
  (60, [(0, .inl 0), (1, .inr (false, [(6, 20)])), (2, .inr (false, [(1, 2147483646)])), (3, .inr (true, [(0, 2147483646)])), (5, .inr (false, [(6, 6)]))], [], kch783),
  (60, [(0, .inl 0), (1, .inr (false, [(7, 20)])), (2, .inr (false, [(1, 2147483646)])), (3, .inr (true, [(0, 2147483646)])), (5, .inr (false, [(7, 7)]))], [], kch783),
  (60, [(0, .inl 0), (1, .inr (false, [(8, 20)])), (2, .inr (false, [(1, 2147483646)])), (3, .inr (true, [(0, 2147483646)])), (5, .inr (false, [(8, 8)]))], [], kch783),
  (60, [(0, .inl 0), (1, .inr (false, [(9, 20)])), (2, .inr (false, [(1, 2147483646)])), (3, .inr (true, [(0, 2147483646)])), (5, .inr (false, [(9, 9)]))], [], kch783),
  (60, [(0, .inl 0), (1, .inr (false, [(10, 20)])), (2, .inr (false, [(1, 2147483646)])), (3, .inr (true, [(0, 2147483646)])), (5, .inr (false, [(10, 10)]))], [], kch783),
  (60, [(0, .inl 0), (1, .inr (false, [(11, 20)])), (2, .inr (false, [(1, 2147483646)])), (3, .inr (true, [(0, 2147483646)])), (5, .inr (false, [(11, 11)]))], [], kch783),
  (60, [(0, .inl 0), (1, .inr (false, [(12, 20)])), (2, .inr (false, [(1, 2147483646)])), (3, .inr (true, [(0, 2147483646)])), (5, .inr (false, [(12, 12)]))], [], kch783),
  (60, [(0, .inl 0), (1, .inr (false, [(13, 20)])), (2, .inr (false, [(1, 2147483646)])), (3, .inr (true, [(0, 2147483646)])), (5, .inr (false, [(13, 13)]))], [], kch783),
  (60, [(0, .inl 0), (1, .inr (false, [(14, 20)])), (2, .inr (false, [(1, 2147483646)])), (3, .inr (true, [(0, 2147483646)])), (5, .inr (false, [(14, 14)]))], [], kch783),
  (60, [(0, .inl 0), (1, .inr (false, [(15, 20)])), (2, .inr (false, [(1, 2147483646)])), (3, .inr (true, [(0, 2147483646)])), (5, .inr (false, [(15, 15)]))], [], kch783),
  (60, [(0, .inl 0), (1, .inr (false, [(16, 20)])), (2, .inr (false, [(1, 2147483646)])), (3, .inr (true, [(0, 2147483646)])), (5, .inr (false, [(16, 16)]))], [], kch783),
  (60, [(0, .inl 0), (1, .inr (false, [(17, 20)])), (2, .inr (false, [(1, 2147483646)])), (3, .inr (true, [(0, 2147483646)])), (5, .inr (false, [(17, 17)]))], [], kch783),
  (60, [(0, .inl 0), (1, .inr (false, [(18, 20)])), (2, .inr (false, [(1, 2147483646)])), (3, .inr (true, [(0, 2147483646)])), (5, .inr (false, [(18, 18)]))], [], kch783),
  (60, [(0, .inl 0), (1, .inr (false, [(19, 20)])), (2, .inr (false, [(1, 2147483646)])), (3, .inr (true, [(0, 2147483646)])), (5, .inr (false, [(19, 19)]))], [], kch783),
  (60, [(0, .inl 0), (1, .inr (false, [(20, 20)])), (2, .inr (false, [(1, 2147483646)])), (3, .inr (true, [(0, 2147483646)])), (5, .inr (false, [(20, 20)]))], [], kch783)] = true := by decide +kernel
/-- MiceRegisters.asked -/
def kcc1068 : ak_C := (90, [.inl 0], kch10, [], [([], some (.inr (false, ar_t32)), [])])
theorem kck1068 : ai_chk [] kcc1068 (fun pc => sm_ch sm_t90 pc, sm_Kn 2 1 none, fun x => sm_lk sm_ca2 x, some .int) [] 1 0 [] [] 2000 [] = true := by decide +kernel
/-- MiceRegisters.upper -/
def kcc1069 : ak_C := (91, [.inl 0], kch10, [], [([], some (.inr (true, ar_t64)), [])])
theorem kck1069 : ai_chk [] kcc1069 (fun pc => sm_ch sm_t91 pc, sm_Kn 2 1 none, fun x => sm_lk sm_ca2 x, some .long) [] 1 0 [] [] 2000 [] = true := by decide +kernel
/-- MiceRegisters.lower -/
def kcc1070 : ak_C := (92, [.inl 0], kch10, [], [([], some (.inr (true, ar_t64)), [])])
theorem kck1070 : ai_chk [] kcc1070 (fun pc => sm_ch sm_t92 pc, sm_Kn 2 1 none, fun x => sm_lk sm_ca2 x, some .long) [] 1 0 [] [] 2000 [] = true := by decide +kernel
/-- MiceRegisters.howManyThere -/
def kch1048 : aw_H := [(9, kcx14)]
def kcc1071 : ak_C := (96, [.inl 9], kch1048, [], [([], some (.inr (false, [(0, 4)])), [])])
theorem kck1071 : ai_chk [] kcc1071 (fun pc => sm_ch sm_t96 pc, sm_Kn 2 6 none, fun x => sm_lk sm_ca2 x, some .int) [] 6 0 [10] [] 2000 [(10, [(0, .inl 9), (1, .inr (false, [(0, 0)])), (2, .inl 9), (3, .inr (false, [(4, 4)])), (4, .inr (false, [(0, 0)]))], [], kch1048),
  (10, [(0, .inl 9), (1, .inr (false, [(0, 1)])), (2, .inl 9), (3, .inr (false, [(4, 4)])), (4, .inr (false, [(1, 1)])), (5, .inr (false, [(-1, 60)]))], [], kch1048),
  (10, [(0, .inl 9), (1, .inr (false, [(0, 2)])), (2, .inl 9), (3, .inr (false, [(4, 4)])), (4, .inr (false, [(2, 2)])), (5, .inr (false, [(-1, 60)]))], [], kch1048),
  (10, [(0, .inl 9), (1, .inr (false, [(0, 3)])), (2, .inl 9), (3, .inr (false, [(4, 4)])), (4, .inr (false, [(3, 3)])), (5, .inr (false, [(-1, 60)]))], [], kch1048),
  (10, [(0, .inl 9), (1, .inr (false, [(0, 4)])), (2, .inl 9), (3, .inr (false, [(4, 4)])), (4, .inr (false, [(4, 4)])), (5, .inr (false, [(-1, 60)]))], [], kch1048)] = true := by decide +kernel
/-- MiceRegisters.howManyThere -/
def kch1049 : aw_H := [(1, kcx4)]
def kcc1072 : ak_C := (96, [.inl 1], kch1049, [], [([], some (.inr (false, [(0, 6)])), [])])
theorem kck1072 : ai_chk [] kcc1072 (fun pc => sm_ch sm_t96 pc, sm_Kn 2 6 none, fun x => sm_lk sm_ca2 x, some .int) [] 6 0 [10] [] 2000 [(10, [(0, .inl 1), (1, .inr (false, [(0, 0)])), (2, .inl 1), (3, .inr (false, [(6, 6)])), (4, .inr (false, [(0, 0)]))], [], kch1049),
  (10, [(0, .inl 1), (1, .inr (false, [(0, 1)])), (2, .inl 1), (3, .inr (false, [(6, 6)])), (4, .inr (false, [(1, 1)])), (5, .inr (false, [(-1, 40)]))], [], kch1049),
  (10, [(0, .inl 1), (1, .inr (false, [(0, 2)])), (2, .inl 1), (3, .inr (false, [(6, 6)])), (4, .inr (false, [(2, 2)])), (5, .inr (false, [(-1, 40)]))], [], kch1049),
  (10, [(0, .inl 1), (1, .inr (false, [(0, 3)])), (2, .inl 1), (3, .inr (false, [(6, 6)])), (4, .inr (false, [(3, 3)])), (5, .inr (false, [(-1, 40)]))], [], kch1049),
  (10, [(0, .inl 1), (1, .inr (false, [(0, 4)])), (2, .inl 1), (3, .inr (false, [(6, 6)])), (4, .inr (false, [(4, 4)])), (5, .inr (false, [(-1, 40)]))], [], kch1049),
  (10, [(0, .inl 1), (1, .inr (false, [(0, 5)])), (2, .inl 1), (3, .inr (false, [(6, 6)])), (4, .inr (false, [(5, 5)])), (5, .inr (false, [(-1, 40)]))], [], kch1049),
  (10, [(0, .inl 1), (1, .inr (false, [(0, 6)])), (2, .inl 1), (3, .inr (false, [(6, 6)])), (4, .inr (false, [(6, 6)])), (5, .inr (false, [(-1, 40)]))], [], kch1049)] = true := by decide +kernel
/-- Register.miceOfKind -/
def kch1050 : aw_H := [(15, kcx669), (20, .inr (.inl (0, 4, [], [])))]
def kcc1073 : ak_C := (95, [.inl 15, .inr (false, ar_t32)], kch1050, [], [([], some (.inr (false, [(0, 0)])), []), ([], some (.inr (false, [(0, 4)])), [])])
def kch1051 : aw_H := [(15, kcx688), (20, .inr (.inl (0, 4, [], [])))]
def kch1052 : aw_H := [(15, kcx690), (20, .inr (.inl (0, 4, [], [])))]
def kch1053 : aw_H := [(15, kcx692), (20, .inr (.inl (0, 4, [], [])))]
def kch1054 : aw_H := [(15, kcx694), (20, .inr (.inl (0, 4, [], [])))]
theorem kck1073 : ai_chk [kcc988] kcc1073 (fun pc => sm_ch sm_t95 pc, sm_Kn 1 4 none, fun x => sm_lk sm_ca1 x, some .int) [] 4 0 [4] [] 2000 [(4, [(0, .inl 15), (1, .inr (false, ar_t32)), (2, .inr (false, [(0, 0)])), (3, .inr (false, [(0, 0)]))], [], kch1050),
  (4, [(0, .inl 15), (1, .inr (false, ar_t32)), (2, .inr (false, [(0, 1)])), (3, .inr (false, [(1, 1)]))], [], kch1051),
  (4, [(0, .inl 15), (1, .inr (false, ar_t32)), (2, .inr (false, [(0, 2)])), (3, .inr (false, [(2, 2)]))], [], kch1052),
  (4, [(0, .inl 15), (1, .inr (false, ar_t32)), (2, .inr (false, [(0, 3)])), (3, .inr (false, [(3, 3)]))], [], kch1053),
  (4, [(0, .inl 15), (1, .inr (false, ar_t32)), (2, .inr (false, [(0, 4)])), (3, .inr (false, [(4, 4)]))], [], kch1054)] = true := by decide +kernel
/-- Register.linesEatenUp -/
def kcc1074 : ak_C := (61, [.inl 15], kch713, [], [([], some (.inr (false, [(0, 0)])), []), ([], some (.inr (false, ar_t32)), [])])
def kch1055 : aw_H := [(15, kcx672), (18, .inr (.inl (0, 8, [], [(0, ar_t32)])))]
def kch1056 : aw_H := [(15, kcx674), (18, kcx733)]
def kch1057 : aw_H := [(15, kcx676), (18, kcx735)]
def kch1058 : aw_H := [(15, kcx678), (18, kcx737)]
def kch1059 : aw_H := [(15, kcx680), (18, kcx739)]
def kch1060 : aw_H := [(15, kcx682), (18, kcx741)]
def kch1061 : aw_H := [(15, kcx684), (18, kcx743)]
def kch1062 : aw_H := [(15, kcx686), (18, kcx745)]
theorem kck1074 : ai_chk [] kcc1074 (fun pc => sm_ch sm_t61 pc, sm_Kn 1 3 none, fun x => sm_lk sm_ca1 x, some .int) [] 3 0 [4] [] 2000 [(4, [(0, .inl 15), (1, .inr (false, [(0, 0)])), (2, .inr (false, [(0, 0)]))], [], kch713),
  (4, [(0, .inl 15), (1, .inr (false, [(0, 1)])), (2, .inr (false, [(1, 1)]))], [], kch1055),
  (4, [(0, .inl 15), (1, .inr (false, ar_t32)), (2, .inr (false, [(2, 2)]))], [], kch1056),
  (4, [(0, .inl 15), (1, .inr (false, ar_t32)), (2, .inr (false, [(3, 3)]))], [], kch1057),
  (4, [(0, .inl 15), (1, .inr (false, ar_t32)), (2, .inr (false, [(4, 4)]))], [], kch1058),
  (4, [(0, .inl 15), (1, .inr (false, ar_t32)), (2, .inr (false, [(5, 5)]))], [], kch1059),
  (4, [(0, .inl 15), (1, .inr (false, ar_t32)), (2, .inr (false, [(6, 6)]))], [], kch1060),
  (4, [(0, .inl 15), (1, .inr (false, ar_t32)), (2, .inr (false, [(7, 7)]))], [], kch1061),
  (4, [(0, .inl 15), (1, .inr (false, ar_t32)), (2, .inr (false, [(8, 8)]))], [], kch1062)] = true := by decide +kernel
/-- MiceRegisters.howManyKept -/
def kch1063 : aw_H := [(0, kcx2), (46, .inr (.inr (.inl (4, [47, 51, 55])))), (47, kcx697), (51, kcx698), (55, kcx699)]
def kcc1075 : ak_C := (97, [.inl 0], kch1063, [], [([], some (.inr (false, [(0, 3)])), [])])
theorem kck1075 : ai_chk [] kcc1075 (fun pc => sm_ch sm_t97 pc, sm_Kn 2 3 none, fun x => sm_lk sm_ca2 x, some .int) [] 3 0 [4] [] 2000 [(4, [(0, .inl 0), (1, .inr (false, [(0, 0)])), (2, .inr (false, [(0, 0)]))], [], kch1063),
  (4, [(0, .inl 0), (1, .inr (false, [(0, 1)])), (2, .inr (false, [(1, 1)]))], [], kch1063),
  (4, [(0, .inl 0), (1, .inr (false, [(0, 2)])), (2, .inr (false, [(2, 2)]))], [], kch1063),
  (4, [(0, .inl 0), (1, .inr (false, [(0, 3)])), (2, .inr (false, [(3, 3)]))], [], kch1063)] = true := by decide +kernel
/-- MiceRegisters.countOf -/
def kch1064 : aw_H := [(0, kcx2), (1, kcx4), (9, kcx14), (15, kcx669), (18, .inr (.inl (0, 8, [], []))), (19, .inr (.inl (0, 8, [], []))), (20, .inr (.inl (0, 4, [], []))), (42, kcx696), (46, .inr (.inr (.inl (4, [47, 51, 55])))), (47, kcx697), (51, kcx698), (55, kcx699)]
def kcc1076 : ak_C := (94, [.inl 0, .inr (false, ar_t32)], kch1064, [], [([[], []], some (.inr (false, ar_t32)), []), ([[], [(4, 5), (8, 10)]], some (.inr (false, [(0, 0)])), [])])
theorem kck1076 : ai_chk [kcc1071, kcc1072, kcc1073, kcc992, kcc1074, kcc1066, kcc1075] kcc1076 (fun pc => sm_ch sm_t94 pc, sm_Kn 2 2 none, fun x => sm_lk sm_ca2 x, some .int) [] 2 2 [] [] 2000 [] = true := by decide +kernel
/-- MiceRegisters.count -/
def kcc1077 : ak_C := (93, [.inl 0, .inr (false, ar_t32)], kch1064, [], [([[], [(-2147483648, -1), (14, 2147483647)]], some (.inr (false, [(-1, -1)])), []), ([[], [(4, 5), (8, 10)]], some (.inr (false, [(0, 0)])), []), ([[], [(0, 13)]], some (.inr (false, ar_t32)), [])])
theorem kck1077 : ai_chk [kcc1076] kcc1077 (fun pc => sm_ch sm_t93 pc, sm_Kn 2 2 none, fun x => sm_lk sm_ca2 x, some .int) [] 2 2 [] [] 2000 [] = true := by decide +kernel
/-- MiceRegisters.finding -/
def kcc1078 : ak_C := (98, [.inl 0], kch10, [], [([], some (.inr (false, ar_t32)), [])])
theorem kck1078 : ai_chk [] kcc1078 (fun pc => sm_ch sm_t98 pc, sm_Kn 2 1 none, fun x => sm_lk sm_ca2 x, some .int) [] 1 0 [] [] 2000 [] = true := by decide +kernel
/-- MiceRegisters.findings -/
def kcc1079 : ak_C := (99, [.inl 0, .inr (false, ar_t32)], kch3, [], [([[], [(-2147483648, 0), (6, 2147483647)]], some (.inr (false, [(-1, -1)])), []), ([[], [(1, 5)]], some (.inr (false, ar_t32)), [])])
theorem kck1079 : ai_chk [] kcc1079 (fun pc => sm_ch sm_t99 pc, sm_Kn 2 2 none, fun x => sm_lk sm_ca2 x, some .int) [] 2 2 [] [] 2000 [] = true := by decide +kernel
/-- MiceRegisters.digestOfRows -/
def kch1065 : aw_H := [(0, kcx2), (1, kcx4), (2, kcx7), (3, .inr (.inl (0, 40, [], []))), (4, .inr (.inl (0, 40, [], []))), (5, .inr (.inl (0, 40, [], []))), (6, .inr (.inl (0, 40, [], []))), (7, .inr (.inl (0, 40, [], []))), (8, .inr (.inl (0, 40, [], [])))]
def kcc1080 : ak_C := (101, [.inl 0, .inr (true, ar_t64)], kch1065, [], [([], some (.inr (true, ar_t64)), [])])
def kcb1080 : sm_P := (fun pc => sm_ch sm_t101 pc, sm_Kn 2 7 none, fun x => sm_lk sm_ca2 x, some .long)
def czkc1080x0 : aw_A := .inl (2, [.inl 1, .inl 2, .inl 9, .inl 10, .inl 15, .inl 24, .inl 33, .inl 42, .inl 46, .inl 59, .inl 80, .inr (false, ar_t32), .inr (false, ar_t32), .inr (true, ar_t64), .inr (true, ar_t64)])
def czkc1080x1 : aw_A := .inr (.inl (0, 6, [(0, 5, [(-1, 40)])], []))
def czkc1080x2 : aw_A := .inr (.inr (.inl (2, [3, 4, 5, 6, 7, 8])))
def czkc1080h3 : aw_H := [(0, czkc1080x0), (1, czkc1080x1), (2, czkc1080x2), (3, .inr (.inl (0, 40, [], []))), (4, .inr (.inl (0, 40, [], []))), (5, .inr (.inl (0, 40, [], []))), (6, .inr (.inl (0, 40, [], []))), (7, .inr (.inl (0, 40, [], []))), (8, .inr (.inl (0, 40, [], [])))]
set_option maxRecDepth 100000 in
theorem kck1080 : ai_ch2 [] kcc1080 kcb1080 [] 7 0 [5, 30] [] 2000 [.inr (5, false, [((5, [(0, .inl 0), (1, .inr (true, ar_t64)), (3, .inr (true, ar_t64)), (5, .inr (false, [(0, 6)]))], [], czkc1080h3), none), ((30, [(0, .inl 0), (1, .inr (true, ar_t64)), (3, .inr (true, ar_t64)), (5, .inr (false, [(0, 5)])), (6, .inr (false, [(0, 40)]))], [], czkc1080h3), some 6)])] = true := by decide +kernel


