theorem kck1071 : ai_chk [] kcc1071 (fun pc => sm_ch sm_t96 pc, sm_Kn 2 6 none, fun x => sm_lk sm_ca2 x, some .int) [] 6 0 [10] [] 2000 [(10, [(0, .inl 9), (1, .inr (false, [(0, 0)])), (2, .inl 9), (3, .inr (false, [(4, 4)])), (4, .inr (false, [(0, 0)]))], [], kch1048),
  (10, [(0, .inl 9), (1, .inr (false, [(0, 1)])), (2, .inl 9), (3, .inr (false, [(4, 4)])), (4, .inr (false, [(1, 1)])), (5, .inr (false, [(-1, 60)]))], [], kch1048),
  (10, [(0, .inl 9), (1, .inr (false, [(0, 2)])), (2, .inl 9), (3, .inr (false, [(4, 4)])), (4, .inr (false, [(2, 2)])), (5, .inr (false, [(-1, 60)]))], [], kch1048),
  (10, [(0, .inl 9), (1, .inr (false, [(0, 3)])), (2, .inl 9), (3, .inr (false, [(4, 4)])), (4, .inr (false, [(3, 3)])), (5, .inr (false, [(-1, 60)]))], [], kch1048),
  (10, [(0, .inl 9), (1, .inr (false, [(0, 4)])), (2, .inl 9), (3, .inr (false, [(4, 4)])), (4, .inr (false, [(4, 4)])), (5, .inr (false, [(-1, 60)]))], [], kch1048)] = true := by decide +kernel
/-- MiceRegisters.howManyThere -/
def kch1049 : aw_H := [(1, kcx4)]
def kcc1072 : ak_C := (96, [.inl 1], kch1049, [], [([], some (.inr (false, [(0, 6)])), [])])
theorem kck1072 : ai_chk [] kcc1072 (fun pc => sm_ch sm_t96 pc, sm_Kn 2 6 none, fun x => sm_lk sm_ca2 x, some .int) [] 6 0 [10] [] 2000 [(10, [(0, .inl 1), (1, .inr (false, [(0, 0)])), (2, .inl 1), (3, .inr (false, [(6, 6)])), (4, .inr (false, [(0, 0)]))], [], kch1049),
  (10, [(0, .inl 1), (1, .inr (false, [(0, 1)])), (2, .inl 1), (3, .inr (false, [(6, 6)])), (4, .inr (false, [(1, 1)])), (5, .inr (false, [(-1, 40)]))], [], kch1049),
  (10, [(0, .inl 1), (1, .inr (false, [(0, 2)])), (2, .inl 1), (3, .inr (false, [(6, 6)])), (4, .inr (false, [(2, 2)])), (5, .inr (false, [(-1, 40)]))], [], kch1049),
  (10, [(0, .inl 1), (1, .inr (false, [(0, 3)])), (2, .inl 1), (3, .inr (false, [(6, 6)])), (4, .inr (false, [(3, 3)])), (5, .inr (false, [(-1, 40)]))], [], kch1049),
  (10, [(0, .inl 1), (1, .inr (false, [(0, 4)])), (2, .inl 1), (3, .inr (false, [(6, 6)])), (4, .inr (false, [(4, 4)])), (5, .inr (false, [(-1, 40)]))], [], kch1049),
  (10, [(0, .inl 1), (1, .inr (false, [(0, 5)])), (2, .inl 1), (3, .inr (false, [(6, 6)])), (4, .inr (false, [(5, 5)])), (5, .inr (false, [(-1, 40)]))], [], kch1049),
  (10, [(0, .inl 1), (1, .inr (false, [(0, 6)])), (2, .inl 1), (3, .inr (false, [(6, 6)])), (4, .inr (false, [(6, 6)])), (5, .inr (false, [(-1, 40)]))], [], kch1049)] = true := by decide +kernel
/-- Register.miceOfKind -/
def kch1050 : aw_H := [(15, kcx669), (20, .inr (.inl (0, 4, [], [])))]
def kcc1073 : ak_C := (95, [.inl 15, .inr (false, ar_t32)], kch1050, [], [([], some (.inr (false, [(0, 0)])), []), ([], some (.inr (false, [(0, 4)])), [])])
def kch1051 : aw_H := [(15, kcx688), (20, .inr (.inl (0, 4, [], [])))]
def kch1052 : aw_H := [(15, kcx690), (20, .inr (.inl (0, 4, [], [])))]
def kch1053 : aw_H := [(15, kcx692), (20, .inr (.inl (0, 4, [], [])))]
def kch1054 : aw_H := [(15, kcx694), (20, .inr (.inl (0, 4, [], [])))]
theorem kck1073 : ai_chk [kcc988] kcc1073 (fun pc => sm_ch sm_t95 pc, sm_Kn 1 4 none, fun x => sm_lk sm_ca1 x, some .int) [] 4 0 [4] [] 2000 [(4, [(0, .inl 15), (1, .inr (false, ar_t32)), (2, .inr (false, [(0, 0)])), (3, .inr (false, [(0, 0)]))], [], kch1050),
  (4, [(0, .inl 15), (1, .inr (false, ar_t32)), (2, .inr (false, [(0, 1)])), (3, .inr (false, [(1, 1)]))], [], kch1051),
  (4, [(0, .inl 15), (1, .inr (false, ar_t32)), (2, .inr (false, [(0, 2)])), (3, .inr (false, [(2, 2)]))], [], kch1052),
  (4, [(0, .inl 15), (1, .inr (false, ar_t32)), (2, .inr (false, [(0, 3)])), (3, .inr (false, [(3, 3)]))], [], kch1053),
  (4, [(0, .inl 15), (1, .inr (false, ar_t32)), (2, .inr (false, [(0, 4)])), (3, .inr (false, [(4, 4)]))], [], kch1054)] = true := by decide +kernel
/-- Register.linesEatenUp -/
def kcc1074 : ak_C := (61, [.inl 15], kch713, [], [([], some (.inr (false, [(0, 0)])), []), ([], some (.inr (false, ar_t32)), [])])
def kch1055 : aw_H := [(15, kcx672), (18, .inr (.inl (0, 8, [], [(0, ar_t32)])))]
def kch1056 : aw_H := [(15, kcx674), (18, kcx733)]
def kch1057 : aw_H := [(15, kcx676), (18, kcx735)]
def kch1058 : aw_H := [(15, kcx678), (18, kcx737)]
def kch1059 : aw_H := [(15, kcx680), (18, kcx739)]
def kch1060 : aw_H := [(15, kcx682), (18, kcx741)]
def kch1061 : aw_H := [(15, kcx684), (18, kcx743)]
def kch1062 : aw_H := [(15, kcx686), (18, kcx745)]
theorem kck1074 : ai_chk [] kcc1074 (fun pc => sm_ch sm_t61 pc, sm_Kn 1 3 none, fun x => sm_lk sm_ca1 x, some .int) [] 3 0 [4] [] 2000 [(4, [(0, .inl 15), (1, .inr (false, [(0, 0)])), (2, .inr (false, [(0, 0)]))], [], kch713),
  (4, [(0, .inl 15), (1, .inr (false, [(0, 1)])), (2, .inr (false, [(1, 1)]))], [], kch1055),
  (4, [(0, .inl 15), (1, .inr (false, ar_t32)), (2, .inr (false, [(2, 2)]))], [], kch1056),
  (4, [(0, .inl 15), (1, .inr (false, ar_t32)), (2, .inr (false, [(3, 3)]))], [], kch1057),
  (4, [(0, .inl 15), (1, .inr (false, ar_t32)), (2, .inr (false, [(4, 4)]))], [], kch1058),
  (4, [(0, .inl 15), (1, .inr (false, ar_t32)), (2, .inr (false, [(5, 5)]))], [], kch1059),
  (4, [(0, .inl 15), (1, .inr (false, ar_t32)), (2, .inr (false, [(6, 6)]))], [], kch1060),
  (4, [(0, .inl 15), (1, .inr (false, ar_t32)), (2, .inr (false, [(7, 7)]))], [], kch1061),
  (4, [(0, .inl 15), (1, .inr (false, ar_t32)), (2, .inr (false, [(8, 8)]))], [], kch1062)] = true := by decide +kernel
/-- MiceRegisters.howManyKept -/
def kch1063 : aw_H := [(0, kcx2), (46, .inr (.inr (.inl (4, [47, 51, 55])))), (47, kcx697), (51, kcx698), (55, kcx699)]
def kcc1075 : ak_C := (97, [.inl 0], kch1063, [], [([], some (.inr (false, [(0, 3)])), [])])
theorem kck1075 : ai_chk [] kcc1075 (fun pc => sm_ch sm_t97 pc, sm_Kn 2 3 none, fun x => sm_lk sm_ca2 x, some .int) [] 3 0 [4] [] 2000 [(4, [(0, .inl 0), (1, .inr (false, [(0, 0)])), (2, .inr (false, [(0, 0)]))], [], kch1063),
  (4, [(0, .inl 0), (1, .inr (false, [(0, 1)])), (2, .inr (false, [(1, 1)]))], [], kch1063),
  (4, [(0, .inl 0), (1, .inr (false, [(0, 2)])), (2, .inr (false, [(2, 2)]))], [], kch1063),
  (4, [(0, .inl 0), (1, .inr (false, [(0, 3)])), (2, .inr (false, [(3, 3)]))], [], kch1063)] = true := by decide +kernel
/-- MiceRegisters.countOf -/
def kch1064 : aw_H := [(0, kcx2), (1, kcx4), (9, kcx14), (15, kcx669), (18, .inr (.inl (0, 8, [], []))), (19, .inr (.inl (0, 8, [], []))), (20, .inr (.inl (0, 4, [], []))), (42, kcx696), (46, .inr (.inr (.inl (4, [47, 51, 55])))), (47, kcx697), (51, kcx698), (55, kcx699)]
def kcc1076 : ak_C := (94, [.inl 0, .inr (false, ar_t32)], kch1064, [], [([[], []], some (.inr (false, ar_t32)), []), ([[], [(4, 5), (8, 10)]], some (.inr (false, [(0, 0)])), [])])
theorem kck1076 : ai_chk [kcc1071, kcc1072, kcc1073, kcc992, kcc1074, kcc1066, kcc1075] kcc1076 (fun pc => sm_ch sm_t94 pc, sm_Kn 2 2 none, fun x => sm_lk sm_ca2 x, some .int) [] 2 2 [] [] 2000 [] = true := by decide +kernel
/-- MiceRegisters.count -/
def kcc1077 : ak_C := (93, [.inl 0, .inr (false, ar_t32)], kch1064, [], [([[], [(-2147483648, -1), (14, 2147483647)]], some (.inr (false, [(-1, -1)])), []), ([[], [(4, 5), (8, 10)]], some (.inr (false, [(0, 0)])), []), ([[], [(0, 13)]], some (.inr (false, ar_t32)), [])])
theorem kck1077 : ai_chk [kcc1076] kcc1077 (fun pc => sm_ch sm_t93 pc, sm_Kn 2 2 none, fun x => sm_lk sm_ca2 x, some .int) [] 2 2 [] [] 2000 [] = true := by decide +kernel
/-- MiceRegisters.finding -/
def kcc1078 : ak_C := (98, [.inl 0], kch10, [], [([], some (.inr (false, ar_t32)), [])])
theorem kck1078 : ai_chk [] kcc1078 (fun pc => sm_ch sm_t98 pc, sm_Kn 2 1 none, fun x => sm_lk sm_ca2 x, some .int) [] 1 0 [] [] 2000 [] = true := by decide +kernel
/-- MiceRegisters.findings -/
def kcc1079 : ak_C := (99, [.inl 0, .inr (false, ar_t32)], kch3, [], [([[], [(-2147483648, 0), (6, 2147483647)]], some (.inr (false, [(-1, -1)])), []), ([[], [(1, 5)]], some (.inr (false, ar_t32)), [])])
theorem kck1079 : ai_chk [] kcc1079 (fun pc => sm_ch sm_t99 pc, sm_Kn 2 2 none, fun x => sm_lk sm_ca2 x, some .int) [] 2 2 [] [] 2000 [] = true := by decide +kernel
/-- MiceRegisters.digestOfRows -/
def kch1065 : aw_H := [(0, kcx2), (1, kcx4), (2, kcx7), (3, .inr (.inl (0, 40, [], []))), (4, .inr (.inl (0, 40, [], []))), (5, .inr (.inl (0, 40, [], []))), (6, .inr (.inl (0, 40, [], []))), (7, .inr (.inl (0, 40, [], []))), (8, .inr (.inl (0, 40, [], [])))]
def kcc1080 : ak_C := (101, [.inl 0, .inr (true, ar_t64)], kch1065, [], [([], some (.inr (true, ar_t64)), [])])
def kcb1080 : sm_P := (fun pc => sm_ch sm_t101 pc, sm_Kn 2 7 none, fun x => sm_lk sm_ca2 x, some .long)
def czkc1080x0 : aw_A := .inl (2, [.inl 1, .inl 2, .inl 9, .inl 10, .inl 15, .inl 24, .inl 33, .inl 42, .inl 46, .inl 59, .inl 80, .inr (false, ar_t32), .inr (false, ar_t32), .inr (true, ar_t64), .inr (true, ar_t64)])
def czkc1080x1 : aw_A := .inr (.inl (0, 6, [(0, 5, [(-1, 40)])], []))
def czkc1080x2 : aw_A := .inr (.inr (.inl (2, [3, 4, 5, 6, 7, 8])))
def czkc1080h3 : aw_H := [(0, czkc1080x0), (1, czkc1080x1), (2, czkc1080x2), (3, .inr (.inl (0, 40, [], []))), (4, .inr (.inl (0, 40, [], []))), (5, .inr (.inl (0, 40, [], []))), (6, .inr (.inl (0, 40, [], []))), (7, .inr (.inl (0, 40, [], []))), (8, .inr (.inl (0, 40, [], [])))]
set_option maxRecDepth 100000 in
theorem kck1080 : ai_ch2 [] kcc1080 kcb1080 [] 7 0 [5, 30] [] 2000 [.inr (5, false, [((5, [(0, .inl 0), (1, .inr (true, ar_t64)), (3, .inr (true, ar_t64)), (5, .inr (false, [(0, 6)]))], [], czkc1080h3), none), ((30, [(0, .inl 0), (1, .inr (true, ar_t64)), (3, .inr (true, ar_t64)), (5, .inr (false, [(0, 5)])), (6, .inr (false, [(0, 40)]))], [], czkc1080h3), some 6)])] = true := by decide +kernel


