theorem kck1053 : ai_chk [kcc976, kcc1014, kcc1052, kcc14, kcc1050, kcc1048] kcc1053 (fun pc => sm_ch sm_t81 pc, sm_Kn 2 4 none, fun x => sm_lk sm_ca2 x, some .int) [0, 24, 25, 26, 27, 28, 29, 30, 31, 32, 33, 34, 35, 36, 37, 38, 39, 40, 41] 4 4 [] [(5, some (0, 3, 0), 0, 3)] 2000 [] = true := by decide +kernel
/-- MiceRegisters.sleepAside -/
def kcc1054 : ak_C := (84, [.inl 0, .inr (false, ar_t32)], kch876, [24, 25, 26, 27, 28, 29, 30, 31, 32], [([], none, kch827)])
theorem kck1054 : ai_chk [kcc1014, kcc1018] kcc1054 (fun pc => sm_ch sm_t84 pc, sm_Kn 2 2 none, fun x => sm_lk sm_ca2 x, none) [24, 25, 26, 27, 28, 29, 30, 31, 32] 2 0 [] [] 2000 [] = true := by decide +kernel
/-- MiceRegisters.weightOf -/
def kcc1055 : ak_C := (85, [.inl 0, .inr (false, ar_t32), .inr (false, ar_t32)], kch712, [], [([], some (.inr (true, ar_t64)), [])])
def kch1039 : aw_H := [(0, kcx2), (15, kcx688)]
def kch1040 : aw_H := [(0, kcx2), (15, kcx690)]
def kch1041 : aw_H := [(0, kcx2), (15, kcx692)]
def kch1042 : aw_H := [(0, kcx2), (15, kcx694)]
theorem kck1055 : ai_chk [] kcc1055 (fun pc => sm_ch sm_t85 pc, sm_Kn 2 6 none, fun x => sm_lk sm_ca2 x, some .long) [] 6 0 [5] [] 2000 [(5, [(0, .inl 0), (1, .inr (false, ar_t32)), (2, .inr (false, ar_t32)), (3, .inr (true, [(1, 1)])), (5, .inr (false, [(0, 0)]))], [], kch712),
  (5, [(0, .inl 0), (1, .inr (false, ar_t32)), (2, .inr (false, ar_t32)), (3, .inr (true, ar_t32)), (5, .inr (false, [(1, 1)]))], [], kch1039),
  (5, [(0, .inl 0), (1, .inr (false, ar_t32)), (2, .inr (false, ar_t32)), (3, .inr (true, [(-4611686016279904256, 4611686018427387904)])), (5, .inr (false, [(2, 2)]))], [], kch1040),
  (5, [(0, .inl 0), (1, .inr (false, ar_t32)), (2, .inr (false, ar_t32)), (3, .inr (true, ar_t64)), (5, .inr (false, [(3, 3)]))], [], kch1041),
  (5, [(0, .inl 0), (1, .inr (false, ar_t32)), (2, .inr (false, ar_t32)), (3, .inr (true, ar_t64)), (5, .inr (false, [(4, 4)]))], [], kch1042)] = true := by decide +kernel
/-- MiceRegisters.allWeights -/
def kcc1056 : ak_C := (86, [.inl 0], kch712, [], [([], some (.inr (true, [(1, 20736)])), [])])
theorem kck1056 : ai_chk [] kcc1056 (fun pc => sm_ch sm_t86 pc, sm_Kn 2 4 none, fun x => sm_lk sm_ca2 x, some .long) [] 4 0 [4] [] 2000 [(4, [(0, .inl 0), (1, .inr (true, [(1, 1)])), (3, .inr (false, [(0, 0)]))], [], kch712),
  (4, [(0, .inl 0), (1, .inr (true, [(12, 12)])), (3, .inr (false, [(1, 1)]))], [], kch1039),
  (4, [(0, .inl 0), (1, .inr (true, [(144, 144)])), (3, .inr (false, [(2, 2)]))], [], kch1040),
  (4, [(0, .inl 0), (1, .inr (true, [(1728, 1728)])), (3, .inr (false, [(3, 3)]))], [], kch1041),
  (4, [(0, .inl 0), (1, .inr (true, [(20736, 20736)])), (3, .inr (false, [(4, 4)]))], [], kch1042)] = true := by decide +kernel
/-- MiceRegisters.odds -/
def kcc1057 : ak_C := (83, [.inl 0, .inr (false, ar_t32), .inr (false, ar_t32)], kch876, [0, 24, 25, 26, 27, 28, 29, 30, 31, 32], [([[], [], []], some (.inr (false, [(-1, -1)])), kch885), ([[], [(0, 7)], [(0, 12)]], some (.inr (false, [(1, 1)])), kch885)])
theorem kck1057 : ai_chk [kcc976, kcc1054, kcc1055, kcc1056, kcc1040] kcc1057 (fun pc => sm_ch sm_t83 pc, sm_Kn 2 6 none, fun x => sm_lk sm_ca2 x, some .int) [0, 24, 25, 26, 27, 28, 29, 30, 31, 32] 6 3 [25] [] 2000 [(25, [(0, .inl 0), (1, .inr (false, [(0, 7)])), (2, .inr (false, [(0, 12)])), (3, .inr (true, [(0, 0)])), (5, .inr (false, [(0, 0)]))], [], kch876),
  (25, [(0, .inl 0), (1, .inr (false, [(0, 7)])), (2, .inr (false, [(0, 12)])), (3, .inr (true, ar_t64)), (5, .inr (false, [(1, 1)]))], [], kch876),
  (25, [(0, .inl 0), (1, .inr (false, [(0, 7)])), (2, .inr (false, [(0, 12)])), (3, .inr (true, ar_t64)), (5, .inr (false, [(2, 2)]))], [], kch876),
  (25, [(0, .inl 0), (1, .inr (false, [(0, 7)])), (2, .inr (false, [(0, 12)])), (3, .inr (true, ar_t64)), (5, .inr (false, [(3, 3)]))], [], kch876),
  (25, [(0, .inl 0), (1, .inr (false, [(0, 7)])), (2, .inr (false, [(0, 12)])), (3, .inr (true, ar_t64)), (5, .inr (false, [(4, 4)]))], [], kch876),
  (25, [(0, .inl 0), (1, .inr (false, [(0, 7)])), (2, .inr (false, [(0, 12)])), (3, .inr (true, ar_t64)), (5, .inr (false, [(5, 5)]))], [], kch876),
  (25, [(0, .inl 0), (1, .inr (false, [(0, 7)])), (2, .inr (false, [(0, 12)])), (3, .inr (true, ar_t64)), (5, .inr (false, [(6, 6)]))], [], kch876),
  (25, [(0, .inl 0), (1, .inr (false, [(0, 7)])), (2, .inr (false, [(0, 12)])), (3, .inr (true, ar_t64)), (5, .inr (false, [(7, 7)]))], [], kch876),
  (25, [(0, .inl 0), (1, .inr (false, [(0, 7)])), (2, .inr (false, [(0, 12)])), (3, .inr (true, ar_t64)), (5, .inr (false, [(8, 8)]))], [], kch876),
  (25, [(0, .inl 0), (1, .inr (false, [(0, 7)])), (2, .inr (false, [(0, 12)])), (3, .inr (true, ar_t64)), (5, .inr (false, [(9, 9)]))], [], kch876),
  (25, [(0, .inl 0), (1, .inr (false, [(0, 7)])), (2, .inr (false, [(0, 12)])), (3, .inr (true, ar_t64)), (5, .inr (false, [(10, 10)]))], [], kch876),
  (25, [(0, .inl 0), (1, .inr (false, [(0, 7)])), (2, .inr (false, [(0, 12)])), (3, .inr (true, ar_t64)), (5, .inr (false, [(11, 11)]))], [], kch876),
  (25, [(0, .inl 0), (1, .inr (false, [(0, 7)])), (2, .inr (false, [(0, 12)])), (3, .inr (true, ar_t64)), (5, .inr (false, [(12, 12)]))], [], kch876),
  (25, [(0, .inl 0), (1, .inr (false, [(0, 7)])), (2, .inr (false, [(0, 12)])), (3, .inr (true, ar_t64)), (5, .inr (false, [(13, 13)]))], [], kch876),
  (25, [(0, .inl 0), (1, .inr (false, [(0, 7)])), (2, .inr (false, [(0, 12)])), (3, .inr (true, ar_t64)), (5, .inr (false, [(14, 14)]))], [], kch876),
  (25, [(0, .inl 0), (1, .inr (false, [(0, 7)])), (2, .inr (false, [(0, 12)])), (3, .inr (true, ar_t64)), (5, .inr (false, [(15, 15)]))], [], kch876),
  (25, [(0, .inl 0), (1, .inr (false, [(0, 7)])), (2, .inr (false, [(0, 12)])), (3, .inr (true, ar_t64)), (5, .inr (false, [(16, 16)]))], [], kch876)] = true := by decide +kernel
/-- MiceRegisters.mid -/
def kcc1058 : ak_C := (87, [.inl 0, .inr (false, ar_t32)], kch876, [0, 24, 25, 26, 27, 28, 29, 30, 31, 32], [([[], [(-2147483648, -1), (13, 2147483647)]], some (.inr (false, [(-1, -1)])), kch885), ([[], [(0, 12)]], some (.inr (false, [(-4, -4)])), kch885), ([[], [(0, 12)]], some (.inr (false, [(1, 1)])), kch885)])
theorem kck1058 : ai_chk [kcc1054, kcc1055, kcc1027, kcc1056, kcc1040] kcc1058 (fun pc => sm_ch sm_t87 pc, sm_Kn 2 5 none, fun x => sm_lk sm_ca2 x, some .int) [0, 24, 25, 26, 27, 28, 29, 30, 31, 32] 5 2 [30] [] 2000 [(30, [(0, .inl 0), (1, .inr (false, [(0, 12)])), (2, .inr (true, [(0, 0)])), (4, .inr (false, [(0, 0)]))], [], kch918),
  (30, [(0, .inl 0), (1, .inr (false, [(0, 12)])), (2, .inr (true, ar_t64)), (4, .inr (false, [(1, 1)]))], [], kch918),
  (30, [(0, .inl 0), (1, .inr (false, [(0, 12)])), (2, .inr (true, ar_t64)), (4, .inr (false, [(2, 2)]))], [], kch918),
  (30, [(0, .inl 0), (1, .inr (false, [(0, 12)])), (2, .inr (true, ar_t64)), (4, .inr (false, [(3, 3)]))], [], kch918),
  (30, [(0, .inl 0), (1, .inr (false, [(0, 12)])), (2, .inr (true, ar_t64)), (4, .inr (false, [(4, 4)]))], [], kch918),
  (30, [(0, .inl 0), (1, .inr (false, [(0, 12)])), (2, .inr (true, ar_t64)), (4, .inr (false, [(5, 5)]))], [], kch918),
  (30, [(0, .inl 0), (1, .inr (false, [(0, 12)])), (2, .inr (true, ar_t64)), (4, .inr (false, [(6, 6)]))], [], kch918),
  (30, [(0, .inl 0), (1, .inr (false, [(0, 12)])), (2, .inr (true, ar_t64)), (4, .inr (false, [(7, 7)]))], [], kch918),
  (30, [(0, .inl 0), (1, .inr (false, [(0, 12)])), (2, .inr (true, ar_t64)), (4, .inr (false, [(8, 8)]))], [], kch918),
  (30, [(0, .inl 0), (1, .inr (false, [(0, 12)])), (2, .inr (true, ar_t64)), (4, .inr (false, [(9, 9)]))], [], kch918),
  (30, [(0, .inl 0), (1, .inr (false, [(0, 12)])), (2, .inr (true, ar_t64)), (4, .inr (false, [(10, 10)]))], [], kch918),
  (30, [(0, .inl 0), (1, .inr (false, [(0, 12)])), (2, .inr (true, ar_t64)), (4, .inr (false, [(11, 11)]))], [], kch918),
  (30, [(0, .inl 0), (1, .inr (false, [(0, 12)])), (2, .inr (true, ar_t64)), (4, .inr (false, [(12, 12)]))], [], kch918),
  (30, [(0, .inl 0), (1, .inr (false, [(0, 12)])), (2, .inr (true, ar_t64)), (4, .inr (false, [(13, 13)]))], [], kch918),
  (30, [(0, .inl 0), (1, .inr (false, [(0, 12)])), (2, .inr (true, ar_t64)), (4, .inr (false, [(14, 14)]))], [], kch918),
  (30, [(0, .inl 0), (1, .inr (false, [(0, 12)])), (2, .inr (true, ar_t64)), (4, .inr (false, [(15, 15)]))], [], kch918),
  (30, [(0, .inl 0), (1, .inr (false, [(0, 12)])), (2, .inr (true, ar_t64)), (4, .inr (false, [(16, 16)]))], [], kch918)] = true := by decide +kernel
/-- Register.change -/
def kcc1059 : ak_C := (45, [.inl 15, .inr (false, [(3, 3)]), .inr (false, [(0, 0)]), .inr (false, ar_t32)], kch794, [15], [([], some (.inr (false, [(0, 1)])), kch794)])
theorem kck1059 : ai_chk [] kcc1059 (fun pc => sm_ch sm_t45 pc, sm_Kn 1 5 none, fun x => sm_lk sm_ca1 x, some .int) [15] 5 0 [] [] 2000 [] = true := by decide +kernel
/-- MiceRegisters.doTruly -/
def kcc1060 : ak_C := (43, [.inl 0, .inr (false, [(3, 3)]), .inr (false, [(0, 0)]), .inr (false, ar_t32)], kch796, [15, 42, 43, 44, 45], [([], some (.inr (false, [(0, 1)])), kch800)])
theorem kck1060 : ai_chk [kcc0, kcc1059] kcc1060 (fun pc => sm_ch sm_t43 pc, sm_Kn 2 4 none, fun x => sm_lk sm_ca2 x, some .int) [15, 42] 4 0 [] [] 2000 [] = true := by decide +kernel
def kcx1043 : aw_A := .inl (1, [.inr (false, [(0, 8)]), .inr (false, [(0, 4)]), .inr (false, ar_t32), .inr (false, [(0, 0)]), .inr (false, ar_t32), .inl 16, .inl 17, .inl 18, .inl 19, .inl 20, .inl 21, .inl 22, .inl 23])
