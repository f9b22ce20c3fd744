theorem kck14 : ai_chk [] kcc14 (fun pc => sm_ch sm_t5 pc, sm_Kn 2 2 none, fun x => sm_lk sm_ca2 x, some .int) [0] 2 0 [] [] 2000 [] = true := by decide +kernel
def kch11 : aw_H := [(0, kcx2), (3, .inr (.inl (0, 40, [], []))), (4, .inr (.inl (0, 40, [], []))), (5, .inr (.inl (0, 40, [], []))), (6, .inr (.inl (0, 40, [], []))), (7, .inr (.inl (0, 40, [], []))), (8, .inr (.inl (0, 40, [], []))), (80, .inr (.inl (0, 6, [], [])))]
def kch12 : aw_H := [(0, kcx0), (3, .inr (.inl (0, 40, [], []))), (4, .inr (.inl (0, 40, [], []))), (5, .inr (.inl (0, 40, [], []))), (6, .inr (.inl (0, 40, [], []))), (7, .inr (.inl (0, 40, [], []))), (8, .inr (.inl (0, 40, [], []))), (80, .inr (.inl (0, 6, [], [])))]
/-- MiceRegisters.lay -/
def kcc15 : ak_C := (3, [.inl 0, .inr (false, ar_t32), .inr (false, ar_t32), .inr (false, ar_t32)], kch8, [0, 3, 4, 5, 6, 7, 8, 80], [([[], [(-2147483648, -1), (6, 2147483647)], [], []], some (.inr (false, [(-1, -1)])), kch11), ([[], [(0, 5)], [(0, 39)], []], some (.inr (false, [(1, 1)])), kch11), ([[], [(0, 5)], [], []], some (.inr (false, [(-3, -3)])), kch12)])
theorem kck15 : ai_chk [kcc13, kcc14] kcc15 (fun pc => sm_ch sm_t3 pc, sm_Kn 2 6 none, fun x => sm_lk sm_ca2 x, some .int) [0, 3, 4, 5, 6, 7, 8, 80] 6 4 [] [] 2000 [] = true := by decide +kernel
/-- MiceRegisters.at -/
def kcc16 : ak_C := (6, [.inl 0, .inr (false, ar_t32), .inr (false, ar_t32)], kch8, [0, 80], [([[], [(-2147483648, -1), (6, 2147483647)], []], some (.inr (false, [(-1, -1)])), kch3), ([[], [(0, 5)], [(0, 39)]], some (.inr (false, [(1, 1)])), kch3), ([[], [(0, 5)], []], some (.inr (false, [(-3, -3)])), kch1)])
theorem kck16 : ai_chk [kcc13, kcc14] kcc16 (fun pc => sm_ch sm_t6 pc, sm_Kn 2 4 none, fun x => sm_lk sm_ca2 x, some .int) [0, 80] 4 3 [] [] 2000 [] = true := by decide +kernel
def kch13 : aw_H := [(0, kcx0), (1, kcx4), (80, .inr (.inl (0, 6, [], [])))]
/-- MiceRegisters.tear -/
def kcc17 : ak_C := (7, [.inl 0, .inr (false, ar_t32)], kch9, [0, 1, 80], [([[], [(0, 5)]], some (.inr (false, [(-3, -3)])), kch13), ([[], [(0, 5)]], some (.inr (false, [(1, 1)])), kch9), ([[], [(-2147483648, -1), (6, 2147483647)]], some (.inr (false, [(-1, -1)])), kch9)])
theorem kck17 : ai_chk [kcc10, kcc11] kcc17 (fun pc => sm_ch sm_t7 pc, sm_Kn 2 2 none, fun x => sm_lk sm_ca2 x, some .int) [0, 1, 80] 2 2 [] [] 2000 [] = true := by decide +kernel
/-- MiceRegisters.copy -/
def kcc9 : ak_C := (8, [.inl 0, .inr (false, ar_t32), .inr (false, ar_t32), .inr (false, ar_t32), .inr (false, ar_t32), .inr (false, ar_t32)], kch8, [0, 3, 4, 5, 6, 7, 8, 80], [([], some (.inr (false, [(-1, -1)])), kch11), ([], some (.inr (false, [(-3, -3)])), kch11), ([], some (.inr (false, [(1, 1)])), kch11)])
/-- MiceRegisters.mean -/
def kcc18 : ak_C := (10, [.inl 0, .inr (false, ar_t32)], kch8, [0, 80], [([[], [(0, 5)]], some (.inr (false, [(-3, -3)])), kch1), ([[], [(-2147483648, -1), (6, 2147483647)]], some (.inr (false, [(-1, -1)])), kch3), ([[], [(0, 5)]], some (.inr (false, [(1, 1)])), kch3)])
