/-! Contracts over ranges of the reference, and their checks; printed by a program of mine. -/
/-- MiceRegistersModel.in -/
def mgc1449 : ak_C := (105, [.inr (true, ar_t32), .inr (true, [(0, 0)]), .inr (true, [(2, 2)])], [], [], [([[(0, 2)], [], []], some (.inr (false, [(1, 1)])), []), ([[(-2147483648, -1), (3, 2147483647)], [], []], some (.inr (false, [(0, 0)])), [])])
theorem mgk1449 : ai_chk [] mgc1449 (fun pc => sm_ch sm_t105 pc, sm_Kn 3 6 none, fun x => sm_lk sm_ca3 x, some .boolean) [] 6 6 [] [] 2000 [] = true := by decide +kernel
/-- MiceRegistersModel.copyRegister -/
def mgc1450 : ak_C := (156, [.inl 81, .inr (false, [(0, 0)]), .inr (false, [(2832, 2832)])], mgh20234, [82], [([], none, mgh20272)])
/-- MiceRegistersModel.copyRegister -/
def mgc1451 : ak_C := (156, [.inl 81, .inr (false, [(0, 0)]), .inr (false, [(1888, 1888)])], mgh20234, [82], [([], none, mgh20272)])
/-- MiceRegistersModel.copyRegister -/
def mgc1452 : ak_C := (156, [.inl 81, .inr (false, [(0, 0)]), .inr (false, [(944, 944)])], mgh20234, [82], [([], none, mgh20272)])
/-- MiceRegistersModel.keep -/
def mgc1453 : ak_C := (155, [.inl 81, .inr (false, ar_t32)], mgh20234, [82], [([[], [(-2147483648, -1), (3, 2147483647)]], some (.inr (false, [(-1, -1)])), mgh20272), ([[], [(0, 2)]], some (.inr (false, [(-4, -4)])), mgh20272), ([[], [(0, 2)]], some (.inr (false, [(-1, 40)])), mgh20272)])
theorem mgk1453 : ai_chk [mgc1449, mgc1450, mgc1451, mgc1452] mgc1453 (fun pc => sm_ch sm_t155 pc, sm_Kn 3 2 none, fun x => sm_lk sm_ca3 x, some .int) [82] 2 2 [] [(24, some (0, 1, 0), 0, 3)] 2000 [] = true := by decide +kernel
/-- MiceRegistersModel.copyRegister -/
def mgc1454 : ak_C := (156, [.inl 81, .inr (false, [(2832, 2832)]), .inr (false, [(0, 0)])], mgh20234, [82], [([], none, mgh20272)])
/-- MiceRegistersModel.copyRegister -/
def mgc1455 : ak_C := (156, [.inl 81, .inr (false, [(1888, 1888)]), .inr (false, [(0, 0)])], mgh20234, [82], [([], none, mgh20272)])
/-- MiceRegistersModel.copyRegister -/
def mgc1456 : ak_C := (156, [.inl 81, .inr (false, [(944, 944)]), .inr (false, [(0, 0)])], mgh20234, [82], [([], none, mgh20272)])
def mgh20293 : aw_H := [(81, mgx0), (82, ms_r [(0, [(-1, 40)])]), (91, .inr (.inl (0, 6, [], [])))]
def mgh20294 : aw_H := [(81, mgx7), (82, ms_r [(0, [(-1, 40)])]), (91, .inr (.inl (0, 6, [], [])))]
/-- MiceRegistersModel.on -/
def mgc1457 : ak_C := (157, [.inl 81, .inr (false, ar_t32)], mgh20293, [81, 82, 91], [([[], [(-2147483648, -1), (3, 2147483647)]], some (.inr (false, [(-1, -1)])), mgh20293), ([[], [(0, 2)]], some (.inr (false, [(-3, -3)])), mgh20294), ([[], [(0, 2)]], some (.inr (false, [(-1, 40)])), mgh20293)])
theorem mgk1457 : ai_chk [mgc1449, mgc4, mgc1454, mgc1455, mgc1456] mgc1457 (fun pc => sm_ch sm_t157 pc, sm_Kn 3 2 none, fun x => sm_lk sm_ca3 x, some .int) [81, 82, 91] 2 2 [] [(14, some (0, 1, 0), 0, 3)] 2000 [] = true := by decide +kernel
/-- MiceRegistersModel.in -/
def mgc1458 : ak_C := (105, [.inr (true, ar_t32), .inr (true, [(0, 0)]), .inr (true, [(9, 9)])], [], [], [([[(0, 9)], [], []], some (.inr (false, [(1, 1)])), []), ([[(-2147483648, -1), (10, 2147483647)], [], []], some (.inr (false, [(0, 0)])), [])])
theorem mgk1458 : ai_chk [] mgc1458 (fun pc => sm_ch sm_t105 pc, sm_Kn 3 6 none, fun x => sm_lk sm_ca3 x, some .boolean) [] 6 6 [] [] 2000 [] = true := by decide +kernel
/-- MiceRegistersModel.in -/
def mgc1459 : ak_C := (105, [.inr (true, ar_t32), .inr (true, [(0, 0)]), .inr (true, [(20, 20)])], [], [], [([[(0, 20)], [], []], some (.inr (false, [(1, 1)])), []), ([[(-2147483648, -1), (21, 2147483647)], [], []], some (.inr (false, [(0, 0)])), [])])
theorem mgk1459 : ai_chk [] mgc1459 (fun pc => sm_ch sm_t105 pc, sm_Kn 3 6 none, fun x => sm_lk sm_ca3 x, some .boolean) [] 6 6 [] [] 2000 [] = true := by decide +kernel
/-- MiceRegistersModel.in -/
def mgc1460 : ak_C := (105, [.inr (true, ar_t32), .inr (true, [(0, 0)]), .inr (true, [(7, 7)])], [], [], [([[(0, 7)], [], []], some (.inr (false, [(1, 1)])), []), ([[(-2147483648, -1), (8, 2147483647)], [], []], some (.inr (false, [(0, 0)])), [])])
theorem mgk1460 : ai_chk [] mgc1460 (fun pc => sm_ch sm_t105 pc, sm_Kn 3 6 none, fun x => sm_lk sm_ca3 x, some .boolean) [] 6 6 [] [] 2000 [] = true := by decide +kernel
/-- MiceRegistersModel.likes -/
def mgh20295 : aw_H := [(81, mgx0), (85, .inr (.inl (0, 4, [], [])))]
def mgc1461 : ak_C := (158, [.inl 81, .inr (false, ar_t32), .inr (false, ar_t32), .inr (false, ar_t32), .inr (false, ar_t32)], mgh20295, [81], [([[], [], [], [], []], some (.inr (false, [(-1, -1)])), mgh14), ([[], [(0, 3)], [(0, 9)], [(0, 20)], [(0, 7)]], some (.inr (false, [(1, 1)])), mgh14)])
theorem mgk1461 : ai_chk [mgc1435, mgc1458, mgc1459, mgc1460, mgc1428, mgc9] mgc1461 (fun pc => sm_ch sm_t158 pc, sm_Kn 3 5 none, fun x => sm_lk sm_ca3 x, some .int) [81] 5 5 [] [] 2000 [] = true := by decide +kernel
/-- MiceRegistersModel.in -/
def mgc1462 : ak_C := (105, [.inr (true, ar_t32), .inr (true, [(0, 0)]), .inr (true, [(40, 40)])], [], [], [([[(0, 40)], [], []], some (.inr (false, [(1, 1)])), []), ([[(-2147483648, -1), (41, 2147483647)], [], []], some (.inr (false, [(0, 0)])), [])])
theorem mgk1462 : ai_chk [] mgc1462 (fun pc => sm_ch sm_t105 pc, sm_Kn 3 6 none, fun x => sm_lk sm_ca3 x, some .boolean) [] 6 6 [] [] 2000 [] = true := by decide +kernel
/-- MiceRegistersModel.layTried -/
def mgc1463 : ak_C := (160, [.inl 81], mgh20234, [82], [([], none, mgh20272)])
theorem mgk1463 : ai_chk [] mgc1463 (fun pc => sm_ch sm_t160 pc, sm_Kn 3 2 none, fun x => sm_lk sm_ca3 x, none) [82] 2 0 [2] [] 2000 [(2, [(0, .inl 81), (1, .inr (false, [(0, 0)]))], [], mgh20234),
  (2, [(0, .inl 81), (1, .inr (false, [(1, 1)]))], [], mgh20234),
  (2, [(0, .inl 81), (1, .inr (false, [(2, 2)]))], [], mgh20234),
  (2, [(0, .inl 81), (1, .inr (false, [(3, 3)]))], [], mgh20234),
  (2, [(0, .inl 81), (1, .inr (false, [(4, 4)]))], [], mgh20234),
  (2, [(0, .inl 81), (1, .inr (false, [(5, 5)]))], [], mgh20234),
  (2, [(0, .inl 81), (1, .inr (false, [(6, 6)]))], [], mgh20234),
  (2, [(0, .inl 81), (1, .inr (false, [(7, 7)]))], [], mgh20234),
  (2, [(0, .inl 81), (1, .inr (false, [(8, 8)]))], [], mgh20234),
  (2, [(0, .inl 81), (1, .inr (false, [(9, 9)]))], [], mgh20234),
  (2, [(0, .inl 81), (1, .inr (false, [(10, 10)]))], [], mgh20234),
  (2, [(0, .inl 81), (1, .inr (false, [(11, 11)]))], [], mgh20234),
  (2, [(0, .inl 81), (1, .inr (false, [(12, 12)]))], [], mgh20234),
  (2, [(0, .inl 81), (1, .inr (false, [(13, 13)]))], [], mgh20234),
  (2, [(0, .inl 81), (1, .inr (false, [(14, 14)]))], [], mgh20234),
  (2, [(0, .inl 81), (1, .inr (false, [(15, 15)]))], [], mgh20234),
  (2, [(0, .inl 81), (1, .inr (false, [(16, 16)]))], [], mgh20234),
  (2, [(0, .inl 81), (1, .inr (false, [(17, 17)]))], [], mgh20234),
  (2, [(0, .inl 81), (1, .inr (false, [(18, 18)]))], [], mgh20234),
  (2, [(0, .inl 81), (1, .inr (false, [(19, 19)]))], [], mgh20234),
  (2, [(0, .inl 81), (1, .inr (false, [(20, 20)]))], [], mgh20234),
  (2, [(0, .inl 81), (1, .inr (false, [(21, 21)]))], [], mgh20234),
  (2, [(0, .inl 81), (1, .inr (false, [(22, 22)]))], [], mgh20234),
  (2, [(0, .inl 81), (1, .inr (false, [(23, 23)]))], [], mgh20234),
  (2, [(0, .inl 81), (1, .inr (false, [(24, 24)]))], [], mgh20234)] = true := by decide +kernel
/-- MiceRegistersModel.farOf -/
def mgc1464 : ak_C := (137, [.inl 81, .inr (false, [(3776, 3776)]), .inr (false, [(0, 3)]), .inr (false, [(0, 7)])], mgh20234, [], [([], some (.inr (false, [(0, 7)])), [])])
theorem mgk1464 : ai_chk [] mgc1464 (fun pc => sm_ch sm_t137 pc, sm_Kn 3 5 none, fun x => sm_lk sm_ca3 x, some .int) [] 5 0 [] [] 2000 [] = true := by decide +kernel
/-- MiceRegistersModel.likesIn -/
def mgc1465 : ak_C := (136, [.inl 81, .inr (false, [(3776, 3776)]), .inr (false, [(0, 3)]), .inr (false, [(0, 7)])], mgh20235, [], [([], some (.inr (false, ar_t32)), [])])
theorem mgk1465 : ai_chk [mgc1464, mgc1428] mgc1465 (fun pc => sm_ch sm_t136 pc, sm_Kn 3 4 none, fun x => sm_lk sm_ca3 x, some .int) [] 4 0 [] [] 2000 [] = true := by decide +kernel
/-- MiceRegistersModel.wants -/
def mgc1466 : ak_C := (134, [.inl 81, .inr (false, [(3776, 3776)]), .inr (false, [(0, 3)])], mgh20235, [], [([], some (.inr (false, [(-9, -9)])), []), ([], some (.inr (false, [(-9, -9), (0, 7)])), [])])
def mgh20296 : aw_H := [(81, mgx20236), (82, ms_r [(0, [(-1, 40)]), (3780, ar_t32)]), (83, .inr (.inl (0, 8, [], []))), (85, .inr (.inl (0, 4, [], [])))]
def mgx20297 : aw_A := ms_r [(0, [(-1, 40)]), (3780, ar_t32), (3781, ar_t32)]
def mgh20298 : aw_H := [(81, mgx20238), (82, mgx20297), (83, .inr (.inl (0, 8, [], []))), (85, .inr (.inl (0, 4, [], [])))]
def mgx20299 : aw_A := ms_r [(0, [(-1, 40)]), (3780, ar_t32), (3781, ar_t32), (3782, ar_t32)]
def mgh20300 : aw_H := [(81, mgx20241), (82, mgx20299), (83, .inr (.inl (0, 8, [], []))), (85, .inr (.inl (0, 4, [], [])))]
def mgx20301 : aw_A := ms_r [(0, [(-1, 40)]), (3780, ar_t32), (3781, ar_t32), (3782, ar_t32), (3783, ar_t32)]
def mgh20302 : aw_H := [(81, mgx20244), (82, mgx20301), (83, .inr (.inl (0, 8, [], []))), (85, .inr (.inl (0, 4, [], [])))]
def mgx20303 : aw_A := ms_r [(0, [(-1, 40)]), (3780, ar_t32), (3781, ar_t32), (3782, ar_t32), (3783, ar_t32), (3784, ar_t32)]
def mgh20304 : aw_H := [(81, mgx20247), (82, mgx20303), (83, .inr (.inl (0, 8, [], []))), (85, .inr (.inl (0, 4, [], [])))]
def mgx20305 : aw_A := ms_r [(0, [(-1, 40)]), (3780, ar_t32), (3781, ar_t32), (3782, ar_t32), (3783, ar_t32), (3784, ar_t32), (3785, ar_t32)]
def mgh20306 : aw_H := [(81, mgx20250), (82, mgx20305), (83, .inr (.inl (0, 8, [], []))), (85, .inr (.inl (0, 4, [], [])))]
def mgx20307 : aw_A := ms_r [(0, [(-1, 40)]), (3780, ar_t32), (3781, ar_t32), (3782, ar_t32), (3783, ar_t32), (3784, ar_t32), (3785, ar_t32), (3786, ar_t32)]
def mgh20308 : aw_H := [(81, mgx20253), (82, mgx20307), (83, .inr (.inl (0, 8, [], []))), (85, .inr (.inl (0, 4, [], [])))]
def mgx20309 : aw_A := ms_r [(0, [(-1, 40)]), (3780, ar_t32), (3781, ar_t32), (3782, ar_t32), (3783, ar_t32), (3784, ar_t32), (3785, ar_t32), (3786, ar_t32), (3787, ar_t32)]
def mgh20310 : aw_H := [(81, mgx20256), (82, mgx20309), (83, .inr (.inl (0, 8, [], []))), (85, .inr (.inl (0, 4, [], [])))]
def mgn1466_0 : List (Nat × aw_S) := [(9, [(0, .inl 81), (1, .inr (false, [(3776, 3776)])), (2, .inr (false, [(0, 3)])), (3, .inr (false, [(-9, -9)])), (4, .inr (false, [(0, 0)])), (5, .inr (false, [(0, 0)]))], [], mgh20235),
  (9, [(0, .inl 81), (1, .inr (false, [(3776, 3776)])), (2, .inr (false, [(0, 3)])), (3, .inr (false, [(-9, -9), (0, 0)])), (4, .inr (false, [(0, 2147483647)])), (5, .inr (false, [(1, 1)])), (6, .inr (false, [(0, 1)])), (7, .inr (false, ar_t32)), (8, .inr (false, [(0, 1)]))], [], mgh20296),
  (9, [(0, .inl 81), (1, .inr (false, [(3776, 3776)])), (2, .inr (false, [(0, 3)])), (3, .inr (false, [(-9, -9), (0, 1)])), (4, .inr (false, [(0, 2147483647)])), (5, .inr (false, [(2, 2)])), (6, .inr (false, [(0, 1)])), (7, .inr (false, ar_t32)), (8, .inr (false, [(0, 1)]))], [], mgh20298),
  (9, [(0, .inl 81), (1, .inr (false, [(3776, 3776)])), (2, .inr (false, [(0, 3)])), (3, .inr (false, [(-9, -9), (0, 2)])), (4, .inr (false, [(0, 2147483647)])), (5, .inr (false, [(3, 3)])), (6, .inr (false, [(0, 1)])), (7, .inr (false, ar_t32)), (8, .inr (false, [(0, 1)]))], [], mgh20300),
  (9, [(0, .inl 81), (1, .inr (false, [(3776, 3776)])), (2, .inr (false, [(0, 3)])), (3, .inr (false, [(-9, -9), (0, 3)])), (4, .inr (false, [(0, 2147483647)])), (5, .inr (false, [(4, 4)])), (6, .inr (false, [(0, 1)])), (7, .inr (false, ar_t32)), (8, .inr (false, [(0, 1)]))], [], mgh20302),
  (9, [(0, .inl 81), (1, .inr (false, [(3776, 3776)])), (2, .inr (false, [(0, 3)])), (3, .inr (false, [(-9, -9), (0, 4)])), (4, .inr (false, [(0, 2147483647)])), (5, .inr (false, [(5, 5)])), (6, .inr (false, [(0, 1)])), (7, .inr (false, ar_t32)), (8, .inr (false, [(0, 1)]))], [], mgh20304),
  (9, [(0, .inl 81), (1, .inr (false, [(3776, 3776)])), (2, .inr (false, [(0, 3)])), (3, .inr (false, [(-9, -9), (0, 5)])), (4, .inr (false, [(0, 2147483647)])), (5, .inr (false, [(6, 6)])), (6, .inr (false, [(0, 1)])), (7, .inr (false, ar_t32)), (8, .inr (false, [(0, 1)]))], [], mgh20306)]
def mgn1466_1 : List (Nat × aw_S) := [(9, [(0, .inl 81), (1, .inr (false, [(3776, 3776)])), (2, .inr (false, [(0, 3)])), (3, .inr (false, [(-9, -9), (0, 6)])), (4, .inr (false, [(0, 2147483647)])), (5, .inr (false, [(7, 7)])), (6, .inr (false, [(0, 1)])), (7, .inr (false, ar_t32)), (8, .inr (false, [(0, 1)]))], [], mgh20308),
  (9, [(0, .inl 81), (1, .inr (false, [(3776, 3776)])), (2, .inr (false, [(0, 3)])), (3, .inr (false, [(-9, -9), (0, 7)])), (4, .inr (false, [(0, 2147483647)])), (5, .inr (false, [(8, 8)])), (6, .inr (false, [(0, 1)])), (7, .inr (false, ar_t32)), (8, .inr (false, [(0, 1)]))], [], mgh20310)]
def mgb1466 : sm_P := (fun pc => sm_ch sm_t134 pc, sm_Kn 3 9 none, fun x => sm_lk sm_ca3 x, some .int)
set_option maxRecDepth 100000 in
theorem mgk1466_e : ai_nd2 [mgc1426, mgc1465, mgc1464] mgc1466 mgb1466 [] 0 [9] [] 2000 [(0, ai_lv mgc1466.2.1 0, [], mgc1466.2.2.1)] (mgn1466_0 ++ (mgn1466_1 ++ [])) = true := by decide +kernel
set_option maxRecDepth 100000 in
theorem mgk1466_0 : ai_nd2 [mgc1426, mgc1465, mgc1464] mgc1466 mgb1466 [] 0 [9] [] 2000 mgn1466_0 (mgn1466_1 ++ []) = true := by decide +kernel
set_option maxRecDepth 100000 in
theorem mgk1466_1 : ai_nd2 [mgc1426, mgc1465, mgc1464] mgc1466 mgb1466 [] 0 [9] [] 2000 mgn1466_1 [] = true := by decide +kernel
set_option maxRecDepth 100000 in
theorem mgk1466 : ai_chk [mgc1426, mgc1465, mgc1464] mgc1466 mgb1466 [] 9 0 [9] [] 2000 (mgn1466_0 ++ (mgn1466_1 ++ [])) = true := ai_chk_of (by decide +kernel) (ai_nd2_s (ai_nd2_s (ai_nd2_s rfl mgk1466_1) mgk1466_0) mgk1466_e)
/-- MiceRegistersModel.passes -/
def mgc1467 : ak_C := (150, [.inl 81, .inr (false, [(3776, 3776)]), .inr (false, ar_t32)], mgh20269, [82], [([], some (.inr (false, ar_t32)), mgh20272)])
def mgh20311 : aw_H := [(81, mgx20236), (82, ms_r [(3788, ar_t32), (0, [(-1, 40)])]), (83, .inr (.inl (0, 8, [], []))), (85, .inr (.inl (0, 4, [], []))), (86, .inr (.inl (0, 4, [], [])))]
def mgx20312 : aw_A := ms_r [(3789, ar_t32), (3788, ar_t32), (0, [(-1, 40)])]
def mgh20313 : aw_H := [(81, mgx20238), (82, mgx20312), (83, .inr (.inl (0, 8, [], []))), (85, .inr (.inl (0, 4, [], []))), (86, .inr (.inl (0, 4, [], [])))]
def mgx20314 : aw_A := ms_r [(3790, ar_t32), (3789, ar_t32), (3788, ar_t32), (0, [(-1, 40)])]
def mgh20315 : aw_H := [(81, mgx20241), (82, mgx20314), (83, .inr (.inl (0, 8, [], []))), (85, .inr (.inl (0, 4, [], []))), (86, .inr (.inl (0, 4, [], [])))]
def mgx20316 : aw_A := ms_r [(3791, ar_t32), (3790, ar_t32), (3789, ar_t32), (3788, ar_t32), (0, [(-1, 40)])]
def mgh20317 : aw_H := [(81, mgx20244), (82, mgx20316), (83, .inr (.inl (0, 8, [], []))), (85, .inr (.inl (0, 4, [], []))), (86, .inr (.inl (0, 4, [], [])))]
def mgx20318 : aw_A := ms_r [(3792, ar_t32), (3791, ar_t32), (3790, ar_t32), (3789, ar_t32), (3788, ar_t32), (0, [(-1, 40)])]
def mgh20319 : aw_H := [(81, mgx20247), (82, mgx20318), (83, .inr (.inl (0, 8, [], []))), (85, .inr (.inl (0, 4, [], []))), (86, .inr (.inl (0, 4, [], [])))]
def mgx20320 : aw_A := ms_r [(3793, ar_t32), (3792, ar_t32), (3791, ar_t32), (3790, ar_t32), (3789, ar_t32), (3788, ar_t32), (0, [(-1, 40)])]
def mgh20321 : aw_H := [(81, mgx20250), (82, mgx20320), (83, .inr (.inl (0, 8, [], []))), (85, .inr (.inl (0, 4, [], []))), (86, .inr (.inl (0, 4, [], [])))]
def mgx20322 : aw_A := ms_r [(3794, ar_t32), (3793, ar_t32), (3792, ar_t32), (3791, ar_t32), (3790, ar_t32), (3789, ar_t32), (3788, ar_t32), (0, [(-1, 40)])]
def mgh20323 : aw_H := [(81, mgx20253), (82, mgx20322), (83, .inr (.inl (0, 8, [], []))), (85, .inr (.inl (0, 4, [], []))), (86, .inr (.inl (0, 4, [], [])))]
def mgx20324 : aw_A := ms_r [(3795, ar_t32), (3794, ar_t32), (3793, ar_t32), (3792, ar_t32), (3791, ar_t32), (3790, ar_t32), (3789, ar_t32), (3788, ar_t32), (0, [(-1, 40)])]
def mgh20325 : aw_H := [(81, mgx20256), (82, mgx20324), (83, .inr (.inl (0, 8, [], []))), (85, .inr (.inl (0, 4, [], []))), (86, .inr (.inl (0, 4, [], [])))]
theorem mgk1467 : ai_chk [mgc1426, mgc1466, mgc1437] mgc1467 (fun pc => sm_ch sm_t150 pc, sm_Kn 3 7 none, fun x => sm_lk sm_ca3 x, some .int) [82] 7 0 [5, 130] [] 2000 [(5, [(0, .inl 81), (1, .inr (false, [(3776, 3776)])), (2, .inr (false, ar_t32)), (3, .inr (false, [(0, 0)])), (4, .inr (false, [(0, 0)]))], [], mgh20269),
  (5, [(0, .inl 81), (1, .inr (false, [(3776, 3776)])), (2, .inr (false, ar_t32)), (3, .inr (false, ar_t32)), (4, .inr (false, [(1, 1)])), (5, .inr (false, [(-9, -9), (0, 7)]))], [], mgh20273),
  (5, [(0, .inl 81), (1, .inr (false, [(3776, 3776)])), (2, .inr (false, ar_t32)), (3, .inr (false, ar_t32)), (4, .inr (false, [(2, 2)])), (5, .inr (false, [(-9, -9), (0, 7)]))], [], mgh20274),
  (5, [(0, .inl 81), (1, .inr (false, [(3776, 3776)])), (2, .inr (false, ar_t32)), (3, .inr (false, ar_t32)), (4, .inr (false, [(3, 3)])), (5, .inr (false, [(-9, -9), (0, 7)]))], [], mgh20275),
  (5, [(0, .inl 81), (1, .inr (false, [(3776, 3776)])), (2, .inr (false, ar_t32)), (3, .inr (false, ar_t32)), (4, .inr (false, [(4, 4)])), (5, .inr (false, [(-9, -9), (0, 7)]))], [], mgh20276),
  (130, [(0, .inl 81), (1, .inr (false, [(3776, 3776)])), (2, .inr (false, ar_t32)), (3, .inr (false, ar_t32)), (4, .inr (false, [(0, 0)]))], [], mgh20269),
  (130, [(0, .inl 81), (1, .inr (false, [(3776, 3776)])), (2, .inr (false, ar_t32)), (3, .inr (false, ar_t32)), (4, .inr (false, [(1, 1)]))], [], mgh20311),
  (130, [(0, .inl 81), (1, .inr (false, [(3776, 3776)])), (2, .inr (false, ar_t32)), (3, .inr (false, ar_t32)), (4, .inr (false, [(2, 2)]))], [], mgh20313),
  (130, [(0, .inl 81), (1, .inr (false, [(3776, 3776)])), (2, .inr (false, ar_t32)), (3, .inr (false, ar_t32)), (4, .inr (false, [(3, 3)]))], [], mgh20315),
  (130, [(0, .inl 81), (1, .inr (false, [(3776, 3776)])), (2, .inr (false, ar_t32)), (3, .inr (false, ar_t32)), (4, .inr (false, [(4, 4)]))], [], mgh20317),
  (130, [(0, .inl 81), (1, .inr (false, [(3776, 3776)])), (2, .inr (false, ar_t32)), (3, .inr (false, ar_t32)), (4, .inr (false, [(5, 5)]))], [], mgh20319),
  (130, [(0, .inl 81), (1, .inr (false, [(3776, 3776)])), (2, .inr (false, ar_t32)), (3, .inr (false, ar_t32)), (4, .inr (false, [(6, 6)]))], [], mgh20321),
  (130, [(0, .inl 81), (1, .inr (false, [(3776, 3776)])), (2, .inr (false, ar_t32)), (3, .inr (false, ar_t32)), (4, .inr (false, [(7, 7)]))], [], mgh20323),
  (130, [(0, .inl 81), (1, .inr (false, [(3776, 3776)])), (2, .inr (false, ar_t32)), (3, .inr (false, ar_t32)), (4, .inr (false, [(8, 8)]))], [], mgh20325)] = true := by decide +kernel
/-- MiceRegistersModel.passTried -/
def mgc1468 : ak_C := (161, [.inl 81, .inr (false, [(0, 40)])], mgh20269, [82], [([], none, mgh20272)])
theorem mgk1468 : ai_chk [mgc1467] mgc1468 (fun pc => sm_ch sm_t161 pc, sm_Kn 3 3 none, fun x => sm_lk sm_ca3 x, none) [82] 3 0 [2] [] 2000 [(2, [(0, .inl 81), (1, .inr (false, [(0, 40)])), (2, .inr (false, [(0, 0)]))], [], mgh20269),
  (2, [(0, .inl 81), (1, .inr (false, [(1, 40)])), (2, .inr (false, [(1, 1)]))], [], mgh20269),
  (2, [(0, .inl 81), (1, .inr (false, [(2, 40)])), (2, .inr (false, [(2, 2)]))], [], mgh20269),
  (2, [(0, .inl 81), (1, .inr (false, [(3, 40)])), (2, .inr (false, [(3, 3)]))], [], mgh20269),
  (2, [(0, .inl 81), (1, .inr (false, [(4, 40)])), (2, .inr (false, [(4, 4)]))], [], mgh20269),
  (2, [(0, .inl 81), (1, .inr (false, [(5, 40)])), (2, .inr (false, [(5, 5)]))], [], mgh20269),
  (2, [(0, .inl 81), (1, .inr (false, [(6, 40)])), (2, .inr (false, [(6, 6)]))], [], mgh20269),
  (2, [(0, .inl 81), (1, .inr (false, [(7, 40)])), (2, .inr (false, [(7, 7)]))], [], mgh20269),
  (2, [(0, .inl 81), (1, .inr (false, [(8, 40)])), (2, .inr (false, [(8, 8)]))], [], mgh20269),
  (2, [(0, .inl 81), (1, .inr (false, [(9, 40)])), (2, .inr (false, [(9, 9)]))], [], mgh20269),
  (2, [(0, .inl 81), (1, .inr (false, [(10, 40)])), (2, .inr (false, [(10, 10)]))], [], mgh20269),
  (2, [(0, .inl 81), (1, .inr (false, [(11, 40)])), (2, .inr (false, [(11, 11)]))], [], mgh20269),
  (2, [(0, .inl 81), (1, .inr (false, [(12, 40)])), (2, .inr (false, [(12, 12)]))], [], mgh20269),
  (2, [(0, .inl 81), (1, .inr (false, [(13, 40)])), (2, .inr (false, [(13, 13)]))], [], mgh20269),
  (2, [(0, .inl 81), (1, .inr (false, [(14, 40)])), (2, .inr (false, [(14, 14)]))], [], mgh20269),
  (2, [(0, .inl 81), (1, .inr (false, [(15, 40)])), (2, .inr (false, [(15, 15)]))], [], mgh20269),
  (2, [(0, .inl 81), (1, .inr (false, [(16, 40)])), (2, .inr (false, [(16, 16)]))], [], mgh20269),
  (2, [(0, .inl 81), (1, .inr (false, [(17, 40)])), (2, .inr (false, [(17, 17)]))], [], mgh20269),
  (2, [(0, .inl 81), (1, .inr (false, [(18, 40)])), (2, .inr (false, [(18, 18)]))], [], mgh20269),
  (2, [(0, .inl 81), (1, .inr (false, [(19, 40)])), (2, .inr (false, [(19, 19)]))], [], mgh20269),
  (2, [(0, .inl 81), (1, .inr (false, [(20, 40)])), (2, .inr (false, [(20, 20)]))], [], mgh20269),
  (2, [(0, .inl 81), (1, .inr (false, [(21, 40)])), (2, .inr (false, [(21, 21)]))], [], mgh20269),
  (2, [(0, .inl 81), (1, .inr (false, [(22, 40)])), (2, .inr (false, [(22, 22)]))], [], mgh20269),
  (2, [(0, .inl 81), (1, .inr (false, [(23, 40)])), (2, .inr (false, [(23, 23)]))], [], mgh20269),
  (2, [(0, .inl 81), (1, .inr (false, [(24, 40)])), (2, .inr (false, [(24, 24)]))], [], mgh20269),
  (2, [(0, .inl 81), (1, .inr (false, [(25, 40)])), (2, .inr (false, [(25, 25)]))], [], mgh20269),
  (2, [(0, .inl 81), (1, .inr (false, [(26, 40)])), (2, .inr (false, [(26, 26)]))], [], mgh20269),
  (2, [(0, .inl 81), (1, .inr (false, [(27, 40)])), (2, .inr (false, [(27, 27)]))], [], mgh20269),
  (2, [(0, .inl 81), (1, .inr (false, [(28, 40)])), (2, .inr (false, [(28, 28)]))], [], mgh20269),
  (2, [(0, .inl 81), (1, .inr (false, [(29, 40)])), (2, .inr (false, [(29, 29)]))], [], mgh20269),
  (2, [(0, .inl 81), (1, .inr (false, [(30, 40)])), (2, .inr (false, [(30, 30)]))], [], mgh20269),
  (2, [(0, .inl 81), (1, .inr (false, [(31, 40)])), (2, .inr (false, [(31, 31)]))], [], mgh20269),
  (2, [(0, .inl 81), (1, .inr (false, [(32, 40)])), (2, .inr (false, [(32, 32)]))], [], mgh20269),
  (2, [(0, .inl 81), (1, .inr (false, [(33, 40)])), (2, .inr (false, [(33, 33)]))], [], mgh20269),
  (2, [(0, .inl 81), (1, .inr (false, [(34, 40)])), (2, .inr (false, [(34, 34)]))], [], mgh20269),
  (2, [(0, .inl 81), (1, .inr (false, [(35, 40)])), (2, .inr (false, [(35, 35)]))], [], mgh20269),
  (2, [(0, .inl 81), (1, .inr (false, [(36, 40)])), (2, .inr (false, [(36, 36)]))], [], mgh20269),
  (2, [(0, .inl 81), (1, .inr (false, [(37, 40)])), (2, .inr (false, [(37, 37)]))], [], mgh20269),
  (2, [(0, .inl 81), (1, .inr (false, [(38, 40)])), (2, .inr (false, [(38, 38)]))], [], mgh20269),
  (2, [(0, .inl 81), (1, .inr (false, [(39, 40)])), (2, .inr (false, [(39, 39)]))], [], mgh20269),
  (2, [(0, .inl 81), (1, .inr (false, [(40, 40)])), (2, .inr (false, [(40, 40)]))], [], mgh20269)] = true := by decide +kernel
/-- MiceRegistersModel.left -/
def mgc1469 : ak_C := (159, [.inl 81, .inr (false, ar_t32), .inr (false, ar_t32)], mgh20269, [82], [([[], [], []], some (.inr (false, [(-1, -1)])), mgh20272), ([[], [(0, 7)], [(0, 40)]], some (.inr (false, ar_t32)), mgh20272)])
theorem mgk1469 : ai_chk [mgc1425, mgc1462, mgc1463, mgc1468] mgc1469 (fun pc => sm_ch sm_t159 pc, sm_Kn 3 3 none, fun x => sm_lk sm_ca3 x, some .int) [82] 3 3 [] [] 2000 [] = true := by decide +kernel
/-- MiceRegistersModel.eatenAt -/
def mgc1470 : ak_C := (163, [.inl 81, .inr (false, [(3776, 3776)])], mgh20234, [], [([], some (.inr (false, [(0, 0)])), []), ([], some (.inr (false, ar_t32)), [])])
def mgh20326 : aw_H := [(81, mgx20236), (82, ms_r [(0, [(-1, 40)]), (3780, ar_t32)])]
def mgh20327 : aw_H := [(81, mgx20238), (82, mgx20297)]
def mgh20328 : aw_H := [(81, mgx20241), (82, mgx20299)]
def mgh20329 : aw_H := [(81, mgx20244), (82, mgx20301)]
def mgh20330 : aw_H := [(81, mgx20247), (82, mgx20303)]
def mgh20331 : aw_H := [(81, mgx20250), (82, mgx20305)]
def mgh20332 : aw_H := [(81, mgx20253), (82, mgx20307)]
def mgh20333 : aw_H := [(81, mgx20256), (82, mgx20309)]
theorem mgk1470 : ai_chk [] mgc1470 (fun pc => sm_ch sm_t163 pc, sm_Kn 3 4 none, fun x => sm_lk sm_ca3 x, some .int) [] 4 0 [4] [] 2000 [(4, [(0, .inl 81), (1, .inr (false, [(3776, 3776)])), (2, .inr (false, [(0, 0)])), (3, .inr (false, [(0, 0)]))], [], mgh20234),
  (4, [(0, .inl 81), (1, .inr (false, [(3776, 3776)])), (2, .inr (false, [(0, 1)])), (3, .inr (false, [(1, 1)]))], [], mgh20326),
  (4, [(0, .inl 81), (1, .inr (false, [(3776, 3776)])), (2, .inr (false, ar_t32)), (3, .inr (false, [(2, 2)]))], [], mgh20327),
  (4, [(0, .inl 81), (1, .inr (false, [(3776, 3776)])), (2, .inr (false, ar_t32)), (3, .inr (false, [(3, 3)]))], [], mgh20328),
  (4, [(0, .inl 81), (1, .inr (false, [(3776, 3776)])), (2, .inr (false, ar_t32)), (3, .inr (false, [(4, 4)]))], [], mgh20329),
  (4, [(0, .inl 81), (1, .inr (false, [(3776, 3776)])), (2, .inr (false, ar_t32)), (3, .inr (false, [(5, 5)]))], [], mgh20330),
  (4, [(0, .inl 81), (1, .inr (false, [(3776, 3776)])), (2, .inr (false, ar_t32)), (3, .inr (false, [(6, 6)]))], [], mgh20331),
  (4, [(0, .inl 81), (1, .inr (false, [(3776, 3776)])), (2, .inr (false, ar_t32)), (3, .inr (false, [(7, 7)]))], [], mgh20332),
  (4, [(0, .inl 81), (1, .inr (false, [(3776, 3776)])), (2, .inr (false, ar_t32)), (3, .inr (false, [(8, 8)]))], [], mgh20333)] = true := by decide +kernel
/-- MiceRegistersModel.eaten -/
def mgc1471 : ak_C := (162, [.inl 81, .inr (false, ar_t32)], mgh20269, [82], [([[], [(-2147483648, -1), (41, 2147483647)]], some (.inr (false, [(-1, -1)])), mgh20272), ([[], [(0, 40)]], some (.inr (false, [(-4, -4)])), mgh20272), ([[], [(0, 40)]], some (.inr (false, ar_t32)), mgh20272), ([[], [(0, 40)]], some (.inr (false, [(0, 0)])), mgh20272)])
theorem mgk1471 : ai_chk [mgc1462, mgc1463, mgc1468, mgc1470] mgc1471 (fun pc => sm_ch sm_t162 pc, sm_Kn 3 2 none, fun x => sm_lk sm_ca3 x, some .int) [82] 2 2 [] [] 2000 [] = true := by decide +kernel
/-- MiceRegistersModel.when -/
def mgc1472 : ak_C := (164, [.inl 81, .inr (false, ar_t32)], mgh20269, [82], [([[], []], some (.inr (false, [(-1, -1)])), mgh20272), ([[], [(0, 7)]], some (.inr (false, [(0, 0)])), mgh20272), ([[], [(0, 7)]], some (.inr (false, [(1, 40)])), mgh20272), ([[], [(0, 7)]], some (.inr (false, [(-9, -9)])), mgh20272)])
theorem mgk1472 : ai_chk [mgc1425, mgc1463, mgc1468] mgc1472 (fun pc => sm_ch sm_t164 pc, sm_Kn 3 3 none, fun x => sm_lk sm_ca3 x, some .int) [82] 3 2 [16] [] 2000 [(16, [(0, .inl 81), (1, .inr (false, [(0, 7)])), (2, .inr (false, [(0, 0)]))], [], mgh20269),
  (16, [(0, .inl 81), (1, .inr (false, [(0, 7)])), (2, .inr (false, [(1, 1)]))], [], mgh20269),
  (16, [(0, .inl 81), (1, .inr (false, [(0, 7)])), (2, .inr (false, [(2, 2)]))], [], mgh20269),
  (16, [(0, .inl 81), (1, .inr (false, [(0, 7)])), (2, .inr (false, [(3, 3)]))], [], mgh20269),
  (16, [(0, .inl 81), (1, .inr (false, [(0, 7)])), (2, .inr (false, [(4, 4)]))], [], mgh20269),
  (16, [(0, .inl 81), (1, .inr (false, [(0, 7)])), (2, .inr (false, [(5, 5)]))], [], mgh20269),
  (16, [(0, .inl 81), (1, .inr (false, [(0, 7)])), (2, .inr (false, [(6, 6)]))], [], mgh20269),
  (16, [(0, .inl 81), (1, .inr (false, [(0, 7)])), (2, .inr (false, [(7, 7)]))], [], mgh20269),
  (16, [(0, .inl 81), (1, .inr (false, [(0, 7)])), (2, .inr (false, [(8, 8)]))], [], mgh20269),
  (16, [(0, .inl 81), (1, .inr (false, [(0, 7)])), (2, .inr (false, [(9, 9)]))], [], mgh20269),
  (16, [(0, .inl 81), (1, .inr (false, [(0, 7)])), (2, .inr (false, [(10, 10)]))], [], mgh20269),
  (16, [(0, .inl 81), (1, .inr (false, [(0, 7)])), (2, .inr (false, [(11, 11)]))], [], mgh20269),
  (16, [(0, .inl 81), (1, .inr (false, [(0, 7)])), (2, .inr (false, [(12, 12)]))], [], mgh20269),
  (16, [(0, .inl 81), (1, .inr (false, [(0, 7)])), (2, .inr (false, [(13, 13)]))], [], mgh20269),
  (16, [(0, .inl 81), (1, .inr (false, [(0, 7)])), (2, .inr (false, [(14, 14)]))], [], mgh20269),
  (16, [(0, .inl 81), (1, .inr (false, [(0, 7)])), (2, .inr (false, [(15, 15)]))], [], mgh20269),
  (16, [(0, .inl 81), (1, .inr (false, [(0, 7)])), (2, .inr (false, [(16, 16)]))], [], mgh20269),
  (16, [(0, .inl 81), (1, .inr (false, [(0, 7)])), (2, .inr (false, [(17, 17)]))], [], mgh20269),
  (16, [(0, .inl 81), (1, .inr (false, [(0, 7)])), (2, .inr (false, [(18, 18)]))], [], mgh20269),
  (16, [(0, .inl 81), (1, .inr (false, [(0, 7)])), (2, .inr (false, [(19, 19)]))], [], mgh20269),
  (16, [(0, .inl 81), (1, .inr (false, [(0, 7)])), (2, .inr (false, [(20, 20)]))], [], mgh20269),
  (16, [(0, .inl 81), (1, .inr (false, [(0, 7)])), (2, .inr (false, [(21, 21)]))], [], mgh20269),
  (16, [(0, .inl 81), (1, .inr (false, [(0, 7)])), (2, .inr (false, [(22, 22)]))], [], mgh20269),
  (16, [(0, .inl 81), (1, .inr (false, [(0, 7)])), (2, .inr (false, [(23, 23)]))], [], mgh20269),
  (16, [(0, .inl 81), (1, .inr (false, [(0, 7)])), (2, .inr (false, [(24, 24)]))], [], mgh20269),
  (16, [(0, .inl 81), (1, .inr (false, [(0, 7)])), (2, .inr (false, [(25, 25)]))], [], mgh20269),
  (16, [(0, .inl 81), (1, .inr (false, [(0, 7)])), (2, .inr (false, [(26, 26)]))], [], mgh20269),
  (16, [(0, .inl 81), (1, .inr (false, [(0, 7)])), (2, .inr (false, [(27, 27)]))], [], mgh20269),
  (16, [(0, .inl 81), (1, .inr (false, [(0, 7)])), (2, .inr (false, [(28, 28)]))], [], mgh20269),
  (16, [(0, .inl 81), (1, .inr (false, [(0, 7)])), (2, .inr (false, [(29, 29)]))], [], mgh20269),
  (16, [(0, .inl 81), (1, .inr (false, [(0, 7)])), (2, .inr (false, [(30, 30)]))], [], mgh20269),
  (16, [(0, .inl 81), (1, .inr (false, [(0, 7)])), (2, .inr (false, [(31, 31)]))], [], mgh20269),
  (16, [(0, .inl 81), (1, .inr (false, [(0, 7)])), (2, .inr (false, [(32, 32)]))], [], mgh20269),
  (16, [(0, .inl 81), (1, .inr (false, [(0, 7)])), (2, .inr (false, [(33, 33)]))], [], mgh20269),
  (16, [(0, .inl 81), (1, .inr (false, [(0, 7)])), (2, .inr (false, [(34, 34)]))], [], mgh20269),
  (16, [(0, .inl 81), (1, .inr (false, [(0, 7)])), (2, .inr (false, [(35, 35)]))], [], mgh20269),
  (16, [(0, .inl 81), (1, .inr (false, [(0, 7)])), (2, .inr (false, [(36, 36)]))], [], mgh20269),
  (16, [(0, .inl 81), (1, .inr (false, [(0, 7)])), (2, .inr (false, [(37, 37)]))], [], mgh20269),
  (16, [(0, .inl 81), (1, .inr (false, [(0, 7)])), (2, .inr (false, [(38, 38)]))], [], mgh20269),
  (16, [(0, .inl 81), (1, .inr (false, [(0, 7)])), (2, .inr (false, [(39, 39)]))], [], mgh20269),
  (16, [(0, .inl 81), (1, .inr (false, [(0, 7)])), (2, .inr (false, [(40, 40)]))], [], mgh20269),
  (16, [(0, .inl 81), (1, .inr (false, [(0, 7)])), (2, .inr (false, [(41, 41)]))], [], mgh20269)] = true := by decide +kernel
/-- MiceRegistersModel.in -/
def mgc1473 : ak_C := (105, [.inr (true, ar_t32), .inr (true, [(1, 1)]), .inr (true, [(20, 20)])], [], [], [([[(1, 20)], [], []], some (.inr (false, [(1, 1)])), []), ([[(-2147483648, 0), (21, 2147483647)], [], []], some (.inr (false, [(0, 0)])), [])])
theorem mgk1473 : ai_chk [] mgc1473 (fun pc => sm_ch sm_t105 pc, sm_Kn 3 6 none, fun x => sm_lk sm_ca3 x, some .boolean) [] 6 6 [] [] 2000 [] = true := by decide +kernel
/-- MiceRegistersModel.isSaved -/
def mgc1474 : ak_C := (166, [.inl 81, .inr (false, [(0, 7)]), .inr (false, [(0, 20)]), .inr (false, [(0, 7)]), .inr (false, [(0, 20)])], mgh20269, [82], [([], some (.inr (false, [(1, 1)])), mgh20272), ([], some (.inr (false, [(0, 0)])), mgh20272)])
theorem mgk1474 : ai_chk [mgc1463, mgc1468] mgc1474 (fun pc => sm_ch sm_t166 pc, sm_Kn 3 5 none, fun x => sm_lk sm_ca3 x, some .boolean) [82] 5 0 [] [] 2000 [] = true := by decide +kernel
def mgx20334 : aw_A := ms_o [(0, 8)] [(0, 4)] [(-9, -9)] ar_t32 [(0, 180)] [(0, 60)] [(-1, 60)] [(0, 8)] [(0, 4)]
def mgh20335 : aw_H := [(81, mgx20334), (82, ms_r [(0, [(-1, 40)])])]
def mgx20336 : aw_A := ms_o [(1, 8)] [(0, 4)] [(0, 7)] ar_t32 [(0, 180)] [(0, 60)] [(-1, 60)] [(0, 8)] [(0, 4)]
def mgh20337 : aw_H := [(81, mgx20336), (82, ms_r [(0, [(-1, 40)])])]
/-- MiceRegistersModel.save -/
def mgc1475 : ak_C := (165, [.inl 81, .inr (false, ar_t32), .inr (false, ar_t32)], mgh20269, [81, 82], [([[], [], []], some (.inr (false, [(-1, -1)])), mgh20234), ([[], [(0, 7)], [(1, 20)]], some (.inr (false, [(0, 0)])), mgh20335), ([[], [(0, 7)], [(1, 20)]], some (.inr (false, [(1, 20)])), mgh20337), ([[], [(0, 7)], [(1, 20)]], some (.inr (false, [(-9, -9)])), mgh20234)])
def mgh20338 : aw_H := [(81, mgx20236), (82, ms_r [(0, [(-1, 40)])]), (83, .inr (.inl (0, 8, [], []))), (85, .inr (.inl (0, 4, [], []))), (86, .inr (.inl (0, 4, [], [])))]
def mgx20339 : aw_A := ms_o [(1, 1)] [(0, 4)] ar_t32 ar_t32 [(0, 180)] [(0, 60)] [(-1, 60)] [(0, 8)] [(0, 4)]
def mgh20340 : aw_H := [(81, mgx20339), (82, ms_r [(0, [(-1, 40)])]), (83, .inr (.inl (0, 8, [], []))), (85, .inr (.inl (0, 4, [], []))), (86, .inr (.inl (0, 4, [], [])))]
def mgh20341 : aw_H := [(81, mgx20238), (82, ms_r [(0, [(-1, 40)])]), (83, .inr (.inl (0, 8, [], []))), (85, .inr (.inl (0, 4, [], []))), (86, .inr (.inl (0, 4, [], [])))]
def mgh20342 : aw_H := [(81, mgx20241), (82, ms_r [(0, [(-1, 40)])]), (83, .inr (.inl (0, 8, [], []))), (85, .inr (.inl (0, 4, [], []))), (86, .inr (.inl (0, 4, [], [])))]
def mgh20343 : aw_H := [(81, mgx20244), (82, ms_r [(0, [(-1, 40)])]), (83, .inr (.inl (0, 8, [], []))), (85, .inr (.inl (0, 4, [], []))), (86, .inr (.inl (0, 4, [], [])))]
def mgx20344 : aw_A := ms_o [(4, 4)] [(0, 4)] ar_t32 ar_t32 [(0, 180)] [(0, 60)] [(-1, 60)] [(0, 8)] [(0, 4)]
def mgh20345 : aw_H := [(81, mgx20344), (82, ms_r [(0, [(-1, 40)])]), (83, .inr (.inl (0, 8, [], []))), (85, .inr (.inl (0, 4, [], []))), (86, .inr (.inl (0, 4, [], [])))]
def mgh20346 : aw_H := [(81, mgx20247), (82, ms_r [(0, [(-1, 40)])]), (83, .inr (.inl (0, 8, [], []))), (85, .inr (.inl (0, 4, [], []))), (86, .inr (.inl (0, 4, [], [])))]
def mgx20347 : aw_A := ms_o [(5, 5)] [(0, 4)] ar_t32 ar_t32 [(0, 180)] [(0, 60)] [(-1, 60)] [(0, 8)] [(0, 4)]
def mgh20348 : aw_H := [(81, mgx20347), (82, ms_r [(0, [(-1, 40)])]), (83, .inr (.inl (0, 8, [], []))), (85, .inr (.inl (0, 4, [], []))), (86, .inr (.inl (0, 4, [], [])))]
def mgh20349 : aw_H := [(81, mgx20250), (82, ms_r [(0, [(-1, 40)])]), (83, .inr (.inl (0, 8, [], []))), (85, .inr (.inl (0, 4, [], []))), (86, .inr (.inl (0, 4, [], [])))]
def mgh20350 : aw_H := [(81, mgx20253), (82, ms_r [(0, [(-1, 40)])]), (83, .inr (.inl (0, 8, [], []))), (85, .inr (.inl (0, 4, [], []))), (86, .inr (.inl (0, 4, [], [])))]
def mgh20351 : aw_H := [(81, mgx20256), (82, ms_r [(0, [(-1, 40)])]), (83, .inr (.inl (0, 8, [], []))), (85, .inr (.inl (0, 4, [], []))), (86, .inr (.inl (0, 4, [], [])))]
def mgx20352 : aw_A := ms_o [(7, 7)] [(0, 4)] ar_t32 ar_t32 [(0, 180)] [(0, 60)] [(-1, 60)] [(0, 8)] [(0, 4)]
def mgh20353 : aw_H := [(81, mgx20352), (82, ms_r [(0, [(-1, 40)])]), (83, .inr (.inl (0, 8, [], []))), (85, .inr (.inl (0, 4, [], []))), (86, .inr (.inl (0, 4, [], [])))]
def mgx20354 : aw_A := ms_o [(6, 6)] [(0, 4)] ar_t32 ar_t32 [(0, 180)] [(0, 60)] [(-1, 60)] [(0, 8)] [(0, 4)]
def mgh20355 : aw_H := [(81, mgx20354), (82, ms_r [(0, [(-1, 40)])]), (83, .inr (.inl (0, 8, [], []))), (85, .inr (.inl (0, 4, [], []))), (86, .inr (.inl (0, 4, [], [])))]
def mgx20356 : aw_A := ms_o [(3, 3)] [(0, 4)] ar_t32 ar_t32 [(0, 180)] [(0, 60)] [(-1, 60)] [(0, 8)] [(0, 4)]
def mgh20357 : aw_H := [(81, mgx20356), (82, ms_r [(0, [(-1, 40)])]), (83, .inr (.inl (0, 8, [], []))), (85, .inr (.inl (0, 4, [], []))), (86, .inr (.inl (0, 4, [], [])))]
def mgx20358 : aw_A := ms_o [(2, 2)] [(0, 4)] ar_t32 ar_t32 [(0, 180)] [(0, 60)] [(-1, 60)] [(0, 8)] [(0, 4)]
def mgh20359 : aw_H := [(81, mgx20358), (82, ms_r [(0, [(-1, 40)])]), (83, .inr (.inl (0, 8, [], []))), (85, .inr (.inl (0, 4, [], []))), (86, .inr (.inl (0, 4, [], [])))]
def mgx20360 : aw_A := ms_o [(0, 0)] [(0, 4)] ar_t32 ar_t32 [(0, 180)] [(0, 60)] [(-1, 60)] [(0, 8)] [(0, 4)]
def mgh20361 : aw_H := [(81, mgx20360), (82, ms_r [(0, [(-1, 40)])]), (83, .inr (.inl (0, 8, [], []))), (85, .inr (.inl (0, 4, [], []))), (86, .inr (.inl (0, 4, [], [])))]
def mgn1475_0 : List (Nat × aw_S) := [(43, [(0, .inl 81), (1, .inr (false, [(0, 7)])), (2, .inr (false, [(1, 20)])), (3, .inr (false, [(1, 1)]))], [], mgh20269),
  (52, [(0, .inl 81), (1, .inr (false, [(0, 7)])), (2, .inr (false, [(1, 20)])), (3, .inr (false, [(1, 1)])), (4, .inr (false, [(0, 0)]))], [], mgh20269),
  (52, [(0, .inl 81), (1, .inr (false, [(0, 7)])), (2, .inr (false, [(1, 20)])), (3, .inr (false, [(1, 1)])), (4, .inr (false, [(1, 1)]))], [], mgh20338),
  (43, [(0, .inl 81), (1, .inr (false, [(0, 7)])), (2, .inr (false, [(1, 20)])), (3, .inr (false, [(2, 2)])), (4, .inr (false, [(1, 1)]))], [], mgh20340),
  (52, [(0, .inl 81), (1, .inr (false, [(0, 7)])), (2, .inr (false, [(1, 20)])), (3, .inr (false, [(1, 1)])), (4, .inr (false, [(2, 2)]))], [], mgh20341),
  (52, [(0, .inl 81), (1, .inr (false, [(0, 7)])), (2, .inr (false, [(1, 20)])), (3, .inr (false, [(1, 1)])), (4, .inr (false, [(3, 3)]))], [], mgh20342),
  (52, [(0, .inl 81), (1, .inr (false, [(0, 7)])), (2, .inr (false, [(1, 20)])), (3, .inr (false, [(1, 1)])), (4, .inr (false, [(4, 4)]))], [], mgh20343),
  (43, [(0, .inl 81), (1, .inr (false, [(0, 7)])), (2, .inr (false, [(1, 20)])), (3, .inr (false, [(2, 2)])), (4, .inr (false, [(4, 4)]))], [], mgh20345),
  (52, [(0, .inl 81), (1, .inr (false, [(0, 7)])), (2, .inr (false, [(1, 20)])), (3, .inr (false, [(1, 1)])), (4, .inr (false, [(5, 5)]))], [], mgh20346),
  (43, [(0, .inl 81), (1, .inr (false, [(0, 7)])), (2, .inr (false, [(1, 20)])), (3, .inr (false, [(2, 2)])), (4, .inr (false, [(5, 5)]))], [], mgh20348),
  (52, [(0, .inl 81), (1, .inr (false, [(0, 7)])), (2, .inr (false, [(1, 20)])), (3, .inr (false, [(1, 1)])), (4, .inr (false, [(6, 6)]))], [], mgh20349),
  (52, [(0, .inl 81), (1, .inr (false, [(0, 7)])), (2, .inr (false, [(1, 20)])), (3, .inr (false, [(1, 1)])), (4, .inr (false, [(7, 7)]))], [], mgh20350),
  (52, [(0, .inl 81), (1, .inr (false, [(0, 7)])), (2, .inr (false, [(1, 20)])), (3, .inr (false, [(1, 1)])), (4, .inr (false, [(8, 8)]))], [], mgh20351),
  (43, [(0, .inl 81), (1, .inr (false, [(0, 7)])), (2, .inr (false, [(1, 20)])), (3, .inr (false, [(2, 2)])), (4, .inr (false, [(8, 8)]))], [], mgh20351),
  (43, [(0, .inl 81), (1, .inr (false, [(0, 7)])), (2, .inr (false, [(1, 20)])), (3, .inr (false, [(2, 2)])), (4, .inr (false, [(7, 7)]))], [], mgh20353),
  (43, [(0, .inl 81), (1, .inr (false, [(0, 7)])), (2, .inr (false, [(1, 20)])), (3, .inr (false, [(2, 2)])), (4, .inr (false, [(6, 6)]))], [], mgh20355),
  (43, [(0, .inl 81), (1, .inr (false, [(0, 7)])), (2, .inr (false, [(1, 20)])), (3, .inr (false, [(2, 2)])), (4, .inr (false, [(3, 3)]))], [], mgh20357),
  (43, [(0, .inl 81), (1, .inr (false, [(0, 7)])), (2, .inr (false, [(1, 20)])), (3, .inr (false, [(2, 2)])), (4, .inr (false, [(2, 2)]))], [], mgh20359),
  (43, [(0, .inl 81), (1, .inr (false, [(0, 7)])), (2, .inr (false, [(1, 20)])), (3, .inr (false, [(2, 2)])), (4, .inr (false, [(0, 0)]))], [], mgh20361),
  (52, [(0, .inl 81), (1, .inr (false, [(0, 7)])), (2, .inr (false, [(1, 20)])), (3, .inr (false, [(2, 2)])), (4, .inr (false, [(0, 0)]))], [], mgh20269),
  (43, [(0, .inl 81), (1, .inr (false, [(0, 7)])), (2, .inr (false, [(1, 20)])), (3, .inr (false, [(3, 3)])), (4, .inr (false, [(0, 0)]))], [], mgh20361),
  (52, [(0, .inl 81), (1, .inr (false, [(0, 7)])), (2, .inr (false, [(1, 20)])), (3, .inr (false, [(2, 2)])), (4, .inr (false, [(1, 1)]))], [], mgh20338),
  (43, [(0, .inl 81), (1, .inr (false, [(0, 7)])), (2, .inr (false, [(1, 20)])), (3, .inr (false, [(3, 3)])), (4, .inr (false, [(1, 1)]))], [], mgh20340),
  (52, [(0, .inl 81), (1, .inr (false, [(0, 7)])), (2, .inr (false, [(1, 20)])), (3, .inr (false, [(2, 2)])), (4, .inr (false, [(2, 2)]))], [], mgh20341),
  (43, [(0, .inl 81), (1, .inr (false, [(0, 7)])), (2, .inr (false, [(1, 20)])), (3, .inr (false, [(3, 3)])), (4, .inr (false, [(2, 2)]))], [], mgh20359),
  (52, [(0, .inl 81), (1, .inr (false, [(0, 7)])), (2, .inr (false, [(1, 20)])), (3, .inr (false, [(2, 2)])), (4, .inr (false, [(3, 3)]))], [], mgh20342),
  (52, [(0, .inl 81), (1, .inr (false, [(0, 7)])), (2, .inr (false, [(1, 20)])), (3, .inr (false, [(2, 2)])), (4, .inr (false, [(4, 4)]))], [], mgh20343),
  (43, [(0, .inl 81), (1, .inr (false, [(0, 7)])), (2, .inr (false, [(1, 20)])), (3, .inr (false, [(3, 3)])), (4, .inr (false, [(4, 4)]))], [], mgh20345),
  (52, [(0, .inl 81), (1, .inr (false, [(0, 7)])), (2, .inr (false, [(1, 20)])), (3, .inr (false, [(2, 2)])), (4, .inr (false, [(5, 5)]))], [], mgh20346),
  (43, [(0, .inl 81), (1, .inr (false, [(0, 7)])), (2, .inr (false, [(1, 20)])), (3, .inr (false, [(3, 3)])), (4, .inr (false, [(5, 5)]))], [], mgh20348),
  (52, [(0, .inl 81), (1, .inr (false, [(0, 7)])), (2, .inr (false, [(1, 20)])), (3, .inr (false, [(2, 2)])), (4, .inr (false, [(6, 6)]))], [], mgh20349),
  (52, [(0, .inl 81), (1, .inr (false, [(0, 7)])), (2, .inr (false, [(1, 20)])), (3, .inr (false, [(2, 2)])), (4, .inr (false, [(7, 7)]))], [], mgh20350),
  (43, [(0, .inl 81), (1, .inr (false, [(0, 7)])), (2, .inr (false, [(1, 20)])), (3, .inr (false, [(3, 3)])), (4, .inr (false, [(7, 7)]))], [], mgh20353),
  (52, [(0, .inl 81), (1, .inr (false, [(0, 7)])), (2, .inr (false, [(1, 20)])), (3, .inr (false, [(2, 2)])), (4, .inr (false, [(8, 8)]))], [], mgh20351),
  (43, [(0, .inl 81), (1, .inr (false, [(0, 7)])), (2, .inr (false, [(1, 20)])), (3, .inr (false, [(3, 3)])), (4, .inr (false, [(8, 8)]))], [], mgh20351),
  (43, [(0, .inl 81), (1, .inr (false, [(0, 7)])), (2, .inr (false, [(1, 20)])), (3, .inr (false, [(3, 3)])), (4, .inr (false, [(6, 6)]))], [], mgh20355),
  (43, [(0, .inl 81), (1, .inr (false, [(0, 7)])), (2, .inr (false, [(1, 20)])), (3, .inr (false, [(3, 3)])), (4, .inr (false, [(3, 3)]))], [], mgh20357),
  (52, [(0, .inl 81), (1, .inr (false, [(0, 7)])), (2, .inr (false, [(1, 20)])), (3, .inr (false, [(3, 3)])), (4, .inr (false, [(0, 0)]))], [], mgh20269),
  (43, [(0, .inl 81), (1, .inr (false, [(0, 7)])), (2, .inr (false, [(1, 20)])), (3, .inr (false, [(4, 4)])), (4, .inr (false, [(0, 0)]))], [], mgh20361),
  (52, [(0, .inl 81), (1, .inr (false, [(0, 7)])), (2, .inr (false, [(1, 20)])), (3, .inr (false, [(3, 3)])), (4, .inr (false, [(1, 1)]))], [], mgh20338),
  (43, [(0, .inl 81), (1, .inr (false, [(0, 7)])), (2, .inr (false, [(1, 20)])), (3, .inr (false, [(4, 4)])), (4, .inr (false, [(1, 1)]))], [], mgh20340),
  (52, [(0, .inl 81), (1, .inr (false, [(0, 7)])), (2, .inr (false, [(1, 20)])), (3, .inr (false, [(3, 3)])), (4, .inr (false, [(2, 2)]))], [], mgh20341),
  (43, [(0, .inl 81), (1, .inr (false, [(0, 7)])), (2, .inr (false, [(1, 20)])), (3, .inr (false, [(4, 4)])), (4, .inr (false, [(2, 2)]))], [], mgh20359),
  (52, [(0, .inl 81), (1, .inr (false, [(0, 7)])), (2, .inr (false, [(1, 20)])), (3, .inr (false, [(3, 3)])), (4, .inr (false, [(3, 3)]))], [], mgh20342),
  (43, [(0, .inl 81), (1, .inr (false, [(0, 7)])), (2, .inr (false, [(1, 20)])), (3, .inr (false, [(4, 4)])), (4, .inr (false, [(3, 3)]))], [], mgh20357),
  (52, [(0, .inl 81), (1, .inr (false, [(0, 7)])), (2, .inr (false, [(1, 20)])), (3, .inr (false, [(3, 3)])), (4, .inr (false, [(4, 4)]))], [], mgh20343),
  (43, [(0, .inl 81), (1, .inr (false, [(0, 7)])), (2, .inr (false, [(1, 20)])), (3, .inr (false, [(4, 4)])), (4, .inr (false, [(4, 4)]))], [], mgh20345),
  (52, [(0, .inl 81), (1, .inr (false, [(0, 7)])), (2, .inr (false, [(1, 20)])), (3, .inr (false, [(3, 3)])), (4, .inr (false, [(5, 5)]))], [], mgh20346),
  (52, [(0, .inl 81), (1, .inr (false, [(0, 7)])), (2, .inr (false, [(1, 20)])), (3, .inr (false, [(3, 3)])), (4, .inr (false, [(6, 6)]))], [], mgh20349),
  (43, [(0, .inl 81), (1, .inr (false, [(0, 7)])), (2, .inr (false, [(1, 20)])), (3, .inr (false, [(4, 4)])), (4, .inr (false, [(6, 6)]))], [], mgh20355),
  (52, [(0, .inl 81), (1, .inr (false, [(0, 7)])), (2, .inr (false, [(1, 20)])), (3, .inr (false, [(3, 3)])), (4, .inr (false, [(7, 7)]))], [], mgh20350),
  (43, [(0, .inl 81), (1, .inr (false, [(0, 7)])), (2, .inr (false, [(1, 20)])), (3, .inr (false, [(4, 4)])), (4, .inr (false, [(7, 7)]))], [], mgh20353),
  (52, [(0, .inl 81), (1, .inr (false, [(0, 7)])), (2, .inr (false, [(1, 20)])), (3, .inr (false, [(3, 3)])), (4, .inr (false, [(8, 8)]))], [], mgh20351),
  (43, [(0, .inl 81), (1, .inr (false, [(0, 7)])), (2, .inr (false, [(1, 20)])), (3, .inr (false, [(4, 4)])), (4, .inr (false, [(8, 8)]))], [], mgh20351),
  (43, [(0, .inl 81), (1, .inr (false, [(0, 7)])), (2, .inr (false, [(1, 20)])), (3, .inr (false, [(4, 4)])), (4, .inr (false, [(5, 5)]))], [], mgh20348),
  (52, [(0, .inl 81), (1, .inr (false, [(0, 7)])), (2, .inr (false, [(1, 20)])), (3, .inr (false, [(4, 4)])), (4, .inr (false, [(0, 0)]))], [], mgh20269),
  (52, [(0, .inl 81), (1, .inr (false, [(0, 7)])), (2, .inr (false, [(1, 20)])), (3, .inr (false, [(4, 4)])), (4, .inr (false, [(1, 1)]))], [], mgh20338),
  (52, [(0, .inl 81), (1, .inr (false, [(0, 7)])), (2, .inr (false, [(1, 20)])), (3, .inr (false, [(4, 4)])), (4, .inr (false, [(2, 2)]))], [], mgh20341),
  (43, [(0, .inl 81), (1, .inr (false, [(0, 7)])), (2, .inr (false, [(1, 20)])), (3, .inr (false, [(5, 5)])), (4, .inr (false, [(2, 2)]))], [], mgh20359),
  (52, [(0, .inl 81), (1, .inr (false, [(0, 7)])), (2, .inr (false, [(1, 20)])), (3, .inr (false, [(4, 4)])), (4, .inr (false, [(3, 3)]))], [], mgh20342),
  (52, [(0, .inl 81), (1, .inr (false, [(0, 7)])), (2, .inr (false, [(1, 20)])), (3, .inr (false, [(4, 4)])), (4, .inr (false, [(4, 4)]))], [], mgh20343),
  (52, [(0, .inl 81), (1, .inr (false, [(0, 7)])), (2, .inr (false, [(1, 20)])), (3, .inr (false, [(4, 4)])), (4, .inr (false, [(5, 5)]))], [], mgh20346),
  (52, [(0, .inl 81), (1, .inr (false, [(0, 7)])), (2, .inr (false, [(1, 20)])), (3, .inr (false, [(4, 4)])), (4, .inr (false, [(6, 6)]))], [], mgh20349),
  (43, [(0, .inl 81), (1, .inr (false, [(0, 7)])), (2, .inr (false, [(1, 20)])), (3, .inr (false, [(5, 5)])), (4, .inr (false, [(6, 6)]))], [], mgh20355),
  (52, [(0, .inl 81), (1, .inr (false, [(0, 7)])), (2, .inr (false, [(1, 20)])), (3, .inr (false, [(4, 4)])), (4, .inr (false, [(7, 7)]))], [], mgh20350),
  (43, [(0, .inl 81), (1, .inr (false, [(0, 7)])), (2, .inr (false, [(1, 20)])), (3, .inr (false, [(5, 5)])), (4, .inr (false, [(7, 7)]))], [], mgh20353),
  (52, [(0, .inl 81), (1, .inr (false, [(0, 7)])), (2, .inr (false, [(1, 20)])), (3, .inr (false, [(4, 4)])), (4, .inr (false, [(8, 8)]))], [], mgh20351),
  (43, [(0, .inl 81), (1, .inr (false, [(0, 7)])), (2, .inr (false, [(1, 20)])), (3, .inr (false, [(5, 5)])), (4, .inr (false, [(8, 8)]))], [], mgh20351),
  (43, [(0, .inl 81), (1, .inr (false, [(0, 7)])), (2, .inr (false, [(1, 20)])), (3, .inr (false, [(5, 5)])), (4, .inr (false, [(5, 5)]))], [], mgh20348),
  (43, [(0, .inl 81), (1, .inr (false, [(0, 7)])), (2, .inr (false, [(1, 20)])), (3, .inr (false, [(5, 5)])), (4, .inr (false, [(4, 4)]))], [], mgh20345),
  (43, [(0, .inl 81), (1, .inr (false, [(0, 7)])), (2, .inr (false, [(1, 20)])), (3, .inr (false, [(5, 5)])), (4, .inr (false, [(3, 3)]))], [], mgh20357),
  (43, [(0, .inl 81), (1, .inr (false, [(0, 7)])), (2, .inr (false, [(1, 20)])), (3, .inr (false, [(5, 5)])), (4, .inr (false, [(1, 1)]))], [], mgh20340),
  (43, [(0, .inl 81), (1, .inr (false, [(0, 7)])), (2, .inr (false, [(1, 20)])), (3, .inr (false, [(5, 5)])), (4, .inr (false, [(0, 0)]))], [], mgh20361),
  (52, [(0, .inl 81), (1, .inr (false, [(0, 7)])), (2, .inr (false, [(1, 20)])), (3, .inr (false, [(5, 5)])), (4, .inr (false, [(0, 0)]))], [], mgh20269),
  (43, [(0, .inl 81), (1, .inr (false, [(0, 7)])), (2, .inr (false, [(1, 20)])), (3, .inr (false, [(6, 6)])), (4, .inr (false, [(0, 0)]))], [], mgh20361),
  (52, [(0, .inl 81), (1, .inr (false, [(0, 7)])), (2, .inr (false, [(1, 20)])), (3, .inr (false, [(5, 5)])), (4, .inr (false, [(1, 1)]))], [], mgh20338),
  (52, [(0, .inl 81), (1, .inr (false, [(0, 7)])), (2, .inr (false, [(1, 20)])), (3, .inr (false, [(5, 5)])), (4, .inr (false, [(2, 2)]))], [], mgh20341),
  (52, [(0, .inl 81), (1, .inr (false, [(0, 7)])), (2, .inr (false, [(1, 20)])), (3, .inr (false, [(5, 5)])), (4, .inr (false, [(3, 3)]))], [], mgh20342),
  (52, [(0, .inl 81), (1, .inr (false, [(0, 7)])), (2, .inr (false, [(1, 20)])), (3, .inr (false, [(5, 5)])), (4, .inr (false, [(4, 4)]))], [], mgh20343),
  (43, [(0, .inl 81), (1, .inr (false, [(0, 7)])), (2, .inr (false, [(1, 20)])), (3, .inr (false, [(6, 6)])), (4, .inr (false, [(4, 4)]))], [], mgh20345),
  (52, [(0, .inl 81), (1, .inr (false, [(0, 7)])), (2, .inr (false, [(1, 20)])), (3, .inr (false, [(5, 5)])), (4, .inr (false, [(5, 5)]))], [], mgh20346),
  (43, [(0, .inl 81), (1, .inr (false, [(0, 7)])), (2, .inr (false, [(1, 20)])), (3, .inr (false, [(6, 6)])), (4, .inr (false, [(5, 5)]))], [], mgh20348),
  (52, [(0, .inl 81), (1, .inr (false, [(0, 7)])), (2, .inr (false, [(1, 20)])), (3, .inr (false, [(5, 5)])), (4, .inr (false, [(6, 6)]))], [], mgh20349),
  (43, [(0, .inl 81), (1, .inr (false, [(0, 7)])), (2, .inr (false, [(1, 20)])), (3, .inr (false, [(6, 6)])), (4, .inr (false, [(6, 6)]))], [], mgh20355),
  (52, [(0, .inl 81), (1, .inr (false, [(0, 7)])), (2, .inr (false, [(1, 20)])), (3, .inr (false, [(5, 5)])), (4, .inr (false, [(7, 7)]))], [], mgh20350),
  (43, [(0, .inl 81), (1, .inr (false, [(0, 7)])), (2, .inr (false, [(1, 20)])), (3, .inr (false, [(6, 6)])), (4, .inr (false, [(7, 7)]))], [], mgh20353),
  (52, [(0, .inl 81), (1, .inr (false, [(0, 7)])), (2, .inr (false, [(1, 20)])), (3, .inr (false, [(5, 5)])), (4, .inr (false, [(8, 8)]))], [], mgh20351),
  (43, [(0, .inl 81), (1, .inr (false, [(0, 7)])), (2, .inr (false, [(1, 20)])), (3, .inr (false, [(6, 6)])), (4, .inr (false, [(8, 8)]))], [], mgh20351),
  (43, [(0, .inl 81), (1, .inr (false, [(0, 7)])), (2, .inr (false, [(1, 20)])), (3, .inr (false, [(6, 6)])), (4, .inr (false, [(3, 3)]))], [], mgh20357),
  (43, [(0, .inl 81), (1, .inr (false, [(0, 7)])), (2, .inr (false, [(1, 20)])), (3, .inr (false, [(6, 6)])), (4, .inr (false, [(2, 2)]))], [], mgh20359),
  (43, [(0, .inl 81), (1, .inr (false, [(0, 7)])), (2, .inr (false, [(1, 20)])), (3, .inr (false, [(6, 6)])), (4, .inr (false, [(1, 1)]))], [], mgh20340),
  (52, [(0, .inl 81), (1, .inr (false, [(0, 7)])), (2, .inr (false, [(1, 20)])), (3, .inr (false, [(6, 6)])), (4, .inr (false, [(0, 0)]))], [], mgh20269),
  (43, [(0, .inl 81), (1, .inr (false, [(0, 7)])), (2, .inr (false, [(1, 20)])), (3, .inr (false, [(7, 7)])), (4, .inr (false, [(0, 0)]))], [], mgh20361),
  (52, [(0, .inl 81), (1, .inr (false, [(0, 7)])), (2, .inr (false, [(1, 20)])), (3, .inr (false, [(6, 6)])), (4, .inr (false, [(1, 1)]))], [], mgh20338),
  (43, [(0, .inl 81), (1, .inr (false, [(0, 7)])), (2, .inr (false, [(1, 20)])), (3, .inr (false, [(7, 7)])), (4, .inr (false, [(1, 1)]))], [], mgh20340),
  (52, [(0, .inl 81), (1, .inr (false, [(0, 7)])), (2, .inr (false, [(1, 20)])), (3, .inr (false, [(6, 6)])), (4, .inr (false, [(2, 2)]))], [], mgh20341),
  (43, [(0, .inl 81), (1, .inr (false, [(0, 7)])), (2, .inr (false, [(1, 20)])), (3, .inr (false, [(7, 7)])), (4, .inr (false, [(2, 2)]))], [], mgh20359),
  (52, [(0, .inl 81), (1, .inr (false, [(0, 7)])), (2, .inr (false, [(1, 20)])), (3, .inr (false, [(6, 6)])), (4, .inr (false, [(3, 3)]))], [], mgh20342),
  (43, [(0, .inl 81), (1, .inr (false, [(0, 7)])), (2, .inr (false, [(1, 20)])), (3, .inr (false, [(7, 7)])), (4, .inr (false, [(3, 3)]))], [], mgh20357),
  (52, [(0, .inl 81), (1, .inr (false, [(0, 7)])), (2, .inr (false, [(1, 20)])), (3, .inr (false, [(6, 6)])), (4, .inr (false, [(4, 4)]))], [], mgh20343),
  (43, [(0, .inl 81), (1, .inr (false, [(0, 7)])), (2, .inr (false, [(1, 20)])), (3, .inr (false, [(7, 7)])), (4, .inr (false, [(4, 4)]))], [], mgh20345),
  (52, [(0, .inl 81), (1, .inr (false, [(0, 7)])), (2, .inr (false, [(1, 20)])), (3, .inr (false, [(6, 6)])), (4, .inr (false, [(5, 5)]))], [], mgh20346),
  (43, [(0, .inl 81), (1, .inr (false, [(0, 7)])), (2, .inr (false, [(1, 20)])), (3, .inr (false, [(7, 7)])), (4, .inr (false, [(5, 5)]))], [], mgh20348),
  (52, [(0, .inl 81), (1, .inr (false, [(0, 7)])), (2, .inr (false, [(1, 20)])), (3, .inr (false, [(6, 6)])), (4, .inr (false, [(6, 6)]))], [], mgh20349),
  (43, [(0, .inl 81), (1, .inr (false, [(0, 7)])), (2, .inr (false, [(1, 20)])), (3, .inr (false, [(7, 7)])), (4, .inr (false, [(6, 6)]))], [], mgh20355),
  (52, [(0, .inl 81), (1, .inr (false, [(0, 7)])), (2, .inr (false, [(1, 20)])), (3, .inr (false, [(6, 6)])), (4, .inr (false, [(7, 7)]))], [], mgh20350),
  (52, [(0, .inl 81), (1, .inr (false, [(0, 7)])), (2, .inr (false, [(1, 20)])), (3, .inr (false, [(6, 6)])), (4, .inr (false, [(8, 8)]))], [], mgh20351),
  (43, [(0, .inl 81), (1, .inr (false, [(0, 7)])), (2, .inr (false, [(1, 20)])), (3, .inr (false, [(7, 7)])), (4, .inr (false, [(8, 8)]))], [], mgh20351),
  (43, [(0, .inl 81), (1, .inr (false, [(0, 7)])), (2, .inr (false, [(1, 20)])), (3, .inr (false, [(7, 7)])), (4, .inr (false, [(7, 7)]))], [], mgh20353),
  (52, [(0, .inl 81), (1, .inr (false, [(0, 7)])), (2, .inr (false, [(1, 20)])), (3, .inr (false, [(7, 7)])), (4, .inr (false, [(0, 0)]))], [], mgh20269),
  (43, [(0, .inl 81), (1, .inr (false, [(0, 7)])), (2, .inr (false, [(1, 20)])), (3, .inr (false, [(8, 8)])), (4, .inr (false, [(0, 0)]))], [], mgh20361)]
def mgn1475_1 : List (Nat × aw_S) := [(52, [(0, .inl 81), (1, .inr (false, [(0, 7)])), (2, .inr (false, [(1, 20)])), (3, .inr (false, [(7, 7)])), (4, .inr (false, [(1, 1)]))], [], mgh20338),
  (52, [(0, .inl 81), (1, .inr (false, [(0, 7)])), (2, .inr (false, [(1, 20)])), (3, .inr (false, [(7, 7)])), (4, .inr (false, [(2, 2)]))], [], mgh20341),
  (43, [(0, .inl 81), (1, .inr (false, [(0, 7)])), (2, .inr (false, [(1, 20)])), (3, .inr (false, [(8, 8)])), (4, .inr (false, [(2, 2)]))], [], mgh20359),
  (52, [(0, .inl 81), (1, .inr (false, [(0, 7)])), (2, .inr (false, [(1, 20)])), (3, .inr (false, [(7, 7)])), (4, .inr (false, [(3, 3)]))], [], mgh20342),
  (43, [(0, .inl 81), (1, .inr (false, [(0, 7)])), (2, .inr (false, [(1, 20)])), (3, .inr (false, [(8, 8)])), (4, .inr (false, [(3, 3)]))], [], mgh20357),
  (52, [(0, .inl 81), (1, .inr (false, [(0, 7)])), (2, .inr (false, [(1, 20)])), (3, .inr (false, [(7, 7)])), (4, .inr (false, [(4, 4)]))], [], mgh20343),
  (43, [(0, .inl 81), (1, .inr (false, [(0, 7)])), (2, .inr (false, [(1, 20)])), (3, .inr (false, [(8, 8)])), (4, .inr (false, [(4, 4)]))], [], mgh20345),
  (52, [(0, .inl 81), (1, .inr (false, [(0, 7)])), (2, .inr (false, [(1, 20)])), (3, .inr (false, [(7, 7)])), (4, .inr (false, [(5, 5)]))], [], mgh20346),
  (43, [(0, .inl 81), (1, .inr (false, [(0, 7)])), (2, .inr (false, [(1, 20)])), (3, .inr (false, [(8, 8)])), (4, .inr (false, [(5, 5)]))], [], mgh20348),
  (52, [(0, .inl 81), (1, .inr (false, [(0, 7)])), (2, .inr (false, [(1, 20)])), (3, .inr (false, [(7, 7)])), (4, .inr (false, [(6, 6)]))], [], mgh20349),
  (43, [(0, .inl 81), (1, .inr (false, [(0, 7)])), (2, .inr (false, [(1, 20)])), (3, .inr (false, [(8, 8)])), (4, .inr (false, [(6, 6)]))], [], mgh20355),
  (52, [(0, .inl 81), (1, .inr (false, [(0, 7)])), (2, .inr (false, [(1, 20)])), (3, .inr (false, [(7, 7)])), (4, .inr (false, [(7, 7)]))], [], mgh20350),
  (43, [(0, .inl 81), (1, .inr (false, [(0, 7)])), (2, .inr (false, [(1, 20)])), (3, .inr (false, [(8, 8)])), (4, .inr (false, [(7, 7)]))], [], mgh20353),
  (52, [(0, .inl 81), (1, .inr (false, [(0, 7)])), (2, .inr (false, [(1, 20)])), (3, .inr (false, [(7, 7)])), (4, .inr (false, [(8, 8)]))], [], mgh20351),
  (43, [(0, .inl 81), (1, .inr (false, [(0, 7)])), (2, .inr (false, [(1, 20)])), (3, .inr (false, [(8, 8)])), (4, .inr (false, [(8, 8)]))], [], mgh20351),
  (43, [(0, .inl 81), (1, .inr (false, [(0, 7)])), (2, .inr (false, [(1, 20)])), (3, .inr (false, [(8, 8)])), (4, .inr (false, [(1, 1)]))], [], mgh20340),
  (52, [(0, .inl 81), (1, .inr (false, [(0, 7)])), (2, .inr (false, [(1, 20)])), (3, .inr (false, [(8, 8)])), (4, .inr (false, [(0, 0)]))], [], mgh20269),
  (43, [(0, .inl 81), (1, .inr (false, [(0, 7)])), (2, .inr (false, [(1, 20)])), (3, .inr (false, [(9, 9)])), (4, .inr (false, [(0, 0)]))], [], mgh20361),
  (52, [(0, .inl 81), (1, .inr (false, [(0, 7)])), (2, .inr (false, [(1, 20)])), (3, .inr (false, [(8, 8)])), (4, .inr (false, [(1, 1)]))], [], mgh20338),
  (52, [(0, .inl 81), (1, .inr (false, [(0, 7)])), (2, .inr (false, [(1, 20)])), (3, .inr (false, [(8, 8)])), (4, .inr (false, [(2, 2)]))], [], mgh20341),
  (52, [(0, .inl 81), (1, .inr (false, [(0, 7)])), (2, .inr (false, [(1, 20)])), (3, .inr (false, [(8, 8)])), (4, .inr (false, [(3, 3)]))], [], mgh20342),
  (43, [(0, .inl 81), (1, .inr (false, [(0, 7)])), (2, .inr (false, [(1, 20)])), (3, .inr (false, [(9, 9)])), (4, .inr (false, [(3, 3)]))], [], mgh20357),
  (52, [(0, .inl 81), (1, .inr (false, [(0, 7)])), (2, .inr (false, [(1, 20)])), (3, .inr (false, [(8, 8)])), (4, .inr (false, [(4, 4)]))], [], mgh20343),
  (43, [(0, .inl 81), (1, .inr (false, [(0, 7)])), (2, .inr (false, [(1, 20)])), (3, .inr (false, [(9, 9)])), (4, .inr (false, [(4, 4)]))], [], mgh20345),
  (52, [(0, .inl 81), (1, .inr (false, [(0, 7)])), (2, .inr (false, [(1, 20)])), (3, .inr (false, [(8, 8)])), (4, .inr (false, [(5, 5)]))], [], mgh20346),
  (52, [(0, .inl 81), (1, .inr (false, [(0, 7)])), (2, .inr (false, [(1, 20)])), (3, .inr (false, [(8, 8)])), (4, .inr (false, [(6, 6)]))], [], mgh20349),
  (52, [(0, .inl 81), (1, .inr (false, [(0, 7)])), (2, .inr (false, [(1, 20)])), (3, .inr (false, [(8, 8)])), (4, .inr (false, [(7, 7)]))], [], mgh20350),
  (43, [(0, .inl 81), (1, .inr (false, [(0, 7)])), (2, .inr (false, [(1, 20)])), (3, .inr (false, [(9, 9)])), (4, .inr (false, [(7, 7)]))], [], mgh20353),
  (52, [(0, .inl 81), (1, .inr (false, [(0, 7)])), (2, .inr (false, [(1, 20)])), (3, .inr (false, [(8, 8)])), (4, .inr (false, [(8, 8)]))], [], mgh20351),
  (43, [(0, .inl 81), (1, .inr (false, [(0, 7)])), (2, .inr (false, [(1, 20)])), (3, .inr (false, [(9, 9)])), (4, .inr (false, [(8, 8)]))], [], mgh20351),
  (43, [(0, .inl 81), (1, .inr (false, [(0, 7)])), (2, .inr (false, [(1, 20)])), (3, .inr (false, [(9, 9)])), (4, .inr (false, [(6, 6)]))], [], mgh20355),
  (43, [(0, .inl 81), (1, .inr (false, [(0, 7)])), (2, .inr (false, [(1, 20)])), (3, .inr (false, [(9, 9)])), (4, .inr (false, [(5, 5)]))], [], mgh20348),
  (43, [(0, .inl 81), (1, .inr (false, [(0, 7)])), (2, .inr (false, [(1, 20)])), (3, .inr (false, [(9, 9)])), (4, .inr (false, [(2, 2)]))], [], mgh20359),
  (43, [(0, .inl 81), (1, .inr (false, [(0, 7)])), (2, .inr (false, [(1, 20)])), (3, .inr (false, [(9, 9)])), (4, .inr (false, [(1, 1)]))], [], mgh20340),
  (52, [(0, .inl 81), (1, .inr (false, [(0, 7)])), (2, .inr (false, [(1, 20)])), (3, .inr (false, [(9, 9)])), (4, .inr (false, [(0, 0)]))], [], mgh20269),
  (52, [(0, .inl 81), (1, .inr (false, [(0, 7)])), (2, .inr (false, [(1, 20)])), (3, .inr (false, [(9, 9)])), (4, .inr (false, [(1, 1)]))], [], mgh20338),
  (43, [(0, .inl 81), (1, .inr (false, [(0, 7)])), (2, .inr (false, [(1, 20)])), (3, .inr (false, [(10, 10)])), (4, .inr (false, [(1, 1)]))], [], mgh20340),
  (52, [(0, .inl 81), (1, .inr (false, [(0, 7)])), (2, .inr (false, [(1, 20)])), (3, .inr (false, [(9, 9)])), (4, .inr (false, [(2, 2)]))], [], mgh20341),
  (52, [(0, .inl 81), (1, .inr (false, [(0, 7)])), (2, .inr (false, [(1, 20)])), (3, .inr (false, [(9, 9)])), (4, .inr (false, [(3, 3)]))], [], mgh20342),
  (52, [(0, .inl 81), (1, .inr (false, [(0, 7)])), (2, .inr (false, [(1, 20)])), (3, .inr (false, [(9, 9)])), (4, .inr (false, [(4, 4)]))], [], mgh20343),
  (52, [(0, .inl 81), (1, .inr (false, [(0, 7)])), (2, .inr (false, [(1, 20)])), (3, .inr (false, [(9, 9)])), (4, .inr (false, [(5, 5)]))], [], mgh20346),
  (43, [(0, .inl 81), (1, .inr (false, [(0, 7)])), (2, .inr (false, [(1, 20)])), (3, .inr (false, [(10, 10)])), (4, .inr (false, [(5, 5)]))], [], mgh20348),
  (52, [(0, .inl 81), (1, .inr (false, [(0, 7)])), (2, .inr (false, [(1, 20)])), (3, .inr (false, [(9, 9)])), (4, .inr (false, [(6, 6)]))], [], mgh20349),
  (52, [(0, .inl 81), (1, .inr (false, [(0, 7)])), (2, .inr (false, [(1, 20)])), (3, .inr (false, [(9, 9)])), (4, .inr (false, [(7, 7)]))], [], mgh20350),
  (52, [(0, .inl 81), (1, .inr (false, [(0, 7)])), (2, .inr (false, [(1, 20)])), (3, .inr (false, [(9, 9)])), (4, .inr (false, [(8, 8)]))], [], mgh20351),
  (43, [(0, .inl 81), (1, .inr (false, [(0, 7)])), (2, .inr (false, [(1, 20)])), (3, .inr (false, [(10, 10)])), (4, .inr (false, [(8, 8)]))], [], mgh20351),
  (43, [(0, .inl 81), (1, .inr (false, [(0, 7)])), (2, .inr (false, [(1, 20)])), (3, .inr (false, [(10, 10)])), (4, .inr (false, [(7, 7)]))], [], mgh20353),
  (43, [(0, .inl 81), (1, .inr (false, [(0, 7)])), (2, .inr (false, [(1, 20)])), (3, .inr (false, [(10, 10)])), (4, .inr (false, [(6, 6)]))], [], mgh20355),
  (43, [(0, .inl 81), (1, .inr (false, [(0, 7)])), (2, .inr (false, [(1, 20)])), (3, .inr (false, [(10, 10)])), (4, .inr (false, [(4, 4)]))], [], mgh20345),
  (43, [(0, .inl 81), (1, .inr (false, [(0, 7)])), (2, .inr (false, [(1, 20)])), (3, .inr (false, [(10, 10)])), (4, .inr (false, [(3, 3)]))], [], mgh20357),
  (43, [(0, .inl 81), (1, .inr (false, [(0, 7)])), (2, .inr (false, [(1, 20)])), (3, .inr (false, [(10, 10)])), (4, .inr (false, [(2, 2)]))], [], mgh20359),
  (43, [(0, .inl 81), (1, .inr (false, [(0, 7)])), (2, .inr (false, [(1, 20)])), (3, .inr (false, [(10, 10)])), (4, .inr (false, [(0, 0)]))], [], mgh20361),
  (52, [(0, .inl 81), (1, .inr (false, [(0, 7)])), (2, .inr (false, [(1, 20)])), (3, .inr (false, [(10, 10)])), (4, .inr (false, [(0, 0)]))], [], mgh20269),
  (43, [(0, .inl 81), (1, .inr (false, [(0, 7)])), (2, .inr (false, [(1, 20)])), (3, .inr (false, [(11, 11)])), (4, .inr (false, [(0, 0)]))], [], mgh20361),
  (52, [(0, .inl 81), (1, .inr (false, [(0, 7)])), (2, .inr (false, [(1, 20)])), (3, .inr (false, [(10, 10)])), (4, .inr (false, [(1, 1)]))], [], mgh20338),
  (43, [(0, .inl 81), (1, .inr (false, [(0, 7)])), (2, .inr (false, [(1, 20)])), (3, .inr (false, [(11, 11)])), (4, .inr (false, [(1, 1)]))], [], mgh20340),
  (52, [(0, .inl 81), (1, .inr (false, [(0, 7)])), (2, .inr (false, [(1, 20)])), (3, .inr (false, [(10, 10)])), (4, .inr (false, [(2, 2)]))], [], mgh20341),
  (52, [(0, .inl 81), (1, .inr (false, [(0, 7)])), (2, .inr (false, [(1, 20)])), (3, .inr (false, [(10, 10)])), (4, .inr (false, [(3, 3)]))], [], mgh20342),
  (43, [(0, .inl 81), (1, .inr (false, [(0, 7)])), (2, .inr (false, [(1, 20)])), (3, .inr (false, [(11, 11)])), (4, .inr (false, [(3, 3)]))], [], mgh20357),
  (52, [(0, .inl 81), (1, .inr (false, [(0, 7)])), (2, .inr (false, [(1, 20)])), (3, .inr (false, [(10, 10)])), (4, .inr (false, [(4, 4)]))], [], mgh20343),
  (43, [(0, .inl 81), (1, .inr (false, [(0, 7)])), (2, .inr (false, [(1, 20)])), (3, .inr (false, [(11, 11)])), (4, .inr (false, [(4, 4)]))], [], mgh20345),
  (52, [(0, .inl 81), (1, .inr (false, [(0, 7)])), (2, .inr (false, [(1, 20)])), (3, .inr (false, [(10, 10)])), (4, .inr (false, [(5, 5)]))], [], mgh20346),
  (43, [(0, .inl 81), (1, .inr (false, [(0, 7)])), (2, .inr (false, [(1, 20)])), (3, .inr (false, [(11, 11)])), (4, .inr (false, [(5, 5)]))], [], mgh20348),
  (52, [(0, .inl 81), (1, .inr (false, [(0, 7)])), (2, .inr (false, [(1, 20)])), (3, .inr (false, [(10, 10)])), (4, .inr (false, [(6, 6)]))], [], mgh20349),
  (52, [(0, .inl 81), (1, .inr (false, [(0, 7)])), (2, .inr (false, [(1, 20)])), (3, .inr (false, [(10, 10)])), (4, .inr (false, [(7, 7)]))], [], mgh20350),
  (43, [(0, .inl 81), (1, .inr (false, [(0, 7)])), (2, .inr (false, [(1, 20)])), (3, .inr (false, [(11, 11)])), (4, .inr (false, [(7, 7)]))], [], mgh20353),
  (52, [(0, .inl 81), (1, .inr (false, [(0, 7)])), (2, .inr (false, [(1, 20)])), (3, .inr (false, [(10, 10)])), (4, .inr (false, [(8, 8)]))], [], mgh20351),
  (43, [(0, .inl 81), (1, .inr (false, [(0, 7)])), (2, .inr (false, [(1, 20)])), (3, .inr (false, [(11, 11)])), (4, .inr (false, [(8, 8)]))], [], mgh20351),
  (43, [(0, .inl 81), (1, .inr (false, [(0, 7)])), (2, .inr (false, [(1, 20)])), (3, .inr (false, [(11, 11)])), (4, .inr (false, [(6, 6)]))], [], mgh20355),
  (43, [(0, .inl 81), (1, .inr (false, [(0, 7)])), (2, .inr (false, [(1, 20)])), (3, .inr (false, [(11, 11)])), (4, .inr (false, [(2, 2)]))], [], mgh20359),
  (52, [(0, .inl 81), (1, .inr (false, [(0, 7)])), (2, .inr (false, [(1, 20)])), (3, .inr (false, [(11, 11)])), (4, .inr (false, [(0, 0)]))], [], mgh20269),
  (52, [(0, .inl 81), (1, .inr (false, [(0, 7)])), (2, .inr (false, [(1, 20)])), (3, .inr (false, [(11, 11)])), (4, .inr (false, [(1, 1)]))], [], mgh20338),
  (43, [(0, .inl 81), (1, .inr (false, [(0, 7)])), (2, .inr (false, [(1, 20)])), (3, .inr (false, [(12, 12)])), (4, .inr (false, [(1, 1)]))], [], mgh20340),
  (52, [(0, .inl 81), (1, .inr (false, [(0, 7)])), (2, .inr (false, [(1, 20)])), (3, .inr (false, [(11, 11)])), (4, .inr (false, [(2, 2)]))], [], mgh20341),
  (43, [(0, .inl 81), (1, .inr (false, [(0, 7)])), (2, .inr (false, [(1, 20)])), (3, .inr (false, [(12, 12)])), (4, .inr (false, [(2, 2)]))], [], mgh20359),
  (52, [(0, .inl 81), (1, .inr (false, [(0, 7)])), (2, .inr (false, [(1, 20)])), (3, .inr (false, [(11, 11)])), (4, .inr (false, [(3, 3)]))], [], mgh20342),
  (52, [(0, .inl 81), (1, .inr (false, [(0, 7)])), (2, .inr (false, [(1, 20)])), (3, .inr (false, [(11, 11)])), (4, .inr (false, [(4, 4)]))], [], mgh20343),
  (43, [(0, .inl 81), (1, .inr (false, [(0, 7)])), (2, .inr (false, [(1, 20)])), (3, .inr (false, [(12, 12)])), (4, .inr (false, [(4, 4)]))], [], mgh20345),
  (52, [(0, .inl 81), (1, .inr (false, [(0, 7)])), (2, .inr (false, [(1, 20)])), (3, .inr (false, [(11, 11)])), (4, .inr (false, [(5, 5)]))], [], mgh20346),
  (52, [(0, .inl 81), (1, .inr (false, [(0, 7)])), (2, .inr (false, [(1, 20)])), (3, .inr (false, [(11, 11)])), (4, .inr (false, [(6, 6)]))], [], mgh20349),
  (43, [(0, .inl 81), (1, .inr (false, [(0, 7)])), (2, .inr (false, [(1, 20)])), (3, .inr (false, [(12, 12)])), (4, .inr (false, [(6, 6)]))], [], mgh20355),
  (52, [(0, .inl 81), (1, .inr (false, [(0, 7)])), (2, .inr (false, [(1, 20)])), (3, .inr (false, [(11, 11)])), (4, .inr (false, [(7, 7)]))], [], mgh20350),
  (52, [(0, .inl 81), (1, .inr (false, [(0, 7)])), (2, .inr (false, [(1, 20)])), (3, .inr (false, [(11, 11)])), (4, .inr (false, [(8, 8)]))], [], mgh20351),
  (43, [(0, .inl 81), (1, .inr (false, [(0, 7)])), (2, .inr (false, [(1, 20)])), (3, .inr (false, [(12, 12)])), (4, .inr (false, [(8, 8)]))], [], mgh20351),
  (43, [(0, .inl 81), (1, .inr (false, [(0, 7)])), (2, .inr (false, [(1, 20)])), (3, .inr (false, [(12, 12)])), (4, .inr (false, [(7, 7)]))], [], mgh20353),
  (43, [(0, .inl 81), (1, .inr (false, [(0, 7)])), (2, .inr (false, [(1, 20)])), (3, .inr (false, [(12, 12)])), (4, .inr (false, [(5, 5)]))], [], mgh20348),
  (43, [(0, .inl 81), (1, .inr (false, [(0, 7)])), (2, .inr (false, [(1, 20)])), (3, .inr (false, [(12, 12)])), (4, .inr (false, [(3, 3)]))], [], mgh20357),
  (43, [(0, .inl 81), (1, .inr (false, [(0, 7)])), (2, .inr (false, [(1, 20)])), (3, .inr (false, [(12, 12)])), (4, .inr (false, [(0, 0)]))], [], mgh20361),
  (52, [(0, .inl 81), (1, .inr (false, [(0, 7)])), (2, .inr (false, [(1, 20)])), (3, .inr (false, [(12, 12)])), (4, .inr (false, [(0, 0)]))], [], mgh20269),
  (52, [(0, .inl 81), (1, .inr (false, [(0, 7)])), (2, .inr (false, [(1, 20)])), (3, .inr (false, [(12, 12)])), (4, .inr (false, [(1, 1)]))], [], mgh20338),
  (52, [(0, .inl 81), (1, .inr (false, [(0, 7)])), (2, .inr (false, [(1, 20)])), (3, .inr (false, [(12, 12)])), (4, .inr (false, [(2, 2)]))], [], mgh20341),
  (52, [(0, .inl 81), (1, .inr (false, [(0, 7)])), (2, .inr (false, [(1, 20)])), (3, .inr (false, [(12, 12)])), (4, .inr (false, [(3, 3)]))], [], mgh20342),
  (43, [(0, .inl 81), (1, .inr (false, [(0, 7)])), (2, .inr (false, [(1, 20)])), (3, .inr (false, [(13, 13)])), (4, .inr (false, [(3, 3)]))], [], mgh20357),
  (52, [(0, .inl 81), (1, .inr (false, [(0, 7)])), (2, .inr (false, [(1, 20)])), (3, .inr (false, [(12, 12)])), (4, .inr (false, [(4, 4)]))], [], mgh20343),
  (43, [(0, .inl 81), (1, .inr (false, [(0, 7)])), (2, .inr (false, [(1, 20)])), (3, .inr (false, [(13, 13)])), (4, .inr (false, [(4, 4)]))], [], mgh20345),
  (52, [(0, .inl 81), (1, .inr (false, [(0, 7)])), (2, .inr (false, [(1, 20)])), (3, .inr (false, [(12, 12)])), (4, .inr (false, [(5, 5)]))], [], mgh20346),
  (43, [(0, .inl 81), (1, .inr (false, [(0, 7)])), (2, .inr (false, [(1, 20)])), (3, .inr (false, [(13, 13)])), (4, .inr (false, [(5, 5)]))], [], mgh20348),
  (52, [(0, .inl 81), (1, .inr (false, [(0, 7)])), (2, .inr (false, [(1, 20)])), (3, .inr (false, [(12, 12)])), (4, .inr (false, [(6, 6)]))], [], mgh20349),
  (52, [(0, .inl 81), (1, .inr (false, [(0, 7)])), (2, .inr (false, [(1, 20)])), (3, .inr (false, [(12, 12)])), (4, .inr (false, [(7, 7)]))], [], mgh20350),
  (52, [(0, .inl 81), (1, .inr (false, [(0, 7)])), (2, .inr (false, [(1, 20)])), (3, .inr (false, [(12, 12)])), (4, .inr (false, [(8, 8)]))], [], mgh20351),
  (43, [(0, .inl 81), (1, .inr (false, [(0, 7)])), (2, .inr (false, [(1, 20)])), (3, .inr (false, [(13, 13)])), (4, .inr (false, [(8, 8)]))], [], mgh20351),
  (43, [(0, .inl 81), (1, .inr (false, [(0, 7)])), (2, .inr (false, [(1, 20)])), (3, .inr (false, [(13, 13)])), (4, .inr (false, [(7, 7)]))], [], mgh20353),
  (43, [(0, .inl 81), (1, .inr (false, [(0, 7)])), (2, .inr (false, [(1, 20)])), (3, .inr (false, [(13, 13)])), (4, .inr (false, [(6, 6)]))], [], mgh20355),
  (43, [(0, .inl 81), (1, .inr (false, [(0, 7)])), (2, .inr (false, [(1, 20)])), (3, .inr (false, [(13, 13)])), (4, .inr (false, [(2, 2)]))], [], mgh20359),
  (43, [(0, .inl 81), (1, .inr (false, [(0, 7)])), (2, .inr (false, [(1, 20)])), (3, .inr (false, [(13, 13)])), (4, .inr (false, [(1, 1)]))], [], mgh20340),
  (43, [(0, .inl 81), (1, .inr (false, [(0, 7)])), (2, .inr (false, [(1, 20)])), (3, .inr (false, [(13, 13)])), (4, .inr (false, [(0, 0)]))], [], mgh20361),
  (52, [(0, .inl 81), (1, .inr (false, [(0, 7)])), (2, .inr (false, [(1, 20)])), (3, .inr (false, [(13, 13)])), (4, .inr (false, [(0, 0)]))], [], mgh20269),
  (43, [(0, .inl 81), (1, .inr (false, [(0, 7)])), (2, .inr (false, [(1, 20)])), (3, .inr (false, [(14, 14)])), (4, .inr (false, [(0, 0)]))], [], mgh20361),
  (52, [(0, .inl 81), (1, .inr (false, [(0, 7)])), (2, .inr (false, [(1, 20)])), (3, .inr (false, [(13, 13)])), (4, .inr (false, [(1, 1)]))], [], mgh20338),
  (52, [(0, .inl 81), (1, .inr (false, [(0, 7)])), (2, .inr (false, [(1, 20)])), (3, .inr (false, [(13, 13)])), (4, .inr (false, [(2, 2)]))], [], mgh20341)]
def mgn1475_2 : List (Nat × aw_S) := [(52, [(0, .inl 81), (1, .inr (false, [(0, 7)])), (2, .inr (false, [(1, 20)])), (3, .inr (false, [(13, 13)])), (4, .inr (false, [(3, 3)]))], [], mgh20342),
  (52, [(0, .inl 81), (1, .inr (false, [(0, 7)])), (2, .inr (false, [(1, 20)])), (3, .inr (false, [(13, 13)])), (4, .inr (false, [(4, 4)]))], [], mgh20343),
  (43, [(0, .inl 81), (1, .inr (false, [(0, 7)])), (2, .inr (false, [(1, 20)])), (3, .inr (false, [(14, 14)])), (4, .inr (false, [(4, 4)]))], [], mgh20345),
  (52, [(0, .inl 81), (1, .inr (false, [(0, 7)])), (2, .inr (false, [(1, 20)])), (3, .inr (false, [(13, 13)])), (4, .inr (false, [(5, 5)]))], [], mgh20346),
  (43, [(0, .inl 81), (1, .inr (false, [(0, 7)])), (2, .inr (false, [(1, 20)])), (3, .inr (false, [(14, 14)])), (4, .inr (false, [(5, 5)]))], [], mgh20348),
  (52, [(0, .inl 81), (1, .inr (false, [(0, 7)])), (2, .inr (false, [(1, 20)])), (3, .inr (false, [(13, 13)])), (4, .inr (false, [(6, 6)]))], [], mgh20349),
  (43, [(0, .inl 81), (1, .inr (false, [(0, 7)])), (2, .inr (false, [(1, 20)])), (3, .inr (false, [(14, 14)])), (4, .inr (false, [(6, 6)]))], [], mgh20355),
  (52, [(0, .inl 81), (1, .inr (false, [(0, 7)])), (2, .inr (false, [(1, 20)])), (3, .inr (false, [(13, 13)])), (4, .inr (false, [(7, 7)]))], [], mgh20350),
  (52, [(0, .inl 81), (1, .inr (false, [(0, 7)])), (2, .inr (false, [(1, 20)])), (3, .inr (false, [(13, 13)])), (4, .inr (false, [(8, 8)]))], [], mgh20351),
  (43, [(0, .inl 81), (1, .inr (false, [(0, 7)])), (2, .inr (false, [(1, 20)])), (3, .inr (false, [(14, 14)])), (4, .inr (false, [(8, 8)]))], [], mgh20351),
  (43, [(0, .inl 81), (1, .inr (false, [(0, 7)])), (2, .inr (false, [(1, 20)])), (3, .inr (false, [(14, 14)])), (4, .inr (false, [(7, 7)]))], [], mgh20353),
  (43, [(0, .inl 81), (1, .inr (false, [(0, 7)])), (2, .inr (false, [(1, 20)])), (3, .inr (false, [(14, 14)])), (4, .inr (false, [(3, 3)]))], [], mgh20357),
  (43, [(0, .inl 81), (1, .inr (false, [(0, 7)])), (2, .inr (false, [(1, 20)])), (3, .inr (false, [(14, 14)])), (4, .inr (false, [(2, 2)]))], [], mgh20359),
  (43, [(0, .inl 81), (1, .inr (false, [(0, 7)])), (2, .inr (false, [(1, 20)])), (3, .inr (false, [(14, 14)])), (4, .inr (false, [(1, 1)]))], [], mgh20340),
  (52, [(0, .inl 81), (1, .inr (false, [(0, 7)])), (2, .inr (false, [(1, 20)])), (3, .inr (false, [(14, 14)])), (4, .inr (false, [(0, 0)]))], [], mgh20269),
  (43, [(0, .inl 81), (1, .inr (false, [(0, 7)])), (2, .inr (false, [(1, 20)])), (3, .inr (false, [(15, 15)])), (4, .inr (false, [(0, 0)]))], [], mgh20361),
  (52, [(0, .inl 81), (1, .inr (false, [(0, 7)])), (2, .inr (false, [(1, 20)])), (3, .inr (false, [(14, 14)])), (4, .inr (false, [(1, 1)]))], [], mgh20338),
  (43, [(0, .inl 81), (1, .inr (false, [(0, 7)])), (2, .inr (false, [(1, 20)])), (3, .inr (false, [(15, 15)])), (4, .inr (false, [(1, 1)]))], [], mgh20340),
  (52, [(0, .inl 81), (1, .inr (false, [(0, 7)])), (2, .inr (false, [(1, 20)])), (3, .inr (false, [(14, 14)])), (4, .inr (false, [(2, 2)]))], [], mgh20341),
  (43, [(0, .inl 81), (1, .inr (false, [(0, 7)])), (2, .inr (false, [(1, 20)])), (3, .inr (false, [(15, 15)])), (4, .inr (false, [(2, 2)]))], [], mgh20359),
  (52, [(0, .inl 81), (1, .inr (false, [(0, 7)])), (2, .inr (false, [(1, 20)])), (3, .inr (false, [(14, 14)])), (4, .inr (false, [(3, 3)]))], [], mgh20342),
  (52, [(0, .inl 81), (1, .inr (false, [(0, 7)])), (2, .inr (false, [(1, 20)])), (3, .inr (false, [(14, 14)])), (4, .inr (false, [(4, 4)]))], [], mgh20343),
  (43, [(0, .inl 81), (1, .inr (false, [(0, 7)])), (2, .inr (false, [(1, 20)])), (3, .inr (false, [(15, 15)])), (4, .inr (false, [(4, 4)]))], [], mgh20345),
  (52, [(0, .inl 81), (1, .inr (false, [(0, 7)])), (2, .inr (false, [(1, 20)])), (3, .inr (false, [(14, 14)])), (4, .inr (false, [(5, 5)]))], [], mgh20346),
  (43, [(0, .inl 81), (1, .inr (false, [(0, 7)])), (2, .inr (false, [(1, 20)])), (3, .inr (false, [(15, 15)])), (4, .inr (false, [(5, 5)]))], [], mgh20348),
  (52, [(0, .inl 81), (1, .inr (false, [(0, 7)])), (2, .inr (false, [(1, 20)])), (3, .inr (false, [(14, 14)])), (4, .inr (false, [(6, 6)]))], [], mgh20349),
  (43, [(0, .inl 81), (1, .inr (false, [(0, 7)])), (2, .inr (false, [(1, 20)])), (3, .inr (false, [(15, 15)])), (4, .inr (false, [(6, 6)]))], [], mgh20355),
  (52, [(0, .inl 81), (1, .inr (false, [(0, 7)])), (2, .inr (false, [(1, 20)])), (3, .inr (false, [(14, 14)])), (4, .inr (false, [(7, 7)]))], [], mgh20350),
  (43, [(0, .inl 81), (1, .inr (false, [(0, 7)])), (2, .inr (false, [(1, 20)])), (3, .inr (false, [(15, 15)])), (4, .inr (false, [(7, 7)]))], [], mgh20353),
  (52, [(0, .inl 81), (1, .inr (false, [(0, 7)])), (2, .inr (false, [(1, 20)])), (3, .inr (false, [(14, 14)])), (4, .inr (false, [(8, 8)]))], [], mgh20351),
  (43, [(0, .inl 81), (1, .inr (false, [(0, 7)])), (2, .inr (false, [(1, 20)])), (3, .inr (false, [(15, 15)])), (4, .inr (false, [(8, 8)]))], [], mgh20351),
  (43, [(0, .inl 81), (1, .inr (false, [(0, 7)])), (2, .inr (false, [(1, 20)])), (3, .inr (false, [(15, 15)])), (4, .inr (false, [(3, 3)]))], [], mgh20357),
  (52, [(0, .inl 81), (1, .inr (false, [(0, 7)])), (2, .inr (false, [(1, 20)])), (3, .inr (false, [(15, 15)])), (4, .inr (false, [(0, 0)]))], [], mgh20269),
  (43, [(0, .inl 81), (1, .inr (false, [(0, 7)])), (2, .inr (false, [(1, 20)])), (3, .inr (false, [(16, 16)])), (4, .inr (false, [(0, 0)]))], [], mgh20361),
  (52, [(0, .inl 81), (1, .inr (false, [(0, 7)])), (2, .inr (false, [(1, 20)])), (3, .inr (false, [(15, 15)])), (4, .inr (false, [(1, 1)]))], [], mgh20338),
  (43, [(0, .inl 81), (1, .inr (false, [(0, 7)])), (2, .inr (false, [(1, 20)])), (3, .inr (false, [(16, 16)])), (4, .inr (false, [(1, 1)]))], [], mgh20340),
  (52, [(0, .inl 81), (1, .inr (false, [(0, 7)])), (2, .inr (false, [(1, 20)])), (3, .inr (false, [(15, 15)])), (4, .inr (false, [(2, 2)]))], [], mgh20341),
  (52, [(0, .inl 81), (1, .inr (false, [(0, 7)])), (2, .inr (false, [(1, 20)])), (3, .inr (false, [(15, 15)])), (4, .inr (false, [(3, 3)]))], [], mgh20342),
  (52, [(0, .inl 81), (1, .inr (false, [(0, 7)])), (2, .inr (false, [(1, 20)])), (3, .inr (false, [(15, 15)])), (4, .inr (false, [(4, 4)]))], [], mgh20343),
  (43, [(0, .inl 81), (1, .inr (false, [(0, 7)])), (2, .inr (false, [(1, 20)])), (3, .inr (false, [(16, 16)])), (4, .inr (false, [(4, 4)]))], [], mgh20345),
  (52, [(0, .inl 81), (1, .inr (false, [(0, 7)])), (2, .inr (false, [(1, 20)])), (3, .inr (false, [(15, 15)])), (4, .inr (false, [(5, 5)]))], [], mgh20346),
  (52, [(0, .inl 81), (1, .inr (false, [(0, 7)])), (2, .inr (false, [(1, 20)])), (3, .inr (false, [(15, 15)])), (4, .inr (false, [(6, 6)]))], [], mgh20349),
  (52, [(0, .inl 81), (1, .inr (false, [(0, 7)])), (2, .inr (false, [(1, 20)])), (3, .inr (false, [(15, 15)])), (4, .inr (false, [(7, 7)]))], [], mgh20350),
  (52, [(0, .inl 81), (1, .inr (false, [(0, 7)])), (2, .inr (false, [(1, 20)])), (3, .inr (false, [(15, 15)])), (4, .inr (false, [(8, 8)]))], [], mgh20351),
  (43, [(0, .inl 81), (1, .inr (false, [(0, 7)])), (2, .inr (false, [(1, 20)])), (3, .inr (false, [(16, 16)])), (4, .inr (false, [(8, 8)]))], [], mgh20351),
  (43, [(0, .inl 81), (1, .inr (false, [(0, 7)])), (2, .inr (false, [(1, 20)])), (3, .inr (false, [(16, 16)])), (4, .inr (false, [(7, 7)]))], [], mgh20353),
  (43, [(0, .inl 81), (1, .inr (false, [(0, 7)])), (2, .inr (false, [(1, 20)])), (3, .inr (false, [(16, 16)])), (4, .inr (false, [(6, 6)]))], [], mgh20355),
  (43, [(0, .inl 81), (1, .inr (false, [(0, 7)])), (2, .inr (false, [(1, 20)])), (3, .inr (false, [(16, 16)])), (4, .inr (false, [(5, 5)]))], [], mgh20348),
  (43, [(0, .inl 81), (1, .inr (false, [(0, 7)])), (2, .inr (false, [(1, 20)])), (3, .inr (false, [(16, 16)])), (4, .inr (false, [(3, 3)]))], [], mgh20357),
  (43, [(0, .inl 81), (1, .inr (false, [(0, 7)])), (2, .inr (false, [(1, 20)])), (3, .inr (false, [(16, 16)])), (4, .inr (false, [(2, 2)]))], [], mgh20359),
  (52, [(0, .inl 81), (1, .inr (false, [(0, 7)])), (2, .inr (false, [(1, 20)])), (3, .inr (false, [(16, 16)])), (4, .inr (false, [(0, 0)]))], [], mgh20269),
  (43, [(0, .inl 81), (1, .inr (false, [(0, 7)])), (2, .inr (false, [(1, 20)])), (3, .inr (false, [(17, 17)])), (4, .inr (false, [(0, 0)]))], [], mgh20361),
  (52, [(0, .inl 81), (1, .inr (false, [(0, 7)])), (2, .inr (false, [(1, 20)])), (3, .inr (false, [(16, 16)])), (4, .inr (false, [(1, 1)]))], [], mgh20338),
  (52, [(0, .inl 81), (1, .inr (false, [(0, 7)])), (2, .inr (false, [(1, 20)])), (3, .inr (false, [(16, 16)])), (4, .inr (false, [(2, 2)]))], [], mgh20341),
  (43, [(0, .inl 81), (1, .inr (false, [(0, 7)])), (2, .inr (false, [(1, 20)])), (3, .inr (false, [(17, 17)])), (4, .inr (false, [(2, 2)]))], [], mgh20359),
  (52, [(0, .inl 81), (1, .inr (false, [(0, 7)])), (2, .inr (false, [(1, 20)])), (3, .inr (false, [(16, 16)])), (4, .inr (false, [(3, 3)]))], [], mgh20342),
  (52, [(0, .inl 81), (1, .inr (false, [(0, 7)])), (2, .inr (false, [(1, 20)])), (3, .inr (false, [(16, 16)])), (4, .inr (false, [(4, 4)]))], [], mgh20343),
  (52, [(0, .inl 81), (1, .inr (false, [(0, 7)])), (2, .inr (false, [(1, 20)])), (3, .inr (false, [(16, 16)])), (4, .inr (false, [(5, 5)]))], [], mgh20346),
  (52, [(0, .inl 81), (1, .inr (false, [(0, 7)])), (2, .inr (false, [(1, 20)])), (3, .inr (false, [(16, 16)])), (4, .inr (false, [(6, 6)]))], [], mgh20349),
  (52, [(0, .inl 81), (1, .inr (false, [(0, 7)])), (2, .inr (false, [(1, 20)])), (3, .inr (false, [(16, 16)])), (4, .inr (false, [(7, 7)]))], [], mgh20350),
  (52, [(0, .inl 81), (1, .inr (false, [(0, 7)])), (2, .inr (false, [(1, 20)])), (3, .inr (false, [(16, 16)])), (4, .inr (false, [(8, 8)]))], [], mgh20351),
  (43, [(0, .inl 81), (1, .inr (false, [(0, 7)])), (2, .inr (false, [(1, 20)])), (3, .inr (false, [(17, 17)])), (4, .inr (false, [(8, 8)]))], [], mgh20351),
  (43, [(0, .inl 81), (1, .inr (false, [(0, 7)])), (2, .inr (false, [(1, 20)])), (3, .inr (false, [(17, 17)])), (4, .inr (false, [(7, 7)]))], [], mgh20353),
  (43, [(0, .inl 81), (1, .inr (false, [(0, 7)])), (2, .inr (false, [(1, 20)])), (3, .inr (false, [(17, 17)])), (4, .inr (false, [(6, 6)]))], [], mgh20355),
  (43, [(0, .inl 81), (1, .inr (false, [(0, 7)])), (2, .inr (false, [(1, 20)])), (3, .inr (false, [(17, 17)])), (4, .inr (false, [(5, 5)]))], [], mgh20348),
  (43, [(0, .inl 81), (1, .inr (false, [(0, 7)])), (2, .inr (false, [(1, 20)])), (3, .inr (false, [(17, 17)])), (4, .inr (false, [(4, 4)]))], [], mgh20345),
  (43, [(0, .inl 81), (1, .inr (false, [(0, 7)])), (2, .inr (false, [(1, 20)])), (3, .inr (false, [(17, 17)])), (4, .inr (false, [(3, 3)]))], [], mgh20357),
  (43, [(0, .inl 81), (1, .inr (false, [(0, 7)])), (2, .inr (false, [(1, 20)])), (3, .inr (false, [(17, 17)])), (4, .inr (false, [(1, 1)]))], [], mgh20340),
  (52, [(0, .inl 81), (1, .inr (false, [(0, 7)])), (2, .inr (false, [(1, 20)])), (3, .inr (false, [(17, 17)])), (4, .inr (false, [(0, 0)]))], [], mgh20269),
  (52, [(0, .inl 81), (1, .inr (false, [(0, 7)])), (2, .inr (false, [(1, 20)])), (3, .inr (false, [(17, 17)])), (4, .inr (false, [(1, 1)]))], [], mgh20338),
  (52, [(0, .inl 81), (1, .inr (false, [(0, 7)])), (2, .inr (false, [(1, 20)])), (3, .inr (false, [(17, 17)])), (4, .inr (false, [(2, 2)]))], [], mgh20341),
  (43, [(0, .inl 81), (1, .inr (false, [(0, 7)])), (2, .inr (false, [(1, 20)])), (3, .inr (false, [(18, 18)])), (4, .inr (false, [(2, 2)]))], [], mgh20359),
  (52, [(0, .inl 81), (1, .inr (false, [(0, 7)])), (2, .inr (false, [(1, 20)])), (3, .inr (false, [(17, 17)])), (4, .inr (false, [(3, 3)]))], [], mgh20342),
  (43, [(0, .inl 81), (1, .inr (false, [(0, 7)])), (2, .inr (false, [(1, 20)])), (3, .inr (false, [(18, 18)])), (4, .inr (false, [(3, 3)]))], [], mgh20357),
  (52, [(0, .inl 81), (1, .inr (false, [(0, 7)])), (2, .inr (false, [(1, 20)])), (3, .inr (false, [(17, 17)])), (4, .inr (false, [(4, 4)]))], [], mgh20343),
  (43, [(0, .inl 81), (1, .inr (false, [(0, 7)])), (2, .inr (false, [(1, 20)])), (3, .inr (false, [(18, 18)])), (4, .inr (false, [(4, 4)]))], [], mgh20345),
  (52, [(0, .inl 81), (1, .inr (false, [(0, 7)])), (2, .inr (false, [(1, 20)])), (3, .inr (false, [(17, 17)])), (4, .inr (false, [(5, 5)]))], [], mgh20346),
  (52, [(0, .inl 81), (1, .inr (false, [(0, 7)])), (2, .inr (false, [(1, 20)])), (3, .inr (false, [(17, 17)])), (4, .inr (false, [(6, 6)]))], [], mgh20349),
  (52, [(0, .inl 81), (1, .inr (false, [(0, 7)])), (2, .inr (false, [(1, 20)])), (3, .inr (false, [(17, 17)])), (4, .inr (false, [(7, 7)]))], [], mgh20350),
  (43, [(0, .inl 81), (1, .inr (false, [(0, 7)])), (2, .inr (false, [(1, 20)])), (3, .inr (false, [(18, 18)])), (4, .inr (false, [(7, 7)]))], [], mgh20353),
  (52, [(0, .inl 81), (1, .inr (false, [(0, 7)])), (2, .inr (false, [(1, 20)])), (3, .inr (false, [(17, 17)])), (4, .inr (false, [(8, 8)]))], [], mgh20351),
  (43, [(0, .inl 81), (1, .inr (false, [(0, 7)])), (2, .inr (false, [(1, 20)])), (3, .inr (false, [(18, 18)])), (4, .inr (false, [(8, 8)]))], [], mgh20351),
  (43, [(0, .inl 81), (1, .inr (false, [(0, 7)])), (2, .inr (false, [(1, 20)])), (3, .inr (false, [(18, 18)])), (4, .inr (false, [(6, 6)]))], [], mgh20355),
  (43, [(0, .inl 81), (1, .inr (false, [(0, 7)])), (2, .inr (false, [(1, 20)])), (3, .inr (false, [(18, 18)])), (4, .inr (false, [(5, 5)]))], [], mgh20348),
  (43, [(0, .inl 81), (1, .inr (false, [(0, 7)])), (2, .inr (false, [(1, 20)])), (3, .inr (false, [(18, 18)])), (4, .inr (false, [(1, 1)]))], [], mgh20340),
  (43, [(0, .inl 81), (1, .inr (false, [(0, 7)])), (2, .inr (false, [(1, 20)])), (3, .inr (false, [(18, 18)])), (4, .inr (false, [(0, 0)]))], [], mgh20361),
  (52, [(0, .inl 81), (1, .inr (false, [(0, 7)])), (2, .inr (false, [(1, 20)])), (3, .inr (false, [(18, 18)])), (4, .inr (false, [(0, 0)]))], [], mgh20269),
  (52, [(0, .inl 81), (1, .inr (false, [(0, 7)])), (2, .inr (false, [(1, 20)])), (3, .inr (false, [(18, 18)])), (4, .inr (false, [(1, 1)]))], [], mgh20338),
  (52, [(0, .inl 81), (1, .inr (false, [(0, 7)])), (2, .inr (false, [(1, 20)])), (3, .inr (false, [(18, 18)])), (4, .inr (false, [(2, 2)]))], [], mgh20341),
  (43, [(0, .inl 81), (1, .inr (false, [(0, 7)])), (2, .inr (false, [(1, 20)])), (3, .inr (false, [(19, 19)])), (4, .inr (false, [(2, 2)]))], [], mgh20359),
  (52, [(0, .inl 81), (1, .inr (false, [(0, 7)])), (2, .inr (false, [(1, 20)])), (3, .inr (false, [(18, 18)])), (4, .inr (false, [(3, 3)]))], [], mgh20342),
  (43, [(0, .inl 81), (1, .inr (false, [(0, 7)])), (2, .inr (false, [(1, 20)])), (3, .inr (false, [(19, 19)])), (4, .inr (false, [(3, 3)]))], [], mgh20357),
  (52, [(0, .inl 81), (1, .inr (false, [(0, 7)])), (2, .inr (false, [(1, 20)])), (3, .inr (false, [(18, 18)])), (4, .inr (false, [(4, 4)]))], [], mgh20343),
  (52, [(0, .inl 81), (1, .inr (false, [(0, 7)])), (2, .inr (false, [(1, 20)])), (3, .inr (false, [(18, 18)])), (4, .inr (false, [(5, 5)]))], [], mgh20346),
  (43, [(0, .inl 81), (1, .inr (false, [(0, 7)])), (2, .inr (false, [(1, 20)])), (3, .inr (false, [(19, 19)])), (4, .inr (false, [(5, 5)]))], [], mgh20348),
  (52, [(0, .inl 81), (1, .inr (false, [(0, 7)])), (2, .inr (false, [(1, 20)])), (3, .inr (false, [(18, 18)])), (4, .inr (false, [(6, 6)]))], [], mgh20349),
  (43, [(0, .inl 81), (1, .inr (false, [(0, 7)])), (2, .inr (false, [(1, 20)])), (3, .inr (false, [(19, 19)])), (4, .inr (false, [(6, 6)]))], [], mgh20355),
  (52, [(0, .inl 81), (1, .inr (false, [(0, 7)])), (2, .inr (false, [(1, 20)])), (3, .inr (false, [(18, 18)])), (4, .inr (false, [(7, 7)]))], [], mgh20350),
  (52, [(0, .inl 81), (1, .inr (false, [(0, 7)])), (2, .inr (false, [(1, 20)])), (3, .inr (false, [(18, 18)])), (4, .inr (false, [(8, 8)]))], [], mgh20351),
  (43, [(0, .inl 81), (1, .inr (false, [(0, 7)])), (2, .inr (false, [(1, 20)])), (3, .inr (false, [(19, 19)])), (4, .inr (false, [(8, 8)]))], [], mgh20351),
  (43, [(0, .inl 81), (1, .inr (false, [(0, 7)])), (2, .inr (false, [(1, 20)])), (3, .inr (false, [(19, 19)])), (4, .inr (false, [(7, 7)]))], [], mgh20353),
  (43, [(0, .inl 81), (1, .inr (false, [(0, 7)])), (2, .inr (false, [(1, 20)])), (3, .inr (false, [(19, 19)])), (4, .inr (false, [(4, 4)]))], [], mgh20345),
  (43, [(0, .inl 81), (1, .inr (false, [(0, 7)])), (2, .inr (false, [(1, 20)])), (3, .inr (false, [(19, 19)])), (4, .inr (false, [(1, 1)]))], [], mgh20340),
  (43, [(0, .inl 81), (1, .inr (false, [(0, 7)])), (2, .inr (false, [(1, 20)])), (3, .inr (false, [(19, 19)])), (4, .inr (false, [(0, 0)]))], [], mgh20361),
  (52, [(0, .inl 81), (1, .inr (false, [(0, 7)])), (2, .inr (false, [(1, 20)])), (3, .inr (false, [(19, 19)])), (4, .inr (false, [(0, 0)]))], [], mgh20269),
  (52, [(0, .inl 81), (1, .inr (false, [(0, 7)])), (2, .inr (false, [(1, 20)])), (3, .inr (false, [(19, 19)])), (4, .inr (false, [(1, 1)]))], [], mgh20338),
  (43, [(0, .inl 81), (1, .inr (false, [(0, 7)])), (2, .inr (false, [(1, 20)])), (3, .inr (false, [(20, 20)])), (4, .inr (false, [(1, 1)]))], [], mgh20340),
  (52, [(0, .inl 81), (1, .inr (false, [(0, 7)])), (2, .inr (false, [(1, 20)])), (3, .inr (false, [(19, 19)])), (4, .inr (false, [(2, 2)]))], [], mgh20341),
  (52, [(0, .inl 81), (1, .inr (false, [(0, 7)])), (2, .inr (false, [(1, 20)])), (3, .inr (false, [(19, 19)])), (4, .inr (false, [(3, 3)]))], [], mgh20342),
  (43, [(0, .inl 81), (1, .inr (false, [(0, 7)])), (2, .inr (false, [(1, 20)])), (3, .inr (false, [(20, 20)])), (4, .inr (false, [(3, 3)]))], [], mgh20357),
  (52, [(0, .inl 81), (1, .inr (false, [(0, 7)])), (2, .inr (false, [(1, 20)])), (3, .inr (false, [(19, 19)])), (4, .inr (false, [(4, 4)]))], [], mgh20343),
  (43, [(0, .inl 81), (1, .inr (false, [(0, 7)])), (2, .inr (false, [(1, 20)])), (3, .inr (false, [(20, 20)])), (4, .inr (false, [(4, 4)]))], [], mgh20345)]
def mgn1475_3 : List (Nat × aw_S) := [(52, [(0, .inl 81), (1, .inr (false, [(0, 7)])), (2, .inr (false, [(1, 20)])), (3, .inr (false, [(19, 19)])), (4, .inr (false, [(5, 5)]))], [], mgh20346),
  (43, [(0, .inl 81), (1, .inr (false, [(0, 7)])), (2, .inr (false, [(1, 20)])), (3, .inr (false, [(20, 20)])), (4, .inr (false, [(5, 5)]))], [], mgh20348),
  (52, [(0, .inl 81), (1, .inr (false, [(0, 7)])), (2, .inr (false, [(1, 20)])), (3, .inr (false, [(19, 19)])), (4, .inr (false, [(6, 6)]))], [], mgh20349),
  (43, [(0, .inl 81), (1, .inr (false, [(0, 7)])), (2, .inr (false, [(1, 20)])), (3, .inr (false, [(20, 20)])), (4, .inr (false, [(6, 6)]))], [], mgh20355),
  (52, [(0, .inl 81), (1, .inr (false, [(0, 7)])), (2, .inr (false, [(1, 20)])), (3, .inr (false, [(19, 19)])), (4, .inr (false, [(7, 7)]))], [], mgh20350),
  (43, [(0, .inl 81), (1, .inr (false, [(0, 7)])), (2, .inr (false, [(1, 20)])), (3, .inr (false, [(20, 20)])), (4, .inr (false, [(7, 7)]))], [], mgh20353),
  (52, [(0, .inl 81), (1, .inr (false, [(0, 7)])), (2, .inr (false, [(1, 20)])), (3, .inr (false, [(19, 19)])), (4, .inr (false, [(8, 8)]))], [], mgh20351),
  (43, [(0, .inl 81), (1, .inr (false, [(0, 7)])), (2, .inr (false, [(1, 20)])), (3, .inr (false, [(20, 20)])), (4, .inr (false, [(8, 8)]))], [], mgh20351),
  (43, [(0, .inl 81), (1, .inr (false, [(0, 7)])), (2, .inr (false, [(1, 20)])), (3, .inr (false, [(20, 20)])), (4, .inr (false, [(2, 2)]))], [], mgh20359),
  (43, [(0, .inl 81), (1, .inr (false, [(0, 7)])), (2, .inr (false, [(1, 20)])), (3, .inr (false, [(20, 20)])), (4, .inr (false, [(0, 0)]))], [], mgh20361),
  (52, [(0, .inl 81), (1, .inr (false, [(0, 7)])), (2, .inr (false, [(1, 20)])), (3, .inr (false, [(20, 20)])), (4, .inr (false, [(0, 0)]))], [], mgh20269),
  (43, [(0, .inl 81), (1, .inr (false, [(0, 7)])), (2, .inr (false, [(1, 20)])), (3, .inr (false, [(21, 21)])), (4, .inr (false, [(0, 0)]))], [], mgh20361),
  (52, [(0, .inl 81), (1, .inr (false, [(0, 7)])), (2, .inr (false, [(1, 20)])), (3, .inr (false, [(20, 20)])), (4, .inr (false, [(1, 1)]))], [], mgh20338),
  (52, [(0, .inl 81), (1, .inr (false, [(0, 7)])), (2, .inr (false, [(1, 20)])), (3, .inr (false, [(20, 20)])), (4, .inr (false, [(2, 2)]))], [], mgh20341),
  (52, [(0, .inl 81), (1, .inr (false, [(0, 7)])), (2, .inr (false, [(1, 20)])), (3, .inr (false, [(20, 20)])), (4, .inr (false, [(3, 3)]))], [], mgh20342),
  (43, [(0, .inl 81), (1, .inr (false, [(0, 7)])), (2, .inr (false, [(1, 20)])), (3, .inr (false, [(21, 21)])), (4, .inr (false, [(3, 3)]))], [], mgh20357),
  (52, [(0, .inl 81), (1, .inr (false, [(0, 7)])), (2, .inr (false, [(1, 20)])), (3, .inr (false, [(20, 20)])), (4, .inr (false, [(4, 4)]))], [], mgh20343),
  (43, [(0, .inl 81), (1, .inr (false, [(0, 7)])), (2, .inr (false, [(1, 20)])), (3, .inr (false, [(21, 21)])), (4, .inr (false, [(4, 4)]))], [], mgh20345),
  (52, [(0, .inl 81), (1, .inr (false, [(0, 7)])), (2, .inr (false, [(1, 20)])), (3, .inr (false, [(20, 20)])), (4, .inr (false, [(5, 5)]))], [], mgh20346),
  (52, [(0, .inl 81), (1, .inr (false, [(0, 7)])), (2, .inr (false, [(1, 20)])), (3, .inr (false, [(20, 20)])), (4, .inr (false, [(6, 6)]))], [], mgh20349),
  (52, [(0, .inl 81), (1, .inr (false, [(0, 7)])), (2, .inr (false, [(1, 20)])), (3, .inr (false, [(20, 20)])), (4, .inr (false, [(7, 7)]))], [], mgh20350),
  (52, [(0, .inl 81), (1, .inr (false, [(0, 7)])), (2, .inr (false, [(1, 20)])), (3, .inr (false, [(20, 20)])), (4, .inr (false, [(8, 8)]))], [], mgh20351),
  (43, [(0, .inl 81), (1, .inr (false, [(0, 7)])), (2, .inr (false, [(1, 20)])), (3, .inr (false, [(21, 21)])), (4, .inr (false, [(8, 8)]))], [], mgh20351),
  (43, [(0, .inl 81), (1, .inr (false, [(0, 7)])), (2, .inr (false, [(1, 20)])), (3, .inr (false, [(21, 21)])), (4, .inr (false, [(7, 7)]))], [], mgh20353),
  (43, [(0, .inl 81), (1, .inr (false, [(0, 7)])), (2, .inr (false, [(1, 20)])), (3, .inr (false, [(21, 21)])), (4, .inr (false, [(6, 6)]))], [], mgh20355),
  (43, [(0, .inl 81), (1, .inr (false, [(0, 7)])), (2, .inr (false, [(1, 20)])), (3, .inr (false, [(21, 21)])), (4, .inr (false, [(5, 5)]))], [], mgh20348),
  (43, [(0, .inl 81), (1, .inr (false, [(0, 7)])), (2, .inr (false, [(1, 20)])), (3, .inr (false, [(21, 21)])), (4, .inr (false, [(2, 2)]))], [], mgh20359),
  (43, [(0, .inl 81), (1, .inr (false, [(0, 7)])), (2, .inr (false, [(1, 20)])), (3, .inr (false, [(21, 21)])), (4, .inr (false, [(1, 1)]))], [], mgh20340)]
def mgb1475 : sm_P := (fun pc => sm_ch sm_t165 pc, sm_Kn 3 5 none, fun x => sm_lk sm_ca3 x, some .int)
set_option maxRecDepth 100000 in
theorem mgk1475_e : ai_nd2 [mgc1425, mgc1473, mgc1474] mgc1475 mgb1475 [81, 82] 3 [43, 52] [] 2000 [(0, ai_lv mgc1475.2.1 0, [], mgc1475.2.2.1)] (mgn1475_0 ++ (mgn1475_1 ++ (mgn1475_2 ++ (mgn1475_3 ++ [])))) = true := by decide +kernel
set_option maxRecDepth 100000 in
theorem mgk1475_0 : ai_nd2 [mgc1425, mgc1473, mgc1474] mgc1475 mgb1475 [81, 82] 3 [43, 52] [] 2000 mgn1475_0 (mgn1475_1 ++ (mgn1475_2 ++ (mgn1475_3 ++ []))) = true := by decide +kernel
set_option maxRecDepth 100000 in
theorem mgk1475_1 : ai_nd2 [mgc1425, mgc1473, mgc1474] mgc1475 mgb1475 [81, 82] 3 [43, 52] [] 2000 mgn1475_1 (mgn1475_2 ++ (mgn1475_3 ++ [])) = true := by decide +kernel
set_option maxRecDepth 100000 in
theorem mgk1475_2 : ai_nd2 [mgc1425, mgc1473, mgc1474] mgc1475 mgb1475 [81, 82] 3 [43, 52] [] 2000 mgn1475_2 (mgn1475_3 ++ []) = true := by decide +kernel
set_option maxRecDepth 100000 in
theorem mgk1475_3 : ai_nd2 [mgc1425, mgc1473, mgc1474] mgc1475 mgb1475 [81, 82] 3 [43, 52] [] 2000 mgn1475_3 [] = true := by decide +kernel
set_option maxRecDepth 100000 in
theorem mgk1475 : ai_chk [mgc1425, mgc1473, mgc1474] mgc1475 mgb1475 [81, 82] 5 3 [43, 52] [] 2000 (mgn1475_0 ++ (mgn1475_1 ++ (mgn1475_2 ++ (mgn1475_3 ++ [])))) = true := ai_chk_of (by decide +kernel) (ai_nd2_s (ai_nd2_s (ai_nd2_s (ai_nd2_s (ai_nd2_s rfl mgk1475_3) mgk1475_2) mgk1475_1) mgk1475_0) mgk1475_e)
