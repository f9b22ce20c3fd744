/-- MiceRegistersModel.tellParts -/
def m0c11 : ak_C := (186, [.inl 81, .inr (true, [(-72057594037927936, 72057594037927936)]), .inr (true, [(1, 1099511627776)])], m0h1, [81], [([], none, m0h1)])
/-- MiceRegistersModel.chancesOf -/
def m0c12 : ak_C := (185, [.inl 81, .inr (false, [(0, 0)]), .inr (false, [(12, 12)])], m0h1, [], [([], some (.inr (true, [(1, 1)])), [])])
theorem m0k12 : ai_chk [] m0c12 (fun pc => sm_ch sm_t185 pc, sm_Kn 3 6 none, fun x => sm_lk sm_ca3 x, some .long) [] 6 0 [5] [] 2000 [(5, [(0, .inl 81), (1, .inr (false, [(0, 0)])), (2, .inr (false, [(12, 12)])), (3, .inr (true, [(1, 1)])), (5, .inr (false, [(0, 0)]))], [], m0h1)] = true := by decide +kernel
/-- MiceRegistersModel.odds -/
def m0c13 : ak_C := (184, [.inl 81, .inr (false, ar_t32), .inr (false, ar_t32)], m0h3, [81, 82], [([[], [], []], some (.inr (false, [(-1, -1)])), m0h3), ([[], [(0, 7)], [(0, 12)]], some (.inr (false, [(1, 1)])), m0h3)])
theorem m0k13 : ai_chk [m0c6, m0c7, m0c8, m0c9, m0c10, m0c11, m0c12] m0c13 (fun pc => sm_ch sm_t184 pc, sm_Kn 3 10 none, fun x => sm_lk sm_ca3 x, some .int) [81, 82] 10 3 [30] [(22, some (0, 2, 0), 12, 1)] 2000 [(30, [(0, .inl 81), (1, .inr (false, [(0, 7)])), (2, .inr (false, [(0, 11)])), (3, .inr (true, [(0, 0)])), (5, .inr (true, [(0, 0)])), (7, .inr (false, [(0, 0)]))], [], m0h3),
  (30, [(0, .inl 81), (1, .inr (false, [(0, 7)])), (2, .inr (false, [(0, 11)])), (3, .inr (true, [(0, 1)])), (5, .inr (true, [(1, 1)])), (7, .inr (false, [(1, 1)])), (8, .inr (true, [(1, 1)]))], [], m0h3),
  (30, [(0, .inl 81), (1, .inr (false, [(0, 7)])), (2, .inr (false, [(12, 12)])), (3, .inr (true, [(0, 0)])), (5, .inr (true, [(0, 0)])), (7, .inr (false, [(0, 0)]))], [], m0h3),
  (30, [(0, .inl 81), (1, .inr (false, [(0, 7)])), (2, .inr (false, [(12, 12)])), (3, .inr (true, [(0, 1)])), (5, .inr (true, [(1, 1)])), (7, .inr (false, [(1, 1)])), (8, .inr (true, [(1, 1)]))], [], m0h3)] = true := by decide +kernel
/-- MiceRegistersModel.mid -/
def m0c14 : ak_C := (187, [.inl 81, .inr (false, ar_t32)], m0h1, [], [([[], [(-2147483648, -1), (13, 2147483647)]], some (.inr (false, [(-1, -1)])), []), ([[], [(0, 12)]], some (.inr (false, [(-4, -4)])), [])])
theorem m0k14 : ai_chk [m0c7] m0c14 (fun pc => sm_ch sm_t187 pc, sm_Kn 3 9 none, fun x => sm_lk sm_ca3 x, some .int) [] 9 2 [32] [(24, some (0, 1, 0), 12, 1)] 2000 [] = true := by decide +kernel
/-- MiceRegistersModel.in -/
def m1c2 : ak_C := (105, [.inr (true, ar_t32), .inr (true, [(0, 0)]), .inr (true, [(0, 0)])], [], [], [([[(0, 0)], [], []], some (.inr (false, [(1, 1)])), []), ([[(-2147483648, -1), (1, 2147483647)], [], []], some (.inr (false, [(0, 0)])), [])])
theorem m1k2 : ai_chk [] m1c2 (fun pc => sm_ch sm_t105 pc, sm_Kn 3 6 none, fun x => sm_lk sm_ca3 x, some .boolean) [] 6 6 [] [] 2000 [] = true := by decide +kernel
/-- MiceRegistersModel.isMouse -/
def m1x0 : aw_A := ms_o [(1, 8)] [(1, 1)] ar_t32 ar_t32 [(0, 180)] [(0, 60)] [(-1, 60)] [(0, 8)] [(0, 4)]
def m1h1 : aw_H := [(81, m1x0)]
def m1c3 : ak_C := (140, [.inl 81, .inr (false, ar_t32)], m1h1, [], [([[], [(-2147483648, -1), (1, 2147483647)]], some (.inr (false, [(0, 0)])), []), ([[], [(0, 0)]], some (.inr (false, [(1, 1)])), [])])
theorem m1k3 : ai_chk [m1c2] m1c3 (fun pc => sm_ch sm_t140 pc, sm_Kn 3 2 none, fun x => sm_lk sm_ca3 x, some .boolean) [] 2 2 [] [] 2000 [] = true := by decide +kernel
/-- MiceRegistersModel.in -/
def m1c4 : ak_C := (105, [.inr (true, ar_t32), .inr (true, [(1, 1)]), .inr (true, [(5, 5)])], [], [], [([[(1, 5)], [], []], some (.inr (false, [(1, 1)])), []), ([[(-2147483648, 0), (6, 2147483647)], [], []], some (.inr (false, [(0, 0)])), [])])
theorem m1k4 : ai_chk [] m1c4 (fun pc => sm_ch sm_t105 pc, sm_Kn 3 6 none, fun x => sm_lk sm_ca3 x, some .boolean) [] 6 6 [] [] 2000 [] = true := by decide +kernel
/-- MiceRegistersModel.isOf -/
def m1h2 : aw_H := [(81, m1x0), (85, .inr (.inl (0, 4, [], [])))]
def m1c5 : ak_C := (144, [.inl 81, .inr (false, [(0, 3)]), .inr (false, ar_t32)], m1h2, [], [([], some (.inr (false, [(0, 0)])), []), ([], some (.inr (false, [(1, 1)])), [])])
theorem m1k5 : ai_chk [] m1c5 (fun pc => sm_ch sm_t144 pc, sm_Kn 3 4 none, fun x => sm_lk sm_ca3 x, some .boolean) [] 4 0 [] [] 2000 [] = true := by decide +kernel
/-- MiceRegistersModel.eatsOf -/
def m1x3 : aw_A := .inr (.inl (0, 4, [(0, 0, [(1, 9)])], []))
def m1h4 : aw_H := [(81, m1x0), (85, .inr (.inl (0, 4, [], []))), (86, m1x3)]
def m1c6 : ak_C := (142, [.inl 81, .inr (false, [(0, 0)])], m1h4, [], [([], some (.inr (false, [(1, 18)])), [])])
theorem m1k6 : ai_chk [] m1c6 (fun pc => sm_ch sm_t142 pc, sm_Kn 3 2 none, fun x => sm_lk sm_ca3 x, some .int) [] 2 0 [] [] 2000 [] = true := by decide +kernel
/-- MiceRegistersModel.littleWrong -/
def m1h5 : aw_H := [(81, m1x0), (83, .inr (.inl (0, 8, [], [])))]
def m1c7 : ak_C := (146, [.inl 81], m1h5, [], [([], some (.inr (false, [(0, 8)])), [])])
def m1h6 : aw_H := [(81, m1x0), (83, .inr (.inl (0, 8, [], [(0, ar_t32)])))]
def m1x7 : aw_A := ms_o [(2, 8)] [(1, 1)] ar_t32 ar_t32 [(0, 180)] [(0, 60)] [(-1, 60)] [(0, 8)] [(0, 4)]
def m1x8 : aw_A := .inr (.inl (0, 8, [], [(0, ar_t32), (1, ar_t32)]))
def m1h9 : aw_H := [(81, m1x7), (83, m1x8)]
def m1x10 : aw_A := ms_o [(3, 8)] [(1, 1)] ar_t32 ar_t32 [(0, 180)] [(0, 60)] [(-1, 60)] [(0, 8)] [(0, 4)]
def m1x11 : aw_A := .inr (.inl (0, 8, [], [(0, ar_t32), (1, ar_t32), (2, ar_t32)]))
def m1h12 : aw_H := [(81, m1x10), (83, m1x11)]
