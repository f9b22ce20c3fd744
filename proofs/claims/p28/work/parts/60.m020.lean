/-! Contracts over ranges of the reference, and their checks; printed by a program of mine. -/
/-- MiceRegistersModel.in -/
def m0c2 : ak_C := (105, [.inr (true, ar_t32), .inr (true, [(0, 0)]), .inr (true, [(-1, -1)])], [], [], [([], some (.inr (false, [(0, 0)])), [])])
theorem m0k2 : ai_chk [] m0c2 (fun pc => sm_ch sm_t105 pc, sm_Kn 3 6 none, fun x => sm_lk sm_ca3 x, some .boolean) [] 6 0 [] [] 2000 [] = true := by decide +kernel
/-- MiceRegistersModel.isMouse -/
def m0x0 : aw_A := ms_o [(0, 8)] [(0, 0)] ar_t32 ar_t32 [(0, 180)] [(0, 60)] [(-1, 60)] [(0, 8)] [(0, 4)]
def m0h1 : aw_H := [(81, m0x0)]
def m0c3 : ak_C := (140, [.inl 81, .inr (false, ar_t32)], m0h1, [], [([], some (.inr (false, [(0, 0)])), [])])
theorem m0k3 : ai_chk [m0c2] m0c3 (fun pc => sm_ch sm_t140 pc, sm_Kn 3 2 none, fun x => sm_lk sm_ca3 x, some .boolean) [] 2 0 [] [] 2000 [] = true := by decide +kernel
/-- MiceRegistersModel.mark -/
def m0c4 : ak_C := (143, [.inl 81, .inr (false, ar_t32), .inr (false, ar_t32)], m0h1, [], [([], some (.inr (false, [(-1, -1)])), [])])
theorem m0k4 : ai_chk [m0c3] m0c4 (fun pc => sm_ch sm_t143 pc, sm_Kn 3 3 none, fun x => sm_lk sm_ca3 x, some .int) [] 3 0 [] [] 2000 [] = true := by decide +kernel
/-- MiceRegistersModel.in -/
def m0c5 : ak_C := (105, [.inr (true, ar_t32), .inr (true, [(0, 0)]), .inr (true, [(-1, 7)])], [], [], [([[(0, 7)], [], [(0, 7)]], some (.inr (false, [(1, 1)])), []), ([[], [], []], some (.inr (false, [(0, 0)])), [])])
theorem m0k5 : ai_chk [] m0c5 (fun pc => sm_ch sm_t105 pc, sm_Kn 3 6 none, fun x => sm_lk sm_ca3 x, some .boolean) [] 6 6 [] [] 2000 [] = true := by decide +kernel
/-- MiceRegistersModel.isLine -/
def m0c6 : ak_C := (131, [.inl 81, .inr (false, ar_t32)], m0h1, [], [([[], []], some (.inr (false, [(0, 0)])), []), ([[], [(0, 7)]], some (.inr (false, [(1, 1)])), [])])
theorem m0k6 : ai_chk [m0c5] m0c6 (fun pc => sm_ch sm_t131 pc, sm_Kn 3 2 none, fun x => sm_lk sm_ca3 x, some .boolean) [] 2 2 [] [] 2000 [] = true := by decide +kernel
/-- MiceRegistersModel.in -/
def m0c7 : ak_C := (105, [.inr (true, ar_t32), .inr (true, [(0, 0)]), .inr (true, [(12, 12)])], [], [], [([[(0, 12)], [], []], some (.inr (false, [(1, 1)])), []), ([[(-2147483648, -1), (13, 2147483647)], [], []], some (.inr (false, [(0, 0)])), [])])
theorem m0k7 : ai_chk [] m0c7 (fun pc => sm_ch sm_t105 pc, sm_Kn 3 6 none, fun x => sm_lk sm_ca3 x, some .boolean) [] 6 6 [] [] 2000 [] = true := by decide +kernel
/-- MiceRegistersModel.chancesOf -/
def m0c8 : ak_C := (185, [.inl 81, .inr (false, [(0, 0)]), .inr (false, [(0, 11)])], m0h1, [], [([], some (.inr (true, [(1, 1)])), [])])
theorem m0k8 : ai_chk [] m0c8 (fun pc => sm_ch sm_t185 pc, sm_Kn 3 6 none, fun x => sm_lk sm_ca3 x, some .long) [] 6 0 [5] [] 2000 [(5, [(0, .inl 81), (1, .inr (false, [(0, 0)])), (2, .inr (false, [(0, 11)])), (3, .inr (true, [(1, 1)])), (5, .inr (false, [(0, 0)]))], [], m0h1)] = true := by decide +kernel
def m0h2 : aw_H := [(82, ms_r [(0, [(-1, 40)])])]
/-- MiceRegistersModel.layTried -/
def m0h3 : aw_H := [(81, m0x0), (82, ms_r [(0, [(-1, 40)])])]
def m0c9 : ak_C := (160, [.inl 81], m0h3, [82], [([], none, m0h2)])
theorem m0k9 : ai_chk [] m0c9 (fun pc => sm_ch sm_t160 pc, sm_Kn 3 2 none, fun x => sm_lk sm_ca3 x, none) [82] 2 0 [2] [] 2000 [(2, [(0, .inl 81), (1, .inr (false, [(0, 0)]))], [], m0h3),
  (2, [(0, .inl 81), (1, .inr (false, [(1, 1)]))], [], m0h3),
  (2, [(0, .inl 81), (1, .inr (false, [(2, 2)]))], [], m0h3),
  (2, [(0, .inl 81), (1, .inr (false, [(3, 3)]))], [], m0h3),
  (2, [(0, .inl 81), (1, .inr (false, [(4, 4)]))], [], m0h3),
  (2, [(0, .inl 81), (1, .inr (false, [(5, 5)]))], [], m0h3),
  (2, [(0, .inl 81), (1, .inr (false, [(6, 6)]))], [], m0h3),
  (2, [(0, .inl 81), (1, .inr (false, [(7, 7)]))], [], m0h3),
  (2, [(0, .inl 81), (1, .inr (false, [(8, 8)]))], [], m0h3),
  (2, [(0, .inl 81), (1, .inr (false, [(9, 9)]))], [], m0h3),
  (2, [(0, .inl 81), (1, .inr (false, [(10, 10)]))], [], m0h3),
  (2, [(0, .inl 81), (1, .inr (false, [(11, 11)]))], [], m0h3),
  (2, [(0, .inl 81), (1, .inr (false, [(12, 12)]))], [], m0h3),
  (2, [(0, .inl 81), (1, .inr (false, [(13, 13)]))], [], m0h3),
  (2, [(0, .inl 81), (1, .inr (false, [(14, 14)]))], [], m0h3),
  (2, [(0, .inl 81), (1, .inr (false, [(15, 15)]))], [], m0h3),
  (2, [(0, .inl 81), (1, .inr (false, [(16, 16)]))], [], m0h3),
  (2, [(0, .inl 81), (1, .inr (false, [(17, 17)]))], [], m0h3),
  (2, [(0, .inl 81), (1, .inr (false, [(18, 18)]))], [], m0h3),
  (2, [(0, .inl 81), (1, .inr (false, [(19, 19)]))], [], m0h3),
  (2, [(0, .inl 81), (1, .inr (false, [(20, 20)]))], [], m0h3),
  (2, [(0, .inl 81), (1, .inr (false, [(21, 21)]))], [], m0h3),
  (2, [(0, .inl 81), (1, .inr (false, [(22, 22)]))], [], m0h3),
  (2, [(0, .inl 81), (1, .inr (false, [(23, 23)]))], [], m0h3),
  (2, [(0, .inl 81), (1, .inr (false, [(24, 24)]))], [], m0h3)] = true := by decide +kernel
/-- MiceRegistersModel.passes -/
def m0c10 : ak_C := (150, [.inl 81, .inr (false, [(3776, 3776)]), .inr (false, ar_t32)], m0h3, [82], [([], some (.inr (false, [(0, 0)])), m0h2)])
def czm010x0 : aw_A := ms_o [(0, 8)] [(0, 0)] ar_t32 ar_t32 [(0, 180)] [(0, 60)] [(-1, 60)] [(0, 8)] [(0, 4)]
def czm010h1 : aw_H := [(81, czm010x0), (82, ms_r [(0, [(-1, 40)])])]
set_option maxRecDepth 100000 in
theorem m0k10 : ai_ch2 [] m0c10 (fun pc => sm_ch sm_t150 pc, sm_Kn 3 7 none, fun x => sm_lk sm_ca3 x, some .int) [82] 7 0 [5, 130] [] 2000 [.inl (5, [(0, .inl 81), (1, .inr (false, [(3776, 3776)])), (2, .inr (false, ar_t32)), (3, .inr (false, [(0, 0)])), (4, .inr (false, [(0, 0)]))], [], czm010h1),
  .inr (4, false, [((130, [(0, .inl 81), (1, .inr (false, [(3776, 3776)])), (2, .inr (false, ar_t32)), (3, .inr (false, [(0, 0)])), (4, .inr (false, [(0, 8)]))], [], czm010h1), none)])] = true := by decide +kernel
/-- MiceRegistersModel.tellParts -/
def m0c11 : ak_C := (186, [.inl 81, .inr (true, [(-72057594037927936, 72057594037927936)]), .inr (true, [(1, 1099511627776)])], m0h1, [81], [([], none, m0h1)])
/-- MiceRegistersModel.chancesOf -/
def m0c12 : ak_C := (185, [.inl 81, .inr (false, [(0, 0)]), .inr (false, [(12, 12)])], m0h1, [], [([], some (.inr (true, [(1, 1)])), [])])
theorem m0k12 : ai_chk [] m0c12 (fun pc => sm_ch sm_t185 pc, sm_Kn 3 6 none, fun x => sm_lk sm_ca3 x, some .long) [] 6 0 [5] [] 2000 [(5, [(0, .inl 81), (1, .inr (false, [(0, 0)])), (2, .inr (false, [(12, 12)])), (3, .inr (true, [(1, 1)])), (5, .inr (false, [(0, 0)]))], [], m0h1)] = true := by decide +kernel
/-- MiceRegistersModel.odds -/
def m0c13 : ak_C := (184, [.inl 81, .inr (false, ar_t32), .inr (false, ar_t32)], m0h3, [81, 82], [([[], [], []], some (.inr (false, [(-1, -1)])), m0h3), ([[], [(0, 7)], [(0, 12)]], some (.inr (false, [(1, 1)])), m0h3)])
theorem m0k13 : ai_chk [m0c6, m0c7, m0c8, m0c9, m0c10, m0c11, m0c12] m0c13 (fun pc => sm_ch sm_t184 pc, sm_Kn 3 10 none, fun x => sm_lk sm_ca3 x, some .int) [81, 82] 10 3 [30] [(22, some (0, 2, 0), 12, 1)] 2000 [(30, [(0, .inl 81), (1, .inr (false, [(0, 7)])), (2, .inr (false, [(0, 11)])), (3, .inr (true, [(0, 0)])), (5, .inr (true, [(0, 0)])), (7, .inr (false, [(0, 0)]))], [], m0h3),
  (30, [(0, .inl 81), (1, .inr (false, [(0, 7)])), (2, .inr (false, [(0, 11)])), (3, .inr (true, [(0, 1)])), (5, .inr (true, [(1, 1)])), (7, .inr (false, [(1, 1)])), (8, .inr (true, [(1, 1)]))], [], m0h3),
  (30, [(0, .inl 81), (1, .inr (false, [(0, 7)])), (2, .inr (false, [(12, 12)])), (3, .inr (true, [(0, 0)])), (5, .inr (true, [(0, 0)])), (7, .inr (false, [(0, 0)]))], [], m0h3),
  (30, [(0, .inl 81), (1, .inr (false, [(0, 7)])), (2, .inr (false, [(12, 12)])), (3, .inr (true, [(0, 1)])), (5, .inr (true, [(1, 1)])), (7, .inr (false, [(1, 1)])), (8, .inr (true, [(1, 1)]))], [], m0h3)] = true := by decide +kernel
/-- MiceRegistersModel.mid -/
def m0c14 : ak_C := (187, [.inl 81, .inr (false, ar_t32)], m0h1, [], [([[], [(-2147483648, -1), (13, 2147483647)]], some (.inr (false, [(-1, -1)])), []), ([[], [(0, 12)]], some (.inr (false, [(-4, -4)])), [])])
theorem m0k14 : ai_chk [m0c7] m0c14 (fun pc => sm_ch sm_t187 pc, sm_Kn 3 9 none, fun x => sm_lk sm_ca3 x, some .int) [] 9 2 [32] [(24, some (0, 1, 0), 12, 1)] 2000 [] = true := by decide +kernel
/-- MiceRegistersModel.in -/
def m1c2 : ak_C := (105, [.inr (true, ar_t32), .inr (true, [(0, 0)]), .inr (true, [(0, 0)])], [], [], [([[(0, 0)], [], []], some (.inr (false, [(1, 1)])), []), ([[(-2147483648, -1), (1, 2147483647)], [], []], some (.inr (false, [(0, 0)])), [])])
theorem m1k2 : ai_chk [] m1c2 (fun pc => sm_ch sm_t105 pc, sm_Kn 3 6 none, fun x => sm_lk sm_ca3 x, some .boolean) [] 6 6 [] [] 2000 [] = true := by decide +kernel
/-- MiceRegistersModel.isMouse -/
def m1x0 : aw_A := ms_o [(1, 8)] [(1, 1)] ar_t32 ar_t32 [(0, 180)] [(0, 60)] [(-1, 60)] [(0, 8)] [(0, 4)]
def m1h1 : aw_H := [(81, m1x0)]
def m1c3 : ak_C := (140, [.inl 81, .inr (false, ar_t32)], m1h1, [], [([[], [(-2147483648, -1), (1, 2147483647)]], some (.inr (false, [(0, 0)])), []), ([[], [(0, 0)]], some (.inr (false, [(1, 1)])), [])])
theorem m1k3 : ai_chk [m1c2] m1c3 (fun pc => sm_ch sm_t140 pc, sm_Kn 3 2 none, fun x => sm_lk sm_ca3 x, some .boolean) [] 2 2 [] [] 2000 [] = true := by decide +kernel
/-- MiceRegistersModel.in -/
def m1c4 : ak_C := (105, [.inr (true, ar_t32), .inr (true, [(1, 1)]), .inr (true, [(5, 5)])], [], [], [([[(1, 5)], [], []], some (.inr (false, [(1, 1)])), []), ([[(-2147483648, 0), (6, 2147483647)], [], []], some (.inr (false, [(0, 0)])), [])])
theorem m1k4 : ai_chk [] m1c4 (fun pc => sm_ch sm_t105 pc, sm_Kn 3 6 none, fun x => sm_lk sm_ca3 x, some .boolean) [] 6 6 [] [] 2000 [] = true := by decide +kernel
/-- MiceRegistersModel.isOf -/
def m1h2 : aw_H := [(81, m1x0), (85, .inr (.inl (0, 4, [], [])))]
def m1c5 : ak_C := (144, [.inl 81, .inr (false, [(0, 3)]), .inr (false, ar_t32)], m1h2, [], [([], some (.inr (false, [(0, 0)])), []), ([], some (.inr (false, [(1, 1)])), [])])
theorem m1k5 : ai_chk [] m1c5 (fun pc => sm_ch sm_t144 pc, sm_Kn 3 4 none, fun x => sm_lk sm_ca3 x, some .boolean) [] 4 0 [] [] 2000 [] = true := by decide +kernel
/-- MiceRegistersModel.eatsOf -/
def m1x3 : aw_A := .inr (.inl (0, 4, [(0, 0, [(1, 9)])], []))
def m1h4 : aw_H := [(81, m1x0), (85, .inr (.inl (0, 4, [], []))), (86, m1x3)]
def m1c6 : ak_C := (142, [.inl 81, .inr (false, [(0, 0)])], m1h4, [], [([], some (.inr (false, [(1, 18)])), [])])
theorem m1k6 : ai_chk [] m1c6 (fun pc => sm_ch sm_t142 pc, sm_Kn 3 2 none, fun x => sm_lk sm_ca3 x, some .int) [] 2 0 [] [] 2000 [] = true := by decide +kernel
/-- MiceRegistersModel.littleWrong -/
def m1h5 : aw_H := [(81, m1x0), (83, .inr (.inl (0, 8, [], [])))]
def m1c7 : ak_C := (146, [.inl 81], m1h5, [], [([], some (.inr (false, [(0, 8)])), [])])
def m1h6 : aw_H := [(81, m1x0), (83, .inr (.inl (0, 8, [], [(0, ar_t32)])))]
def m1x7 : aw_A := ms_o [(2, 8)] [(1, 1)] ar_t32 ar_t32 [(0, 180)] [(0, 60)] [(-1, 60)] [(0, 8)] [(0, 4)]
def m1x8 : aw_A := .inr (.inl (0, 8, [], [(0, ar_t32), (1, ar_t32)]))
def m1h9 : aw_H := [(81, m1x7), (83, m1x8)]
def m1x10 : aw_A := ms_o [(3, 8)] [(1, 1)] ar_t32 ar_t32 [(0, 180)] [(0, 60)] [(-1, 60)] [(0, 8)] [(0, 4)]
def m1x11 : aw_A := .inr (.inl (0, 8, [], [(0, ar_t32), (1, ar_t32), (2, ar_t32)]))
def m1h12 : aw_H := [(81, m1x10), (83, m1x11)]
def m1x13 : aw_A := ms_o [(4, 8)] [(1, 1)] ar_t32 ar_t32 [(0, 180)] [(0, 60)] [(-1, 60)] [(0, 8)] [(0, 4)]
def m1x14 : aw_A := .inr (.inl (0, 8, [], [(0, ar_t32), (1, ar_t32), (2, ar_t32), (3, ar_t32)]))
def m1h15 : aw_H := [(81, m1x13), (83, m1x14)]
def m1x16 : aw_A := ms_o [(5, 8)] [(1, 1)] ar_t32 ar_t32 [(0, 180)] [(0, 60)] [(-1, 60)] [(0, 8)] [(0, 4)]
def m1x17 : aw_A := .inr (.inl (0, 8, [], [(0, ar_t32), (1, ar_t32), (2, ar_t32), (3, ar_t32), (4, ar_t32)]))
def m1h18 : aw_H := [(81, m1x16), (83, m1x17)]
def m1x19 : aw_A := ms_o [(6, 8)] [(1, 1)] ar_t32 ar_t32 [(0, 180)] [(0, 60)] [(-1, 60)] [(0, 8)] [(0, 4)]
def m1x20 : aw_A := .inr (.inl (0, 8, [], [(0, ar_t32), (1, ar_t32), (2, ar_t32), (3, ar_t32), (4, ar_t32), (5, ar_t32)]))
def m1h21 : aw_H := [(81, m1x19), (83, m1x20)]
def m1x22 : aw_A := ms_o [(7, 8)] [(1, 1)] ar_t32 ar_t32 [(0, 180)] [(0, 60)] [(-1, 60)] [(0, 8)] [(0, 4)]
def m1x23 : aw_A := .inr (.inl (0, 8, [], [(0, ar_t32), (1, ar_t32), (2, ar_t32), (3, ar_t32), (4, ar_t32), (5, ar_t32), (6, ar_t32)]))
def m1h24 : aw_H := [(81, m1x22), (83, m1x23)]
def m1x25 : aw_A := ms_o [(8, 8)] [(1, 1)] ar_t32 ar_t32 [(0, 180)] [(0, 60)] [(-1, 60)] [(0, 8)] [(0, 4)]
def m1x26 : aw_A := .inr (.inl (0, 8, [], [(0, ar_t32), (1, ar_t32), (2, ar_t32), (3, ar_t32), (4, ar_t32), (5, ar_t32), (6, ar_t32), (7, ar_t32)]))
def m1h27 : aw_H := [(81, m1x25), (83, m1x26)]
theorem m1k7 : ai_chk [] m1c7 (fun pc => sm_ch sm_t146 pc, sm_Kn 3 3 none, fun x => sm_lk sm_ca3 x, some .int) [] 3 0 [4] [] 2000 [(4, [(0, .inl 81), (1, .inr (false, [(0, 0)])), (2, .inr (false, [(0, 0)]))], [], m1h5),
  (4, [(0, .inl 81), (1, .inr (false, [(0, 1)])), (2, .inr (false, [(1, 1)]))], [], m1h6),
  (4, [(0, .inl 81), (1, .inr (false, [(0, 2)])), (2, .inr (false, [(2, 2)]))], [], m1h9),
  (4, [(0, .inl 81), (1, .inr (false, [(0, 3)])), (2, .inr (false, [(3, 3)]))], [], m1h12),
  (4, [(0, .inl 81), (1, .inr (false, [(0, 4)])), (2, .inr (false, [(4, 4)]))], [], m1h15),
  (4, [(0, .inl 81), (1, .inr (false, [(0, 5)])), (2, .inr (false, [(5, 5)]))], [], m1h18),
  (4, [(0, .inl 81), (1, .inr (false, [(0, 6)])), (2, .inr (false, [(6, 6)]))], [], m1h21),
  (4, [(0, .inl 81), (1, .inr (false, [(0, 7)])), (2, .inr (false, [(7, 7)]))], [], m1h24),
  (4, [(0, .inl 81), (1, .inr (false, [(0, 8)])), (2, .inr (false, [(8, 8)]))], [], m1h27)] = true := by decide +kernel
/-- MiceRegistersModel.farOf -/
def m1h28 : aw_H := [(81, m1x0), (82, ms_r [(0, [(-1, 40)])])]
def m1c8 : ak_C := (137, [.inl 81, .inr (false, [(0, 0)]), .inr (false, [(0, 3)]), .inr (false, [(0, 7)])], m1h28, [], [([], some (.inr (false, [(0, 7)])), [])])
theorem m1k8 : ai_chk [] m1c8 (fun pc => sm_ch sm_t137 pc, sm_Kn 3 5 none, fun x => sm_lk sm_ca3 x, some .int) [] 5 0 [] [] 2000 [] = true := by decide +kernel
/-- MiceRegistersModel.likesBy -/
def m1c9 : ak_C := (138, [.inr (false, ar_t32), .inr (false, ar_t32), .inr (false, ar_t32), .inr (false, ar_t32)], [], [], [([], some (.inr (false, ar_t32)), [])])
theorem m1k9 : ai_chk [] m1c9 (fun pc => sm_ch sm_t138 pc, sm_Kn 3 4 none, fun x => sm_lk sm_ca3 x, some .int) [] 4 0 [] [] 2000 [] = true := by decide +kernel
/-- MiceRegistersModel.likesIn -/
def m1h29 : aw_H := [(81, m1x0), (82, ms_r [(0, [(-1, 40)])]), (83, .inr (.inl (0, 8, [], []))), (85, .inr (.inl (0, 4, [], [])))]
def m1c10 : ak_C := (136, [.inl 81, .inr (false, [(0, 0)]), .inr (false, [(0, 3)]), .inr (false, [(0, 7)])], m1h29, [], [([], some (.inr (false, ar_t32)), [])])
theorem m1k10 : ai_chk [m1c8, m1c9] m1c10 (fun pc => sm_ch sm_t136 pc, sm_Kn 3 4 none, fun x => sm_lk sm_ca3 x, some .int) [] 4 0 [] [] 2000 [] = true := by decide +kernel
/-- MiceRegistersModel.likedBy -/
def m1c11 : ak_C := (145, [.inl 81, .inr (false, [(0, 3)])], m1h29, [], [([], some (.inr (false, [(0, 8)])), [])])
def m1h30 : aw_H := [(81, m1x7), (82, ms_r [(0, [(-1, 40)])]), (83, .inr (.inl (0, 8, [], []))), (85, .inr (.inl (0, 4, [], [])))]
def m1h31 : aw_H := [(81, m1x10), (82, ms_r [(0, [(-1, 40)])]), (83, .inr (.inl (0, 8, [], []))), (85, .inr (.inl (0, 4, [], [])))]
def m1h32 : aw_H := [(81, m1x13), (82, ms_r [(0, [(-1, 40)])]), (83, .inr (.inl (0, 8, [], []))), (85, .inr (.inl (0, 4, [], [])))]
def m1h33 : aw_H := [(81, m1x16), (82, ms_r [(0, [(-1, 40)])]), (83, .inr (.inl (0, 8, [], []))), (85, .inr (.inl (0, 4, [], [])))]
def m1h34 : aw_H := [(81, m1x19), (82, ms_r [(0, [(-1, 40)])]), (83, .inr (.inl (0, 8, [], []))), (85, .inr (.inl (0, 4, [], [])))]
def m1h35 : aw_H := [(81, m1x22), (82, ms_r [(0, [(-1, 40)])]), (83, .inr (.inl (0, 8, [], []))), (85, .inr (.inl (0, 4, [], [])))]
def m1h36 : aw_H := [(81, m1x25), (82, ms_r [(0, [(-1, 40)])]), (83, .inr (.inl (0, 8, [], []))), (85, .inr (.inl (0, 4, [], [])))]
theorem m1k11 : ai_chk [m1c10] m1c11 (fun pc => sm_ch sm_t145 pc, sm_Kn 3 4 none, fun x => sm_lk sm_ca3 x, some .int) [] 4 0 [4] [] 2000 [(4, [(0, .inl 81), (1, .inr (false, [(0, 3)])), (2, .inr (false, [(0, 0)])), (3, .inr (false, [(0, 0)]))], [], m1h29),
  (4, [(0, .inl 81), (1, .inr (false, [(0, 3)])), (2, .inr (false, [(0, 1)])), (3, .inr (false, [(1, 1)]))], [], m1h29),
  (4, [(0, .inl 81), (1, .inr (false, [(0, 3)])), (2, .inr (false, [(0, 2)])), (3, .inr (false, [(2, 2)]))], [], m1h30),
  (4, [(0, .inl 81), (1, .inr (false, [(0, 3)])), (2, .inr (false, [(0, 3)])), (3, .inr (false, [(3, 3)]))], [], m1h31),
  (4, [(0, .inl 81), (1, .inr (false, [(0, 3)])), (2, .inr (false, [(0, 4)])), (3, .inr (false, [(4, 4)]))], [], m1h32),
  (4, [(0, .inl 81), (1, .inr (false, [(0, 3)])), (2, .inr (false, [(0, 5)])), (3, .inr (false, [(5, 5)]))], [], m1h33),
  (4, [(0, .inl 81), (1, .inr (false, [(0, 3)])), (2, .inr (false, [(0, 6)])), (3, .inr (false, [(6, 6)]))], [], m1h34),
  (4, [(0, .inl 81), (1, .inr (false, [(0, 3)])), (2, .inr (false, [(0, 7)])), (3, .inr (false, [(7, 7)]))], [], m1h35),
  (4, [(0, .inl 81), (1, .inr (false, [(0, 3)])), (2, .inr (false, [(0, 8)])), (3, .inr (false, [(8, 8)]))], [], m1h36)] = true := by decide +kernel
/-- MiceRegistersModel.cheeses -/
def m1c12 : ak_C := (147, [.inl 81], m1h28, [], [([], some (.inr (false, ar_t32)), [])])
theorem m1k12 : ai_chk [] m1c12 (fun pc => sm_ch sm_t147 pc, sm_Kn 3 3 none, fun x => sm_lk sm_ca3 x, some .int) [] 3 0 [4] [] 2000 [(4, [(0, .inl 81), (1, .inr (false, [(0, 0)])), (2, .inr (false, [(0, 0)]))], [], m1h28),
  (4, [(0, .inl 81), (1, .inr (false, ar_t32)), (2, .inr (false, [(1, 1)]))], [], m1h28),
  (4, [(0, .inl 81), (1, .inr (false, ar_t32)), (2, .inr (false, [(2, 2)]))], [], m1h28),
  (4, [(0, .inl 81), (1, .inr (false, ar_t32)), (2, .inr (false, [(3, 3)]))], [], m1h28),
  (4, [(0, .inl 81), (1, .inr (false, ar_t32)), (2, .inr (false, [(4, 4)]))], [], m1h28),
  (4, [(0, .inl 81), (1, .inr (false, ar_t32)), (2, .inr (false, [(5, 5)]))], [], m1h28),
  (4, [(0, .inl 81), (1, .inr (false, ar_t32)), (2, .inr (false, [(6, 6)]))], [], m1h28),
  (4, [(0, .inl 81), (1, .inr (false, ar_t32)), (2, .inr (false, [(7, 7)]))], [], m1h28),
  (4, [(0, .inl 81), (1, .inr (false, ar_t32)), (2, .inr (false, [(8, 8)]))], [], m1h28)] = true := by decide +kernel
def m1x37 : aw_A := ms_o [(1, 8)] [(1, 1)] ar_t32 [(1, 5)] [(0, 180)] [(0, 60)] [(-1, 60)] [(0, 8)] [(0, 4)]
def m1h38 : aw_H := [(81, m1x37), (91, .inr (.inl (0, 6, [], [])))]
/-- MiceRegistersModel.find -/
def m1h39 : aw_H := [(81, m1x0), (91, .inr (.inl (0, 6, [], [])))]
def m1c13 : ak_C := (106, [.inl 81, .inr (false, [(1, 5)])], m1h39, [81, 91], [([], some (.inr (false, [(-3, -3)])), m1h38)])
theorem m1k13 : ai_chk [] m1c13 (fun pc => sm_ch sm_t106 pc, sm_Kn 3 2 none, fun x => sm_lk sm_ca3 x, some .int) [81, 91] 2 0 [] [] 2000 [] = true := by decide +kernel
/-- MiceRegistersModel.mark -/
def m1h40 : aw_H := [(81, m1x0), (82, ms_r [(0, [(-1, 40)])]), (83, .inr (.inl (0, 8, [], []))), (85, .inr (.inl (0, 4, [], []))), (86, m1x3), (91, .inr (.inl (0, 6, [], [])))]
def m1c14 : ak_C := (143, [.inl 81, .inr (false, ar_t32), .inr (false, ar_t32)], m1h40, [81, 91], [([[], [], []], some (.inr (false, [(-1, -1)])), m1h39), ([[], [(0, 0)], [(1, 5)]], some (.inr (false, ar_t32)), m1h39), ([[], [(0, 0)], [(1, 5)]], some (.inr (false, [(-3, -3)])), m1h38)])
theorem m1k14 : ai_chk [m1c3, m1c4, m1c5, m1c6, m1c7, m1c11, m1c12, m1c13] m1c14 (fun pc => sm_ch sm_t143 pc, sm_Kn 3 3 none, fun x => sm_lk sm_ca3 x, some .int) [81, 91] 3 3 [] [] 2000 [] = true := by decide +kernel
/-- MiceRegistersModel.in -/
def m1c15 : ak_C := (105, [.inr (true, ar_t32), .inr (true, [(0, 0)]), .inr (true, [(0, 7)])], [], [], [([[(0, 7)], [], []], some (.inr (false, [(1, 1)])), []), ([[(-2147483648, -1), (1, 2147483647)], [], []], some (.inr (false, [(0, 0)])), [])])
theorem m1k15 : ai_chk [] m1c15 (fun pc => sm_ch sm_t105 pc, sm_Kn 3 6 none, fun x => sm_lk sm_ca3 x, some .boolean) [] 6 6 [] [] 2000 [] = true := by decide +kernel
/-- MiceRegistersModel.isLine -/
def m1c16 : ak_C := (131, [.inl 81, .inr (false, ar_t32)], m1h1, [], [([[], [(-2147483648, -1), (1, 2147483647)]], some (.inr (false, [(0, 0)])), []), ([[], [(0, 7)]], some (.inr (false, [(1, 1)])), [])])
theorem m1k16 : ai_chk [m1c15] m1c16 (fun pc => sm_ch sm_t131 pc, sm_Kn 3 2 none, fun x => sm_lk sm_ca3 x, some .boolean) [] 2 2 [] [] 2000 [] = true := by decide +kernel
/-- MiceRegistersModel.in -/
def m1c17 : ak_C := (105, [.inr (true, ar_t32), .inr (true, [(0, 0)]), .inr (true, [(12, 12)])], [], [], [([[(0, 12)], [], []], some (.inr (false, [(1, 1)])), []), ([[(-2147483648, -1), (13, 2147483647)], [], []], some (.inr (false, [(0, 0)])), [])])
theorem m1k17 : ai_chk [] m1c17 (fun pc => sm_ch sm_t105 pc, sm_Kn 3 6 none, fun x => sm_lk sm_ca3 x, some .boolean) [] 6 6 [] [] 2000 [] = true := by decide +kernel
/-- MiceRegistersModel.has -/
def m1c18 : ak_C := (135, [.inr (false, [(0, 0)]), .inr (false, [(0, 0)])], [], [], [([], some (.inr (false, [(0, 0)])), [])])
theorem m1k18 : ai_chk [] m1c18 (fun pc => sm_ch sm_t135 pc, sm_Kn 3 2 none, fun x => sm_lk sm_ca3 x, some .boolean) [] 2 0 [] [] 2000 [] = true := by decide +kernel
/-- MiceRegistersModel.chancesOf -/
def m1c19 : ak_C := (185, [.inl 81, .inr (false, [(0, 0)]), .inr (false, [(0, 11)])], m1h1, [], [([], some (.inr (true, [(1, 12)])), [])])
theorem m1k19 : ai_chk [m1c18] m1c19 (fun pc => sm_ch sm_t185 pc, sm_Kn 3 6 none, fun x => sm_lk sm_ca3 x, some .long) [] 6 0 [5] [] 2000 [(5, [(0, .inl 81), (1, .inr (false, [(0, 0)])), (2, .inr (false, [(0, 11)])), (3, .inr (true, [(1, 1)])), (5, .inr (false, [(0, 0)]))], [], m1h1),
  (5, [(0, .inl 81), (1, .inr (false, [(0, 0)])), (2, .inr (false, [(0, 11)])), (3, .inr (true, [(1, 12)])), (5, .inr (false, [(1, 1)]))], [], m1h1)] = true := by decide +kernel
/-- MiceRegistersModel.wants -/
def m1b24 : sm_P := (fun pc => sm_ch sm_t134 pc, sm_Kn 3 9 none, fun x => sm_lk sm_ca3 x, some .int)
/-- MiceRegistersModel.passes -/
def m1h58 : aw_H := [(81, m1x0), (82, ms_r [(0, [(-1, 40)])]), (83, .inr (.inl (0, 8, [], []))), (85, .inr (.inl (0, 4, [], []))), (86, m1x3)]
/-- MiceRegistersModel.has -/
def m1c26 : ak_C := (135, [.inr (false, [(1, 1)]), .inr (false, [(0, 0)])], [], [], [([], some (.inr (false, [(1, 1)])), [])])
theorem m1k26 : ai_chk [] m1c26 (fun pc => sm_ch sm_t135 pc, sm_Kn 3 2 none, fun x => sm_lk sm_ca3 x, some .boolean) [] 2 0 [] [] 2000 [] = true := by decide +kernel
/-- MiceRegistersModel.chancesOf -/
def m1c27 : ak_C := (185, [.inl 81, .inr (false, [(1, 1)]), .inr (false, [(0, 11)])], m1h1, [], [([], some (.inr (true, [(0, 11)])), [])])
theorem m1k27 : ai_chk [m1c26] m1c27 (fun pc => sm_ch sm_t185 pc, sm_Kn 3 6 none, fun x => sm_lk sm_ca3 x, some .long) [] 6 0 [5] [] 2000 [(5, [(0, .inl 81), (1, .inr (false, [(1, 1)])), (2, .inr (false, [(0, 11)])), (3, .inr (true, [(1, 1)])), (5, .inr (false, [(0, 0)]))], [], m1h1),
  (5, [(0, .inl 81), (1, .inr (false, [(1, 1)])), (2, .inr (false, [(0, 11)])), (3, .inr (true, [(0, 11)])), (5, .inr (false, [(1, 1)]))], [], m1h1)] = true := by decide +kernel
/-- MiceRegistersModel.tellParts -/
def m1c28 : ak_C := (186, [.inl 81, .inr (true, [(-72057594037927936, 72057594037927936)]), .inr (true, [(1, 1099511627776)])], m1h1, [81], [([], none, m1h1)])
/-- MiceRegistersModel.chancesOf -/
def m1c29 : ak_C := (185, [.inl 81, .inr (false, [(0, 0)]), .inr (false, [(12, 12)])], m1h1, [], [([], some (.inr (true, [(0, 0)])), [])])
theorem m1k29 : ai_chk [m1c18] m1c29 (fun pc => sm_ch sm_t185 pc, sm_Kn 3 6 none, fun x => sm_lk sm_ca3 x, some .long) [] 6 0 [5] [] 2000 [(5, [(0, .inl 81), (1, .inr (false, [(0, 0)])), (2, .inr (false, [(12, 12)])), (3, .inr (true, [(1, 1)])), (5, .inr (false, [(0, 0)]))], [], m1h1),
  (5, [(0, .inl 81), (1, .inr (false, [(0, 0)])), (2, .inr (false, [(12, 12)])), (3, .inr (true, [(0, 0)])), (5, .inr (false, [(1, 1)]))], [], m1h1)] = true := by decide +kernel
/-- MiceRegistersModel.chancesOf -/
def m1c30 : ak_C := (185, [.inl 81, .inr (false, [(1, 1)]), .inr (false, [(12, 12)])], m1h1, [], [([], some (.inr (true, [(12, 12)])), [])])
theorem m1k30 : ai_chk [m1c26] m1c30 (fun pc => sm_ch sm_t185 pc, sm_Kn 3 6 none, fun x => sm_lk sm_ca3 x, some .long) [] 6 0 [5] [] 2000 [(5, [(0, .inl 81), (1, .inr (false, [(1, 1)])), (2, .inr (false, [(12, 12)])), (3, .inr (true, [(1, 1)])), (5, .inr (false, [(0, 0)]))], [], m1h1),
  (5, [(0, .inl 81), (1, .inr (false, [(1, 1)])), (2, .inr (false, [(12, 12)])), (3, .inr (true, [(12, 12)])), (5, .inr (false, [(1, 1)]))], [], m1h1)] = true := by decide +kernel
def m1h74 : aw_H := [(81, m1x0), (82, ms_r [(0, [(-1, 40)]), (3788, ar_t32)])]
/-- MiceRegistersModel.odds -/
def m1c31 : ak_C := (184, [.inl 81, .inr (false, ar_t32), .inr (false, ar_t32)], m1h58, [81, 82], [([[], [], []], some (.inr (false, [(-1, -1)])), m1h28), ([[], [(0, 7)], [(0, 12)]], some (.inr (false, [(1, 1)])), m1h74)])
def czm1s31x0 : aw_A := ms_o [(1, 8)] [(1, 1)] ar_t32 ar_t32 [(0, 180)] [(0, 60)] [(-1, 60)] [(0, 8)] [(0, 4)]
def czm1s31x1 : aw_A := .inr (.inl (0, 4, [(0, 0, [(1, 9)])], []))
def czm1s31h2 : aw_H := [(81, czm1s31x0), (82, ms_r [(0, [(-1, 40)])]), (83, .inr (.inl (0, 8, [], []))), (85, .inr (.inl (0, 4, [], []))), (86, czm1s31x1)]
set_option maxRecDepth 100000 in
theorem m1k31 : ai_ch2 [m1c16, m1c17, m1c19, mgc6368, mgc6372, m1c27, m1c28, m1c29, m1c30] m1c31 (fun pc => sm_ch sm_t184 pc, sm_Kn 3 10 none, fun x => sm_lk sm_ca3 x, some .int) [81, 82] 10 3 [30] [(22, some (0, 2, 0), 12, 1)] 2000 [.inl (30, [(0, .inl 81), (1, .inr (false, [(0, 7)])), (2, .inr (false, [(0, 11)])), (3, .inr (true, [(0, 0)])), (5, .inr (true, [(0, 0)])), (7, .inr (false, [(0, 0)]))], [], czm1s31h2),
  .inl (30, [(0, .inl 81), (1, .inr (false, [(0, 7)])), (2, .inr (false, [(0, 11)])), (3, .inr (true, [(0, 12)])), (5, .inr (true, [(1, 12)])), (7, .inr (false, [(1, 1)])), (8, .inr (true, [(1, 12)]))], [], czm1s31h2),
  .inl (30, [(0, .inl 81), (1, .inr (false, [(0, 7)])), (2, .inr (false, [(0, 11)])), (3, .inr (true, [(0, 23)])), (5, .inr (true, [(1, 23)])), (7, .inr (false, [(2, 2)])), (8, .inr (true, [(0, 11)]))], [], czm1s31h2),
  .inl (30, [(0, .inl 81), (1, .inr (false, [(0, 7)])), (2, .inr (false, [(12, 12)])), (3, .inr (true, [(0, 0)])), (5, .inr (true, [(0, 0)])), (7, .inr (false, [(0, 0)]))], [], czm1s31h2),
  .inl (30, [(0, .inl 81), (1, .inr (false, [(0, 7)])), (2, .inr (false, [(12, 12)])), (3, .inr (true, [(0, 0)])), (5, .inr (true, [(0, 0)])), (7, .inr (false, [(1, 1)])), (8, .inr (true, [(0, 0)]))], [], czm1s31h2),
  .inl (30, [(0, .inl 81), (1, .inr (false, [(0, 7)])), (2, .inr (false, [(12, 12)])), (3, .inr (true, [(0, 0), (12, 12)])), (5, .inr (true, [(12, 12)])), (7, .inr (false, [(2, 2)])), (8, .inr (true, [(12, 12)]))], [], czm1s31h2)] = true := by decide +kernel
/-- MiceRegistersModel.leftIn -/
def m1c32 : ak_C := (168, [.inl 81, .inr (false, [(3776, 3776)])], m1h28, [], [([], some (.inr (false, ar_t32)), [])])
def m1h76 : aw_H := [(81, m1x7), (82, ms_r [(0, [(-1, 40)])])]
def m1h77 : aw_H := [(81, m1x10), (82, ms_r [(0, [(-1, 40)])])]
def m1h78 : aw_H := [(81, m1x13), (82, ms_r [(0, [(-1, 40)])])]
def m1h79 : aw_H := [(81, m1x16), (82, ms_r [(0, [(-1, 40)])])]
def m1h80 : aw_H := [(81, m1x19), (82, ms_r [(0, [(-1, 40)])])]
def m1h81 : aw_H := [(81, m1x22), (82, ms_r [(0, [(-1, 40)])])]
def m1h82 : aw_H := [(81, m1x25), (82, ms_r [(0, [(-1, 40)])])]
theorem m1k32 : ai_chk [] m1c32 (fun pc => sm_ch sm_t168 pc, sm_Kn 3 4 none, fun x => sm_lk sm_ca3 x, some .int) [] 4 0 [4] [] 2000 [(4, [(0, .inl 81), (1, .inr (false, [(3776, 3776)])), (2, .inr (false, [(0, 0)])), (3, .inr (false, [(0, 0)]))], [], m1h28),
  (4, [(0, .inl 81), (1, .inr (false, [(3776, 3776)])), (2, .inr (false, ar_t32)), (3, .inr (false, [(1, 1)]))], [], m1h28),
  (4, [(0, .inl 81), (1, .inr (false, [(3776, 3776)])), (2, .inr (false, ar_t32)), (3, .inr (false, [(2, 2)]))], [], m1h76),
  (4, [(0, .inl 81), (1, .inr (false, [(3776, 3776)])), (2, .inr (false, ar_t32)), (3, .inr (false, [(3, 3)]))], [], m1h77),
  (4, [(0, .inl 81), (1, .inr (false, [(3776, 3776)])), (2, .inr (false, ar_t32)), (3, .inr (false, [(4, 4)]))], [], m1h78),
  (4, [(0, .inl 81), (1, .inr (false, [(3776, 3776)])), (2, .inr (false, ar_t32)), (3, .inr (false, [(5, 5)]))], [], m1h79),
  (4, [(0, .inl 81), (1, .inr (false, [(3776, 3776)])), (2, .inr (false, ar_t32)), (3, .inr (false, [(6, 6)]))], [], m1h80),
  (4, [(0, .inl 81), (1, .inr (false, [(3776, 3776)])), (2, .inr (false, ar_t32)), (3, .inr (false, [(7, 7)]))], [], m1h81),
  (4, [(0, .inl 81), (1, .inr (false, [(3776, 3776)])), (2, .inr (false, ar_t32)), (3, .inr (false, [(8, 8)]))], [], m1h82)] = true := by decide +kernel
/-- MiceRegistersModel.mid -/
def m1c33 : ak_C := (187, [.inl 81, .inr (false, ar_t32)], m1h58, [81, 82], [([[], [(-2147483648, -1), (13, 2147483647)]], some (.inr (false, [(-1, -1)])), m1h28), ([[], [(0, 12)]], some (.inr (false, [(1, 1)])), m1h74)])
def czm1s33x0 : aw_A := ms_o [(1, 8)] [(1, 1)] ar_t32 ar_t32 [(0, 180)] [(0, 60)] [(-1, 60)] [(0, 8)] [(0, 4)]
def czm1s33x1 : aw_A := .inr (.inl (0, 4, [(0, 0, [(1, 9)])], []))
def czm1s33h2 : aw_H := [(81, czm1s33x0), (82, ms_r [(0, [(-1, 40)])]), (83, .inr (.inl (0, 8, [], []))), (85, .inr (.inl (0, 4, [], []))), (86, czm1s33x1)]
set_option maxRecDepth 100000 in
theorem m1k33 : ai_ch2 [m1c17, m1c19, mgc6368, mgc6372, m1c32, m1c27, m1c28, m1c29, m1c30] m1c33 (fun pc => sm_ch sm_t187 pc, sm_Kn 3 9 none, fun x => sm_lk sm_ca3 x, some .int) [81, 82] 9 2 [32] [(24, some (0, 1, 0), 12, 1)] 2000 [.inl (32, [(0, .inl 81), (1, .inr (false, [(0, 11)])), (2, .inr (true, [(0, 0)])), (4, .inr (true, [(0, 0)])), (6, .inr (false, [(0, 0)]))], [], czm1s33h2),
  .inl (32, [(0, .inl 81), (1, .inr (false, [(0, 11)])), (2, .inr (true, [(-25769803776, 25769803764)])), (4, .inr (true, [(1, 12)])), (6, .inr (false, [(1, 1)])), (7, .inr (true, [(1, 12)]))], [], czm1s33h2),
  .inl (32, [(0, .inl 81), (1, .inr (false, [(0, 11)])), (2, .inr (true, [(-49392123904, 49392123881)])), (4, .inr (true, [(1, 23)])), (6, .inr (false, [(2, 2)])), (7, .inr (true, [(0, 11)]))], [], czm1s33h2),
  .inl (32, [(0, .inl 81), (1, .inr (false, [(12, 12)])), (2, .inr (true, [(0, 0)])), (4, .inr (true, [(0, 0)])), (6, .inr (false, [(0, 0)]))], [], czm1s33h2),
  .inl (32, [(0, .inl 81), (1, .inr (false, [(12, 12)])), (2, .inr (true, [(0, 0)])), (4, .inr (true, [(0, 0)])), (6, .inr (false, [(1, 1)])), (7, .inr (true, [(0, 0)]))], [], czm1s33h2),
  .inl (32, [(0, .inl 81), (1, .inr (false, [(12, 12)])), (2, .inr (true, [(-25769803776, 25769803764)])), (4, .inr (true, [(12, 12)])), (6, .inr (false, [(2, 2)])), (7, .inr (true, [(12, 12)]))], [], czm1s33h2)] = true := by decide +kernel
/-- MiceRegistersModel.in -/
def m2c2 : ak_C := (105, [.inr (true, ar_t32), .inr (true, [(0, 0)]), .inr (true, [(1, 1)])], [], [], [([[(0, 1)], [], []], some (.inr (false, [(1, 1)])), []), ([[(-2147483648, -1), (2, 2147483647)], [], []], some (.inr (false, [(0, 0)])), [])])
theorem m2k2 : ai_chk [] m2c2 (fun pc => sm_ch sm_t105 pc, sm_Kn 3 6 none, fun x => sm_lk sm_ca3 x, some .boolean) [] 6 6 [] [] 2000 [] = true := by decide +kernel
/-- MiceRegistersModel.isMouse -/
def m2x0 : aw_A := ms_o [(1, 8)] [(2, 2)] ar_t32 ar_t32 [(0, 180)] [(0, 60)] [(-1, 60)] [(0, 8)] [(0, 4)]
def m2h1 : aw_H := [(81, m2x0)]
def m2c3 : ak_C := (140, [.inl 81, .inr (false, ar_t32)], m2h1, [], [([[], [(-2147483648, -1), (2, 2147483647)]], some (.inr (false, [(0, 0)])), []), ([[], [(0, 1)]], some (.inr (false, [(1, 1)])), [])])
theorem m2k3 : ai_chk [m2c2] m2c3 (fun pc => sm_ch sm_t140 pc, sm_Kn 3 2 none, fun x => sm_lk sm_ca3 x, some .boolean) [] 2 2 [] [] 2000 [] = true := by decide +kernel
/-- MiceRegistersModel.in -/
def m2c4 : ak_C := (105, [.inr (true, ar_t32), .inr (true, [(1, 1)]), .inr (true, [(5, 5)])], [], [], [([[(1, 5)], [], []], some (.inr (false, [(1, 1)])), []), ([[(-2147483648, 0), (6, 2147483647)], [], []], some (.inr (false, [(0, 0)])), [])])
theorem m2k4 : ai_chk [] m2c4 (fun pc => sm_ch sm_t105 pc, sm_Kn 3 6 none, fun x => sm_lk sm_ca3 x, some .boolean) [] 6 6 [] [] 2000 [] = true := by decide +kernel
/-- MiceRegistersModel.isOf -/
def m2h2 : aw_H := [(81, m2x0), (85, .inr (.inl (0, 4, [], [])))]
def m2c5 : ak_C := (144, [.inl 81, .inr (false, [(0, 3)]), .inr (false, ar_t32)], m2h2, [], [([], some (.inr (false, [(0, 0)])), []), ([], some (.inr (false, [(1, 1)])), [])])
theorem m2k5 : ai_chk [] m2c5 (fun pc => sm_ch sm_t144 pc, sm_Kn 3 4 none, fun x => sm_lk sm_ca3 x, some .boolean) [] 4 0 [] [] 2000 [] = true := by decide +kernel
/-- MiceRegistersModel.eatsOf -/
def m2x3 : aw_A := .inr (.inl (0, 4, [(0, 1, [(1, 9)])], []))
def m2h4 : aw_H := [(81, m2x0), (85, .inr (.inl (0, 4, [], []))), (86, m2x3)]
def m2c6 : ak_C := (142, [.inl 81, .inr (false, [(0, 1)])], m2h4, [], [([], some (.inr (false, [(1, 18)])), [])])
theorem m2k6 : ai_chk [] m2c6 (fun pc => sm_ch sm_t142 pc, sm_Kn 3 2 none, fun x => sm_lk sm_ca3 x, some .int) [] 2 0 [] [] 2000 [] = true := by decide +kernel
/-- MiceRegistersModel.littleWrong -/
def m2h5 : aw_H := [(81, m2x0), (83, .inr (.inl (0, 8, [], [])))]
def m2c7 : ak_C := (146, [.inl 81], m2h5, [], [([], some (.inr (false, [(0, 8)])), [])])
def m2h6 : aw_H := [(81, m2x0), (83, .inr (.inl (0, 8, [], [(0, ar_t32)])))]
def m2x7 : aw_A := ms_o [(2, 8)] [(2, 2)] ar_t32 ar_t32 [(0, 180)] [(0, 60)] [(-1, 60)] [(0, 8)] [(0, 4)]
def m2x8 : aw_A := .inr (.inl (0, 8, [], [(0, ar_t32), (1, ar_t32)]))
def m2h9 : aw_H := [(81, m2x7), (83, m2x8)]
def m2x10 : aw_A := ms_o [(3, 8)] [(2, 2)] ar_t32 ar_t32 [(0, 180)] [(0, 60)] [(-1, 60)] [(0, 8)] [(0, 4)]
def m2x11 : aw_A := .inr (.inl (0, 8, [], [(0, ar_t32), (1, ar_t32), (2, ar_t32)]))
def m2h12 : aw_H := [(81, m2x10), (83, m2x11)]
def m2x13 : aw_A := ms_o [(4, 8)] [(2, 2)] ar_t32 ar_t32 [(0, 180)] [(0, 60)] [(-1, 60)] [(0, 8)] [(0, 4)]
def m2x14 : aw_A := .inr (.inl (0, 8, [], [(0, ar_t32), (1, ar_t32), (2, ar_t32), (3, ar_t32)]))
def m2h15 : aw_H := [(81, m2x13), (83, m2x14)]
def m2x16 : aw_A := ms_o [(5, 8)] [(2, 2)] ar_t32 ar_t32 [(0, 180)] [(0, 60)] [(-1, 60)] [(0, 8)] [(0, 4)]
def m2x17 : aw_A := .inr (.inl (0, 8, [], [(0, ar_t32), (1, ar_t32), (2, ar_t32), (3, ar_t32), (4, ar_t32)]))
def m2h18 : aw_H := [(81, m2x16), (83, m2x17)]
def m2x19 : aw_A := ms_o [(6, 8)] [(2, 2)] ar_t32 ar_t32 [(0, 180)] [(0, 60)] [(-1, 60)] [(0, 8)] [(0, 4)]
def m2x20 : aw_A := .inr (.inl (0, 8, [], [(0, ar_t32), (1, ar_t32), (2, ar_t32), (3, ar_t32), (4, ar_t32), (5, ar_t32)]))
def m2h21 : aw_H := [(81, m2x19), (83, m2x20)]
def m2x22 : aw_A := ms_o [(7, 8)] [(2, 2)] ar_t32 ar_t32 [(0, 180)] [(0, 60)] [(-1, 60)] [(0, 8)] [(0, 4)]
def m2x23 : aw_A := .inr (.inl (0, 8, [], [(0, ar_t32), (1, ar_t32), (2, ar_t32), (3, ar_t32), (4, ar_t32), (5, ar_t32), (6, ar_t32)]))
def m2h24 : aw_H := [(81, m2x22), (83, m2x23)]
def m2x25 : aw_A := ms_o [(8, 8)] [(2, 2)] ar_t32 ar_t32 [(0, 180)] [(0, 60)] [(-1, 60)] [(0, 8)] [(0, 4)]
def m2x26 : aw_A := .inr (.inl (0, 8, [], [(0, ar_t32), (1, ar_t32), (2, ar_t32), (3, ar_t32), (4, ar_t32), (5, ar_t32), (6, ar_t32), (7, ar_t32)]))
def m2h27 : aw_H := [(81, m2x25), (83, m2x26)]
theorem m2k7 : ai_chk [] m2c7 (fun pc => sm_ch sm_t146 pc, sm_Kn 3 3 none, fun x => sm_lk sm_ca3 x, some .int) [] 3 0 [4] [] 2000 [(4, [(0, .inl 81), (1, .inr (false, [(0, 0)])), (2, .inr (false, [(0, 0)]))], [], m2h5),
  (4, [(0, .inl 81), (1, .inr (false, [(0, 1)])), (2, .inr (false, [(1, 1)]))], [], m2h6),
  (4, [(0, .inl 81), (1, .inr (false, [(0, 2)])), (2, .inr (false, [(2, 2)]))], [], m2h9),
  (4, [(0, .inl 81), (1, .inr (false, [(0, 3)])), (2, .inr (false, [(3, 3)]))], [], m2h12),
  (4, [(0, .inl 81), (1, .inr (false, [(0, 4)])), (2, .inr (false, [(4, 4)]))], [], m2h15),
  (4, [(0, .inl 81), (1, .inr (false, [(0, 5)])), (2, .inr (false, [(5, 5)]))], [], m2h18),
  (4, [(0, .inl 81), (1, .inr (false, [(0, 6)])), (2, .inr (false, [(6, 6)]))], [], m2h21),
  (4, [(0, .inl 81), (1, .inr (false, [(0, 7)])), (2, .inr (false, [(7, 7)]))], [], m2h24),
  (4, [(0, .inl 81), (1, .inr (false, [(0, 8)])), (2, .inr (false, [(8, 8)]))], [], m2h27)] = true := by decide +kernel
/-- MiceRegistersModel.farOf -/
def m2h28 : aw_H := [(81, m2x0), (82, ms_r [(0, [(-1, 40)])])]
def m2c8 : ak_C := (137, [.inl 81, .inr (false, [(0, 0)]), .inr (false, [(0, 3)]), .inr (false, [(0, 7)])], m2h28, [], [([], some (.inr (false, [(0, 7)])), [])])
theorem m2k8 : ai_chk [] m2c8 (fun pc => sm_ch sm_t137 pc, sm_Kn 3 5 none, fun x => sm_lk sm_ca3 x, some .int) [] 5 0 [] [] 2000 [] = true := by decide +kernel
/-- MiceRegistersModel.likesBy -/
def m2c9 : ak_C := (138, [.inr (false, ar_t32), .inr (false, ar_t32), .inr (false, ar_t32), .inr (false, ar_t32)], [], [], [([], some (.inr (false, ar_t32)), [])])
theorem m2k9 : ai_chk [] m2c9 (fun pc => sm_ch sm_t138 pc, sm_Kn 3 4 none, fun x => sm_lk sm_ca3 x, some .int) [] 4 0 [] [] 2000 [] = true := by decide +kernel
/-- MiceRegistersModel.likesIn -/
def m2h29 : aw_H := [(81, m2x0), (82, ms_r [(0, [(-1, 40)])]), (83, .inr (.inl (0, 8, [], []))), (85, .inr (.inl (0, 4, [], [])))]
def m2c10 : ak_C := (136, [.inl 81, .inr (false, [(0, 0)]), .inr (false, [(0, 3)]), .inr (false, [(0, 7)])], m2h29, [], [([], some (.inr (false, ar_t32)), [])])
theorem m2k10 : ai_chk [m2c8, m2c9] m2c10 (fun pc => sm_ch sm_t136 pc, sm_Kn 3 4 none, fun x => sm_lk sm_ca3 x, some .int) [] 4 0 [] [] 2000 [] = true := by decide +kernel
/-- MiceRegistersModel.likedBy -/
def m2c11 : ak_C := (145, [.inl 81, .inr (false, [(0, 3)])], m2h29, [], [([], some (.inr (false, [(0, 8)])), [])])
def m2h30 : aw_H := [(81, m2x7), (82, ms_r [(0, [(-1, 40)])]), (83, .inr (.inl (0, 8, [], []))), (85, .inr (.inl (0, 4, [], [])))]
def m2h31 : aw_H := [(81, m2x10), (82, ms_r [(0, [(-1, 40)])]), (83, .inr (.inl (0, 8, [], []))), (85, .inr (.inl (0, 4, [], [])))]
def m2h32 : aw_H := [(81, m2x13), (82, ms_r [(0, [(-1, 40)])]), (83, .inr (.inl (0, 8, [], []))), (85, .inr (.inl (0, 4, [], [])))]
def m2h33 : aw_H := [(81, m2x16), (82, ms_r [(0, [(-1, 40)])]), (83, .inr (.inl (0, 8, [], []))), (85, .inr (.inl (0, 4, [], [])))]
def m2h34 : aw_H := [(81, m2x19), (82, ms_r [(0, [(-1, 40)])]), (83, .inr (.inl (0, 8, [], []))), (85, .inr (.inl (0, 4, [], [])))]
def m2h35 : aw_H := [(81, m2x22), (82, ms_r [(0, [(-1, 40)])]), (83, .inr (.inl (0, 8, [], []))), (85, .inr (.inl (0, 4, [], [])))]
def m2h36 : aw_H := [(81, m2x25), (82, ms_r [(0, [(-1, 40)])]), (83, .inr (.inl (0, 8, [], []))), (85, .inr (.inl (0, 4, [], [])))]
theorem m2k11 : ai_chk [m2c10] m2c11 (fun pc => sm_ch sm_t145 pc, sm_Kn 3 4 none, fun x => sm_lk sm_ca3 x, some .int) [] 4 0 [4] [] 2000 [(4, [(0, .inl 81), (1, .inr (false, [(0, 3)])), (2, .inr (false, [(0, 0)])), (3, .inr (false, [(0, 0)]))], [], m2h29),
  (4, [(0, .inl 81), (1, .inr (false, [(0, 3)])), (2, .inr (false, [(0, 1)])), (3, .inr (false, [(1, 1)]))], [], m2h29),
  (4, [(0, .inl 81), (1, .inr (false, [(0, 3)])), (2, .inr (false, [(0, 2)])), (3, .inr (false, [(2, 2)]))], [], m2h30),
  (4, [(0, .inl 81), (1, .inr (false, [(0, 3)])), (2, .inr (false, [(0, 3)])), (3, .inr (false, [(3, 3)]))], [], m2h31),
  (4, [(0, .inl 81), (1, .inr (false, [(0, 3)])), (2, .inr (false, [(0, 4)])), (3, .inr (false, [(4, 4)]))], [], m2h32),
  (4, [(0, .inl 81), (1, .inr (false, [(0, 3)])), (2, .inr (false, [(0, 5)])), (3, .inr (false, [(5, 5)]))], [], m2h33),
  (4, [(0, .inl 81), (1, .inr (false, [(0, 3)])), (2, .inr (false, [(0, 6)])), (3, .inr (false, [(6, 6)]))], [], m2h34),
  (4, [(0, .inl 81), (1, .inr (false, [(0, 3)])), (2, .inr (false, [(0, 7)])), (3, .inr (false, [(7, 7)]))], [], m2h35),
  (4, [(0, .inl 81), (1, .inr (false, [(0, 3)])), (2, .inr (false, [(0, 8)])), (3, .inr (false, [(8, 8)]))], [], m2h36)] = true := by decide +kernel
/-- MiceRegistersModel.cheeses -/
def m2c12 : ak_C := (147, [.inl 81], m2h28, [], [([], some (.inr (false, ar_t32)), [])])
theorem m2k12 : ai_chk [] m2c12 (fun pc => sm_ch sm_t147 pc, sm_Kn 3 3 none, fun x => sm_lk sm_ca3 x, some .int) [] 3 0 [4] [] 2000 [(4, [(0, .inl 81), (1, .inr (false, [(0, 0)])), (2, .inr (false, [(0, 0)]))], [], m2h28),
  (4, [(0, .inl 81), (1, .inr (false, ar_t32)), (2, .inr (false, [(1, 1)]))], [], m2h28),
  (4, [(0, .inl 81), (1, .inr (false, ar_t32)), (2, .inr (false, [(2, 2)]))], [], m2h28),
  (4, [(0, .inl 81), (1, .inr (false, ar_t32)), (2, .inr (false, [(3, 3)]))], [], m2h28),
  (4, [(0, .inl 81), (1, .inr (false, ar_t32)), (2, .inr (false, [(4, 4)]))], [], m2h28),
  (4, [(0, .inl 81), (1, .inr (false, ar_t32)), (2, .inr (false, [(5, 5)]))], [], m2h28),
  (4, [(0, .inl 81), (1, .inr (false, ar_t32)), (2, .inr (false, [(6, 6)]))], [], m2h28),
  (4, [(0, .inl 81), (1, .inr (false, ar_t32)), (2, .inr (false, [(7, 7)]))], [], m2h28),
  (4, [(0, .inl 81), (1, .inr (false, ar_t32)), (2, .inr (false, [(8, 8)]))], [], m2h28)] = true := by decide +kernel
def m2x37 : aw_A := ms_o [(1, 8)] [(2, 2)] ar_t32 [(1, 5)] [(0, 180)] [(0, 60)] [(-1, 60)] [(0, 8)] [(0, 4)]
def m2h38 : aw_H := [(81, m2x37), (91, .inr (.inl (0, 6, [], [])))]
/-- MiceRegistersModel.find -/
def m2h39 : aw_H := [(81, m2x0), (91, .inr (.inl (0, 6, [], [])))]
def m2c13 : ak_C := (106, [.inl 81, .inr (false, [(1, 5)])], m2h39, [81, 91], [([], some (.inr (false, [(-3, -3)])), m2h38)])
theorem m2k13 : ai_chk [] m2c13 (fun pc => sm_ch sm_t106 pc, sm_Kn 3 2 none, fun x => sm_lk sm_ca3 x, some .int) [81, 91] 2 0 [] [] 2000 [] = true := by decide +kernel
/-- MiceRegistersModel.mark -/
def m2h40 : aw_H := [(81, m2x0), (82, ms_r [(0, [(-1, 40)])]), (83, .inr (.inl (0, 8, [], []))), (85, .inr (.inl (0, 4, [], []))), (86, m2x3), (91, .inr (.inl (0, 6, [], [])))]
def m2c14 : ak_C := (143, [.inl 81, .inr (false, ar_t32), .inr (false, ar_t32)], m2h40, [81, 91], [([[], [], []], some (.inr (false, [(-1, -1)])), m2h39), ([[], [(0, 1)], [(1, 5)]], some (.inr (false, ar_t32)), m2h39), ([[], [(0, 1)], [(1, 5)]], some (.inr (false, [(-3, -3)])), m2h38)])
theorem m2k14 : ai_chk [m2c3, m2c4, m2c5, m2c6, m2c7, m2c11, m2c12, m2c13] m2c14 (fun pc => sm_ch sm_t143 pc, sm_Kn 3 3 none, fun x => sm_lk sm_ca3 x, some .int) [81, 91] 3 3 [] [] 2000 [] = true := by decide +kernel
/-- MiceRegistersModel.in -/
def m2c15 : ak_C := (105, [.inr (true, ar_t32), .inr (true, [(0, 0)]), .inr (true, [(0, 7)])], [], [], [([[(0, 7)], [], []], some (.inr (false, [(1, 1)])), []), ([[(-2147483648, -1), (1, 2147483647)], [], []], some (.inr (false, [(0, 0)])), [])])
theorem m2k15 : ai_chk [] m2c15 (fun pc => sm_ch sm_t105 pc, sm_Kn 3 6 none, fun x => sm_lk sm_ca3 x, some .boolean) [] 6 6 [] [] 2000 [] = true := by decide +kernel
/-- MiceRegistersModel.isLine -/
def m2c16 : ak_C := (131, [.inl 81, .inr (false, ar_t32)], m2h1, [], [([[], [(-2147483648, -1), (1, 2147483647)]], some (.inr (false, [(0, 0)])), []), ([[], [(0, 7)]], some (.inr (false, [(1, 1)])), [])])
theorem m2k16 : ai_chk [m2c15] m2c16 (fun pc => sm_ch sm_t131 pc, sm_Kn 3 2 none, fun x => sm_lk sm_ca3 x, some .boolean) [] 2 2 [] [] 2000 [] = true := by decide +kernel
/-- MiceRegistersModel.in -/
def m2c17 : ak_C := (105, [.inr (true, ar_t32), .inr (true, [(0, 0)]), .inr (true, [(12, 12)])], [], [], [([[(0, 12)], [], []], some (.inr (false, [(1, 1)])), []), ([[(-2147483648, -1), (13, 2147483647)], [], []], some (.inr (false, [(0, 0)])), [])])
theorem m2k17 : ai_chk [] m2c17 (fun pc => sm_ch sm_t105 pc, sm_Kn 3 6 none, fun x => sm_lk sm_ca3 x, some .boolean) [] 6 6 [] [] 2000 [] = true := by decide +kernel
/-- MiceRegistersModel.has -/
def m2c18 : ak_C := (135, [.inr (false, [(0, 0)]), .inr (false, [(0, 0)])], [], [], [([], some (.inr (false, [(0, 0)])), [])])
theorem m2k18 : ai_chk [] m2c18 (fun pc => sm_ch sm_t135 pc, sm_Kn 3 2 none, fun x => sm_lk sm_ca3 x, some .boolean) [] 2 0 [] [] 2000 [] = true := by decide +kernel
/-- MiceRegistersModel.has -/
def m2c19 : ak_C := (135, [.inr (false, [(0, 0)]), .inr (false, [(1, 1)])], [], [], [([], some (.inr (false, [(0, 0)])), [])])
theorem m2k19 : ai_chk [] m2c19 (fun pc => sm_ch sm_t135 pc, sm_Kn 3 2 none, fun x => sm_lk sm_ca3 x, some .boolean) [] 2 0 [] [] 2000 [] = true := by decide +kernel
/-- MiceRegistersModel.chancesOf -/
def m2c20 : ak_C := (185, [.inl 81, .inr (false, [(0, 0)]), .inr (false, [(0, 11)])], m2h1, [], [([], some (.inr (true, [(1, 144)])), [])])
theorem m2k20 : ai_chk [m2c18, m2c19] m2c20 (fun pc => sm_ch sm_t185 pc, sm_Kn 3 6 none, fun x => sm_lk sm_ca3 x, some .long) [] 6 0 [5] [] 2000 [(5, [(0, .inl 81), (1, .inr (false, [(0, 0)])), (2, .inr (false, [(0, 11)])), (3, .inr (true, [(1, 1)])), (5, .inr (false, [(0, 0)]))], [], m2h1),
  (5, [(0, .inl 81), (1, .inr (false, [(0, 0)])), (2, .inr (false, [(0, 11)])), (3, .inr (true, [(1, 12)])), (5, .inr (false, [(1, 1)]))], [], m2h1),
  (5, [(0, .inl 81), (1, .inr (false, [(0, 0)])), (2, .inr (false, [(0, 11)])), (3, .inr (true, [(1, 144)])), (5, .inr (false, [(2, 2)]))], [], m2h1)] = true := by decide +kernel
/-- MiceRegistersModel.wants -/
def m2b25 : sm_P := (fun pc => sm_ch sm_t134 pc, sm_Kn 3 9 none, fun x => sm_lk sm_ca3 x, some .int)
