set_option maxRecDepth 100000 in
theorem m2k43 : ai_ch2 [m2c17, m2c20, mgc6368, mgc6372, m2c42, m2c29, m2c32, m2c35, m2c36, m2c37, m2c38, m2c39, m2c40] m2c43 (fun pc => sm_ch sm_t187 pc, sm_Kn 3 9 none, fun x => sm_lk sm_ca3 x, some .int) [81, 82] 9 2 [32] [(24, some (0, 1, 0), 12, 1)] 2000 [.inl (32, [(0, .inl 81), (1, .inr (false, [(0, 11)])), (2, .inr (true, [(0, 0)])), (4, .inr (true, [(0, 0)])), (6, .inr (false, [(0, 0)]))], [], czm2s43h2),
  .inl (32, [(0, .inl 81), (1, .inr (false, [(0, 11)])), (2, .inr (true, [(-309237645312, 309237645168)])), (4, .inr (true, [(1, 144)])), (6, .inr (false, [(1, 1)])), (7, .inr (true, [(1, 144)]))], [], czm2s43h2),
  .inl (32, [(0, .inl 81), (1, .inr (false, [(0, 11)])), (2, .inr (true, [(-592705486848, 592705486572)])), (4, .inr (true, [(1, 276)])), (6, .inr (false, [(2, 2)])), (7, .inr (true, [(0, 132)]))], [], czm2s43h2),
  .inl (32, [(0, .inl 81), (1, .inr (false, [(0, 11)])), (2, .inr (true, [(-876173328384, 876173327976)])), (4, .inr (true, [(1, 408)])), (6, .inr (false, [(3, 3)])), (7, .inr (true, [(0, 132)]))], [], czm2s43h2),
  .inl (32, [(0, .inl 81), (1, .inr (false, [(0, 11)])), (2, .inr (true, [(-1136018849792, 1136018849263)])), (4, .inr (true, [(1, 529)])), (6, .inr (false, [(4, 4)])), (7, .inr (true, [(0, 121)]))], [], czm2s43h2),
  .inl (32, [(0, .inl 81), (1, .inr (false, [(12, 12)])), (2, .inr (true, [(0, 0)])), (4, .inr (true, [(0, 0)])), (6, .inr (false, [(0, 0)]))], [], czm2s43h2),
  .inl (32, [(0, .inl 81), (1, .inr (false, [(12, 12)])), (2, .inr (true, [(0, 0)])), (4, .inr (true, [(0, 0)])), (6, .inr (false, [(1, 1)])), (7, .inr (true, [(0, 0)]))], [], czm2s43h2),
  .inl (32, [(0, .inl 81), (1, .inr (false, [(12, 12)])), (2, .inr (true, [(0, 0)])), (4, .inr (true, [(0, 0)])), (6, .inr (false, [(2, 2)])), (7, .inr (true, [(0, 0)]))], [], czm2s43h2),
  .inl (32, [(0, .inl 81), (1, .inr (false, [(12, 12)])), (2, .inr (true, [(0, 0)])), (4, .inr (true, [(0, 0)])), (6, .inr (false, [(3, 3)])), (7, .inr (true, [(0, 0)]))], [], czm2s43h2),
  .inl (32, [(0, .inl 81), (1, .inr (false, [(12, 12)])), (2, .inr (true, [(-309237645312, 309237645168)])), (4, .inr (true, [(144, 144)])), (6, .inr (false, [(4, 4)])), (7, .inr (true, [(144, 144)]))], [], czm2s43h2)] = true := by decide +kernel
/-- MiceRegistersModel.in -/
def m3c2 : ak_C := (105, [.inr (true, ar_t32), .inr (true, [(0, 0)]), .inr (true, [(2, 2)])], [], [], [([[(0, 2)], [], []], some (.inr (false, [(1, 1)])), []), ([[(-2147483648, -1), (3, 2147483647)], [], []], some (.inr (false, [(0, 0)])), [])])
theorem m3k2 : ai_chk [] m3c2 (fun pc => sm_ch sm_t105 pc, sm_Kn 3 6 none, fun x => sm_lk sm_ca3 x, some .boolean) [] 6 6 [] [] 2000 [] = true := by decide +kernel
/-- MiceRegistersModel.isMouse -/
def m3x0 : aw_A := ms_o [(1, 8)] [(3, 3)] ar_t32 ar_t32 [(0, 180)] [(0, 60)] [(-1, 60)] [(0, 8)] [(0, 4)]
def m3h1 : aw_H := [(81, m3x0)]
def m3c3 : ak_C := (140, [.inl 81, .inr (false, ar_t32)], m3h1, [], [([[], [(-2147483648, -1), (3, 2147483647)]], some (.inr (false, [(0, 0)])), []), ([[], [(0, 2)]], some (.inr (false, [(1, 1)])), [])])
theorem m3k3 : ai_chk [m3c2] m3c3 (fun pc => sm_ch sm_t140 pc, sm_Kn 3 2 none, fun x => sm_lk sm_ca3 x, some .boolean) [] 2 2 [] [] 2000 [] = true := by decide +kernel
/-- MiceRegistersModel.in -/
def m3c4 : ak_C := (105, [.inr (true, ar_t32), .inr (true, [(1, 1)]), .inr (true, [(5, 5)])], [], [], [([[(1, 5)], [], []], some (.inr (false, [(1, 1)])), []), ([[(-2147483648, 0), (6, 2147483647)], [], []], some (.inr (false, [(0, 0)])), [])])
theorem m3k4 : ai_chk [] m3c4 (fun pc => sm_ch sm_t105 pc, sm_Kn 3 6 none, fun x => sm_lk sm_ca3 x, some .boolean) [] 6 6 [] [] 2000 [] = true := by decide +kernel
/-- MiceRegistersModel.isOf -/
def m3h2 : aw_H := [(81, m3x0), (85, .inr (.inl (0, 4, [], [])))]
def m3c5 : ak_C := (144, [.inl 81, .inr (false, [(0, 3)]), .inr (false, ar_t32)], m3h2, [], [([], some (.inr (false, [(0, 0)])), []), ([], some (.inr (false, [(1, 1)])), [])])
theorem m3k5 : ai_chk [] m3c5 (fun pc => sm_ch sm_t144 pc, sm_Kn 3 4 none, fun x => sm_lk sm_ca3 x, some .boolean) [] 4 0 [] [] 2000 [] = true := by decide +kernel
/-- MiceRegistersModel.eatsOf -/
def m3x3 : aw_A := .inr (.inl (0, 4, [(0, 2, [(1, 9)])], []))
def m3h4 : aw_H := [(81, m3x0), (85, .inr (.inl (0, 4, [], []))), (86, m3x3)]
def m3c6 : ak_C := (142, [.inl 81, .inr (false, [(0, 2)])], m3h4, [], [([], some (.inr (false, [(1, 18)])), [])])
theorem m3k6 : ai_chk [] m3c6 (fun pc => sm_ch sm_t142 pc, sm_Kn 3 2 none, fun x => sm_lk sm_ca3 x, some .int) [] 2 0 [] [] 2000 [] = true := by decide +kernel
/-- MiceRegistersModel.littleWrong -/
def m3h5 : aw_H := [(81, m3x0), (83, .inr (.inl (0, 8, [], [])))]
def m3c7 : ak_C := (146, [.inl 81], m3h5, [], [([], some (.inr (false, [(0, 8)])), [])])
def m3h6 : aw_H := [(81, m3x0), (83, .inr (.inl (0, 8, [], [(0, ar_t32)])))]
def m3x7 : aw_A := ms_o [(2, 8)] [(3, 3)] ar_t32 ar_t32 [(0, 180)] [(0, 60)] [(-1, 60)] [(0, 8)] [(0, 4)]
def m3x8 : aw_A := .inr (.inl (0, 8, [], [(0, ar_t32), (1, ar_t32)]))
def m3h9 : aw_H := [(81, m3x7), (83, m3x8)]
def m3x10 : aw_A := ms_o [(3, 8)] [(3, 3)] ar_t32 ar_t32 [(0, 180)] [(0, 60)] [(-1, 60)] [(0, 8)] [(0, 4)]
def m3x11 : aw_A := .inr (.inl (0, 8, [], [(0, ar_t32), (1, ar_t32), (2, ar_t32)]))
def m3h12 : aw_H := [(81, m3x10), (83, m3x11)]
def m3x13 : aw_A := ms_o [(4, 8)] [(3, 3)] ar_t32 ar_t32 [(0, 180)] [(0, 60)] [(-1, 60)] [(0, 8)] [(0, 4)]
def m3x14 : aw_A := .inr (.inl (0, 8, [], [(0, ar_t32), (1, ar_t32), (2, ar_t32), (3, ar_t32)]))
def m3h15 : aw_H := [(81, m3x13), (83, m3x14)]
def m3x16 : aw_A := ms_o [(5, 8)] [(3, 3)] ar_t32 ar_t32 [(0, 180)] [(0, 60)] [(-1, 60)] [(0, 8)] [(0, 4)]
def m3x17 : aw_A := .inr (.inl (0, 8, [], [(0, ar_t32), (1, ar_t32), (2, ar_t32), (3, ar_t32), (4, ar_t32)]))
def m3h18 : aw_H := [(81, m3x16), (83, m3x17)]
def m3x19 : aw_A := ms_o [(6, 8)] [(3, 3)] ar_t32 ar_t32 [(0, 180)] [(0, 60)] [(-1, 60)] [(0, 8)] [(0, 4)]
def m3x20 : aw_A := .inr (.inl (0, 8, [], [(0, ar_t32), (1, ar_t32), (2, ar_t32), (3, ar_t32), (4, ar_t32), (5, ar_t32)]))
def m3h21 : aw_H := [(81, m3x19), (83, m3x20)]
def m3x22 : aw_A := ms_o [(7, 8)] [(3, 3)] ar_t32 ar_t32 [(0, 180)] [(0, 60)] [(-1, 60)] [(0, 8)] [(0, 4)]
def m3x23 : aw_A := .inr (.inl (0, 8, [], [(0, ar_t32), (1, ar_t32), (2, ar_t32), (3, ar_t32), (4, ar_t32), (5, ar_t32), (6, ar_t32)]))
def m3h24 : aw_H := [(81, m3x22), (83, m3x23)]
def m3x25 : aw_A := ms_o [(8, 8)] [(3, 3)] ar_t32 ar_t32 [(0, 180)] [(0, 60)] [(-1, 60)] [(0, 8)] [(0, 4)]
def m3x26 : aw_A := .inr (.inl (0, 8, [], [(0, ar_t32), (1, ar_t32), (2, ar_t32), (3, ar_t32), (4, ar_t32), (5, ar_t32), (6, ar_t32), (7, ar_t32)]))
def m3h27 : aw_H := [(81, m3x25), (83, m3x26)]
theorem m3k7 : ai_chk [] m3c7 (fun pc => sm_ch sm_t146 pc, sm_Kn 3 3 none, fun x => sm_lk sm_ca3 x, some .int) [] 3 0 [4] [] 2000 [(4, [(0, .inl 81), (1, .inr (false, [(0, 0)])), (2, .inr (false, [(0, 0)]))], [], m3h5),
  (4, [(0, .inl 81), (1, .inr (false, [(0, 1)])), (2, .inr (false, [(1, 1)]))], [], m3h6),
  (4, [(0, .inl 81), (1, .inr (false, [(0, 2)])), (2, .inr (false, [(2, 2)]))], [], m3h9),
  (4, [(0, .inl 81), (1, .inr (false, [(0, 3)])), (2, .inr (false, [(3, 3)]))], [], m3h12),
  (4, [(0, .inl 81), (1, .inr (false, [(0, 4)])), (2, .inr (false, [(4, 4)]))], [], m3h15),
  (4, [(0, .inl 81), (1, .inr (false, [(0, 5)])), (2, .inr (false, [(5, 5)]))], [], m3h18),
  (4, [(0, .inl 81), (1, .inr (false, [(0, 6)])), (2, .inr (false, [(6, 6)]))], [], m3h21),
  (4, [(0, .inl 81), (1, .inr (false, [(0, 7)])), (2, .inr (false, [(7, 7)]))], [], m3h24),
  (4, [(0, .inl 81), (1, .inr (false, [(0, 8)])), (2, .inr (false, [(8, 8)]))], [], m3h27)] = true := by decide +kernel
/-- MiceRegistersModel.farOf -/
def m3h28 : aw_H := [(81, m3x0), (82, ms_r [(0, [(-1, 40)])])]
