/-! Contracts over ranges of the reference, and their checks; printed by a program of mine. -/
/-- MiceRegistersModel.in -/
def m0c2 : ak_C := (105, [.inr (true, ar_t32), .inr (true, [(0, 0)]), .inr (true, [(-1, -1)])], [], [], [([], some (.inr (false, [(0, 0)])), [])])
theorem m0k2 : ai_chk [] m0c2 (fun pc => sm_ch sm_t105 pc, sm_Kn 3 6 none, fun x => sm_lk sm_ca3 x, some .boolean) [] 6 0 [] [] 2000 [] = true := by decide +kernel
/-- MiceRegistersModel.isMouse -/
def m0x0 : aw_A := ms_o [(0, 8)] [(0, 0)] ar_t32 ar_t32 [(0, 180)] [(0, 60)] [(-1, 60)] [(0, 8)] [(0, 4)]
def m0h1 : aw_H := [(81, m0x0)]
def m0c3 : ak_C := (140, [.inl 81, .inr (false, ar_t32)], m0h1, [], [([], some (.inr (false, [(0, 0)])), [])])
theorem m0k3 : ai_chk [m0c2] m0c3 (fun pc => sm_ch sm_t140 pc, sm_Kn 3 2 none, fun x => sm_lk sm_ca3 x, some .boolean) [] 2 0 [] [] 2000 [] = true := by decide +kernel
/-- MiceRegistersModel.mark -/
def m0c4 : ak_C := (143, [.inl 81, .inr (false, ar_t32), .inr (false, ar_t32)], m0h1, [], [([], some (.inr (false, [(-1, -1)])), [])])
theorem m0k4 : ai_chk [m0c3] m0c4 (fun pc => sm_ch sm_t143 pc, sm_Kn 3 3 none, fun x => sm_lk sm_ca3 x, some .int) [] 3 0 [] [] 2000 [] = true := by decide +kernel
/-- MiceRegistersModel.in -/
def m0c5 : ak_C := (105, [.inr (true, ar_t32), .inr (true, [(0, 0)]), .inr (true, [(-1, 7)])], [], [], [([[(0, 7)], [], [(0, 7)]], some (.inr (false, [(1, 1)])), []), ([[], [], []], some (.inr (false, [(0, 0)])), [])])
theorem m0k5 : ai_chk [] m0c5 (fun pc => sm_ch sm_t105 pc, sm_Kn 3 6 none, fun x => sm_lk sm_ca3 x, some .boolean) [] 6 6 [] [] 2000 [] = true := by decide +kernel
/-- MiceRegistersModel.isLine -/
def m0c6 : ak_C := (131, [.inl 81, .inr (false, ar_t32)], m0h1, [], [([[], []], some (.inr (false, [(0, 0)])), []), ([[], [(0, 7)]], some (.inr (false, [(1, 1)])), [])])
theorem m0k6 : ai_chk [m0c5] m0c6 (fun pc => sm_ch sm_t131 pc, sm_Kn 3 2 none, fun x => sm_lk sm_ca3 x, some .boolean) [] 2 2 [] [] 2000 [] = true := by decide +kernel
/-- MiceRegistersModel.in -/
def m0c7 : ak_C := (105, [.inr (true, ar_t32), .inr (true, [(0, 0)]), .inr (true, [(12, 12)])], [], [], [([[(0, 12)], [], []], some (.inr (false, [(1, 1)])), []), ([[(-2147483648, -1), (13, 2147483647)], [], []], some (.inr (false, [(0, 0)])), [])])
theorem m0k7 : ai_chk [] m0c7 (fun pc => sm_ch sm_t105 pc, sm_Kn 3 6 none, fun x => sm_lk sm_ca3 x, some .boolean) [] 6 6 [] [] 2000 [] = true := by decide +kernel
/-- MiceRegistersModel.chancesOf -/
def m0c8 : ak_C := (185, [.inl 81, .inr (false, [(0, 0)]), .inr (false, [(0, 11)])], m0h1, [], [([], some (.inr (true, [(1, 1)])), [])])
theorem m0k8 : ai_chk [] m0c8 (fun pc => sm_ch sm_t185 pc, sm_Kn 3 6 none, fun x => sm_lk sm_ca3 x, some .long) [] 6 0 [5] [] 2000 [(5, [(0, .inl 81), (1, .inr (false, [(0, 0)])), (2, .inr (false, [(0, 11)])), (3, .inr (true, [(1, 1)])), (5, .inr (false, [(0, 0)]))], [], m0h1)] = true := by decide +kernel
def m0h2 : aw_H := [(82, ms_r [(0, [(-1, 40)])])]
/-- MiceRegistersModel.layTried -/
def m0h3 : aw_H := [(81, m0x0), (82, ms_r [(0, [(-1, 40)])])]
def m0c9 : ak_C := (160, [.inl 81], m0h3, [82], [([], none, m0h2)])
theorem m0k9 : ai_chk [] m0c9 (fun pc => sm_ch sm_t160 pc, sm_Kn 3 2 none, fun x => sm_lk sm_ca3 x, none) [82] 2 0 [2] [] 2000 [(2, [(0, .inl 81), (1, .inr (false, [(0, 0)]))], [], m0h3),
  (2, [(0, .inl 81), (1, .inr (false, [(1, 1)]))], [], m0h3),
  (2, [(0, .inl 81), (1, .inr (false, [(2, 2)]))], [], m0h3),
  (2, [(0, .inl 81), (1, .inr (false, [(3, 3)]))], [], m0h3),
  (2, [(0, .inl 81), (1, .inr (false, [(4, 4)]))], [], m0h3),
  (2, [(0, .inl 81), (1, .inr (false, [(5, 5)]))], [], m0h3),
  (2, [(0, .inl 81), (1, .inr (false, [(6, 6)]))], [], m0h3),
  (2, [(0, .inl 81), (1, .inr (false, [(7, 7)]))], [], m0h3),
  (2, [(0, .inl 81), (1, .inr (false, [(8, 8)]))], [], m0h3),
  (2, [(0, .inl 81), (1, .inr (false, [(9, 9)]))], [], m0h3),
  (2, [(0, .inl 81), (1, .inr (false, [(10, 10)]))], [], m0h3),
  (2, [(0, .inl 81), (1, .inr (false, [(11, 11)]))], [], m0h3),
  (2, [(0, .inl 81), (1, .inr (false, [(12, 12)]))], [], m0h3),
  (2, [(0, .inl 81), (1, .inr (false, [(13, 13)]))], [], m0h3),
  (2, [(0, .inl 81), (1, .inr (false, [(14, 14)]))], [], m0h3),
  (2, [(0, .inl 81), (1, .inr (false, [(15, 15)]))], [], m0h3),
  (2, [(0, .inl 81), (1, .inr (false, [(16, 16)]))], [], m0h3),
  (2, [(0, .inl 81), (1, .inr (false, [(17, 17)]))], [], m0h3),
  (2, [(0, .inl 81), (1, .inr (false, [(18, 18)]))], [], m0h3),
  (2, [(0, .inl 81), (1, .inr (false, [(19, 19)]))], [], m0h3),
  (2, [(0, .inl 81), (1, .inr (false, [(20, 20)]))], [], m0h3),
  (2, [(0, .inl 81), (1, .inr (false, [(21, 21)]))], [], m0h3),
  (2, [(0, .inl 81), (1, .inr (false, [(22, 22)]))], [], m0h3),
  (2, [(0, .inl 81), (1, .inr (false, [(23, 23)]))], [], m0h3),
  (2, [(0, .inl 81), (1, .inr (false, [(24, 24)]))], [], m0h3)] = true := by decide +kernel
/-- MiceRegistersModel.passes -/
def m0c10 : ak_C := (150, [.inl 81, .inr (false, [(3776, 3776)]), .inr (false, ar_t32)], m0h3, [82], [([], some (.inr (false, [(0, 0)])), m0h2)])
def czm010x0 : aw_A := ms_o [(0, 8)] [(0, 0)] ar_t32 ar_t32 [(0, 180)] [(0, 60)] [(-1, 60)] [(0, 8)] [(0, 4)]
def czm010h1 : aw_H := [(81, czm010x0), (82, ms_r [(0, [(-1, 40)])])]
set_option maxRecDepth 100000 in
theorem m0k10 : ai_ch2 [] m0c10 (fun pc => sm_ch sm_t150 pc, sm_Kn 3 7 none, fun x => sm_lk sm_ca3 x, some .int) [82] 7 0 [5, 130] [] 2000 [.inl (5, [(0, .inl 81), (1, .inr (false, [(3776, 3776)])), (2, .inr (false, ar_t32)), (3, .inr (false, [(0, 0)])), (4, .inr (false, [(0, 0)]))], [], czm010h1),
  .inr (4, false, [((130, [(0, .inl 81), (1, .inr (false, [(3776, 3776)])), (2, .inr (false, ar_t32)), (3, .inr (false, [(0, 0)])), (4, .inr (false, [(0, 8)]))], [], czm010h1), none)])] = true := by decide +kernel
