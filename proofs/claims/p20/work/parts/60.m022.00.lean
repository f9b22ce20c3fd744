/-! Contracts over ranges of the reference, and their checks; printed by a program of mine. -/
/-- MiceRegistersModel.leftIn -/
def m3c66 : ak_C := (168, [.inl 81, .inr (false, [(3776, 3776)])], m3h28, [], [([], some (.inr (false, ar_t32)), [])])
def m3h76 : aw_H := [(81, m3x7), (82, ms_r [(0, [(-1, 40)])])]
def m3h77 : aw_H := [(81, m3x10), (82, ms_r [(0, [(-1, 40)])])]
def m3h78 : aw_H := [(81, m3x13), (82, ms_r [(0, [(-1, 40)])])]
def m3h79 : aw_H := [(81, m3x16), (82, ms_r [(0, [(-1, 40)])])]
def m3h80 : aw_H := [(81, m3x19), (82, ms_r [(0, [(-1, 40)])])]
def m3h81 : aw_H := [(81, m3x22), (82, ms_r [(0, [(-1, 40)])])]
def m3h82 : aw_H := [(81, m3x25), (82, ms_r [(0, [(-1, 40)])])]
theorem m3k66 : ai_chk [] m3c66 (fun pc => sm_ch sm_t168 pc, sm_Kn 3 4 none, fun x => sm_lk sm_ca3 x, some .int) [] 4 0 [4] [] 2000 [(4, [(0, .inl 81), (1, .inr (false, [(3776, 3776)])), (2, .inr (false, [(0, 0)])), (3, .inr (false, [(0, 0)]))], [], m3h28),
  (4, [(0, .inl 81), (1, .inr (false, [(3776, 3776)])), (2, .inr (false, ar_t32)), (3, .inr (false, [(1, 1)]))], [], m3h28),
  (4, [(0, .inl 81), (1, .inr (false, [(3776, 3776)])), (2, .inr (false, ar_t32)), (3, .inr (false, [(2, 2)]))], [], m3h76),
  (4, [(0, .inl 81), (1, .inr (false, [(3776, 3776)])), (2, .inr (false, ar_t32)), (3, .inr (false, [(3, 3)]))], [], m3h77),
  (4, [(0, .inl 81), (1, .inr (false, [(3776, 3776)])), (2, .inr (false, ar_t32)), (3, .inr (false, [(4, 4)]))], [], m3h78),
  (4, [(0, .inl 81), (1, .inr (false, [(3776, 3776)])), (2, .inr (false, ar_t32)), (3, .inr (false, [(5, 5)]))], [], m3h79),
  (4, [(0, .inl 81), (1, .inr (false, [(3776, 3776)])), (2, .inr (false, ar_t32)), (3, .inr (false, [(6, 6)]))], [], m3h80),
  (4, [(0, .inl 81), (1, .inr (false, [(3776, 3776)])), (2, .inr (false, ar_t32)), (3, .inr (false, [(7, 7)]))], [], m3h81),
  (4, [(0, .inl 81), (1, .inr (false, [(3776, 3776)])), (2, .inr (false, ar_t32)), (3, .inr (false, [(8, 8)]))], [], m3h82)] = true := by decide +kernel
/-- MiceRegistersModel.mid -/
def m3c67 : ak_C := (187, [.inl 81, .inr (false, ar_t32)], m3h58, [81, 82], [([[], [(-2147483648, -1), (13, 2147483647)]], some (.inr (false, [(-1, -1)])), m3h28), ([[], [(0, 12)]], some (.inr (false, [(1, 1)])), m3h74)])
def czm3s67x0 : aw_A := ms_o [(1, 8)] [(3, 3)] ar_t32 ar_t32 [(0, 180)] [(0, 60)] [(-1, 60)] [(0, 8)] [(0, 4)]
def czm3s67x1 : aw_A := .inr (.inl (0, 4, [(0, 2, [(1, 9)])], []))
def czm3s67h2 : aw_H := [(81, czm3s67x0), (82, ms_r [(0, [(-1, 40)])]), (83, .inr (.inl (0, 8, [], []))), (85, .inr (.inl (0, 4, [], []))), (86, czm3s67x1)]
set_option maxRecDepth 100000 in
theorem m3k67 : ai_ch2 [m3c17, m3c21, mgc6368, mgc6372, m3c66, m3c31, m3c35, m3c39, m3c43, m3c47, m3c51, m3c55, m3c56, m3c57, m3c58, m3c59, m3c60, m3c61, m3c62, m3c63, m3c64] m3c67 (fun pc => sm_ch sm_t187 pc, sm_Kn 3 9 none, fun x => sm_lk sm_ca3 x, some .int) [81, 82] 9 2 [32] [(24, some (0, 1, 0), 12, 1)] 2000 [.inl (32, [(0, .inl 81), (1, .inr (false, [(0, 11)])), (2, .inr (true, [(0, 0)])), (4, .inr (true, [(0, 0)])), (6, .inr (false, [(0, 0)]))], [], czm3s67h2),
  .inl (32, [(0, .inl 81), (1, .inr (false, [(0, 11)])), (2, .inr (true, [(-3710851743744, 3710851742016)])), (4, .inr (true, [(1, 1728)])), (6, .inr (false, [(1, 1)])), (7, .inr (true, [(1, 1728)]))], [], czm3s67h2),
  .inl (32, [(0, .inl 81), (1, .inr (false, [(0, 11)])), (2, .inr (true, [(-7112465842176, 7112465838864)])), (4, .inr (true, [(1, 3312)])), (6, .inr (false, [(2, 2)])), (7, .inr (true, [(0, 1584)]))], [], czm3s67h2),
  .inl (32, [(0, .inl 81), (1, .inr (false, [(0, 11)])), (2, .inr (true, [(-10514079940608, 10514079935712)])), (4, .inr (true, [(1, 4896)])), (6, .inr (false, [(3, 3)])), (7, .inr (true, [(0, 1584)]))], [], czm3s67h2),
  .inl (32, [(0, .inl 81), (1, .inr (false, [(0, 11)])), (2, .inr (true, [(-13632226197504, 13632226191156)])), (4, .inr (true, [(1, 6348)])), (6, .inr (false, [(4, 4)])), (7, .inr (true, [(0, 1452)]))], [], czm3s67h2),
  .inl (32, [(0, .inl 81), (1, .inr (false, [(0, 11)])), (2, .inr (true, [(-17033840295936, 17033840288004)])), (4, .inr (true, [(1, 7932)])), (6, .inr (false, [(5, 5)])), (7, .inr (true, [(0, 1584)]))], [], czm3s67h2),
  .inl (32, [(0, .inl 81), (1, .inr (false, [(0, 11)])), (2, .inr (true, [(-20151986552832, 20151986543448)])), (4, .inr (true, [(1, 9384)])), (6, .inr (false, [(6, 6)])), (7, .inr (true, [(0, 1452)]))], [], czm3s67h2),
  .inl (32, [(0, .inl 81), (1, .inr (false, [(0, 11)])), (2, .inr (true, [(-23270132809728, 23270132798892)])), (4, .inr (true, [(1, 10836)])), (6, .inr (false, [(7, 7)])), (7, .inr (true, [(0, 1452)]))], [], czm3s67h2),
  .inl (32, [(0, .inl 81), (1, .inr (false, [(0, 11)])), (2, .inr (true, [(-26128433545216, 26128433533049)])), (4, .inr (true, [(1, 12167)])), (6, .inr (false, [(8, 8)])), (7, .inr (true, [(0, 1331)]))], [], czm3s67h2),
  .inl (32, [(0, .inl 81), (1, .inr (false, [(12, 12)])), (2, .inr (true, [(0, 0)])), (4, .inr (true, [(0, 0)])), (6, .inr (false, [(0, 0)]))], [], czm3s67h2),
  .inl (32, [(0, .inl 81), (1, .inr (false, [(12, 12)])), (2, .inr (true, [(0, 0)])), (4, .inr (true, [(0, 0)])), (6, .inr (false, [(1, 1)])), (7, .inr (true, [(0, 0)]))], [], czm3s67h2),
  .inl (32, [(0, .inl 81), (1, .inr (false, [(12, 12)])), (2, .inr (true, [(0, 0)])), (4, .inr (true, [(0, 0)])), (6, .inr (false, [(2, 2)])), (7, .inr (true, [(0, 0)]))], [], czm3s67h2),
  .inl (32, [(0, .inl 81), (1, .inr (false, [(12, 12)])), (2, .inr (true, [(0, 0)])), (4, .inr (true, [(0, 0)])), (6, .inr (false, [(3, 3)])), (7, .inr (true, [(0, 0)]))], [], czm3s67h2),
  .inl (32, [(0, .inl 81), (1, .inr (false, [(12, 12)])), (2, .inr (true, [(0, 0)])), (4, .inr (true, [(0, 0)])), (6, .inr (false, [(4, 4)])), (7, .inr (true, [(0, 0)]))], [], czm3s67h2),
  .inl (32, [(0, .inl 81), (1, .inr (false, [(12, 12)])), (2, .inr (true, [(0, 0)])), (4, .inr (true, [(0, 0)])), (6, .inr (false, [(5, 5)])), (7, .inr (true, [(0, 0)]))], [], czm3s67h2),
  .inl (32, [(0, .inl 81), (1, .inr (false, [(12, 12)])), (2, .inr (true, [(0, 0)])), (4, .inr (true, [(0, 0)])), (6, .inr (false, [(6, 6)])), (7, .inr (true, [(0, 0)]))], [], czm3s67h2),
  .inl (32, [(0, .inl 81), (1, .inr (false, [(12, 12)])), (2, .inr (true, [(0, 0)])), (4, .inr (true, [(0, 0)])), (6, .inr (false, [(7, 7)])), (7, .inr (true, [(0, 0)]))], [], czm3s67h2),
  .inl (32, [(0, .inl 81), (1, .inr (false, [(12, 12)])), (2, .inr (true, [(-3710851743744, 3710851742016)])), (4, .inr (true, [(1728, 1728)])), (6, .inr (false, [(8, 8)])), (7, .inr (true, [(1728, 1728)]))], [], czm3s67h2)] = true := by decide +kernel
/-- MiceRegistersModel.in -/
def m4c2 : ak_C := (105, [.inr (true, ar_t32), .inr (true, [(0, 0)]), .inr (true, [(3, 3)])], [], [], [([[(0, 3)], [], []], some (.inr (false, [(1, 1)])), []), ([[(-2147483648, -1), (4, 2147483647)], [], []], some (.inr (false, [(0, 0)])), [])])
theorem m4k2 : ai_chk [] m4c2 (fun pc => sm_ch sm_t105 pc, sm_Kn 3 6 none, fun x => sm_lk sm_ca3 x, some .boolean) [] 6 6 [] [] 2000 [] = true := by decide +kernel
/-- MiceRegistersModel.isMouse -/
def m4x0 : aw_A := ms_o [(1, 8)] [(4, 4)] ar_t32 ar_t32 [(0, 180)] [(0, 60)] [(-1, 60)] [(0, 8)] [(0, 4)]
def m4h1 : aw_H := [(81, m4x0)]
def m4c3 : ak_C := (140, [.inl 81, .inr (false, ar_t32)], m4h1, [], [([[], [(-2147483648, -1), (4, 2147483647)]], some (.inr (false, [(0, 0)])), []), ([[], [(0, 3)]], some (.inr (false, [(1, 1)])), [])])
theorem m4k3 : ai_chk [m4c2] m4c3 (fun pc => sm_ch sm_t140 pc, sm_Kn 3 2 none, fun x => sm_lk sm_ca3 x, some .boolean) [] 2 2 [] [] 2000 [] = true := by decide +kernel
/-- MiceRegistersModel.in -/
def m4c4 : ak_C := (105, [.inr (true, ar_t32), .inr (true, [(1, 1)]), .inr (true, [(5, 5)])], [], [], [([[(1, 5)], [], []], some (.inr (false, [(1, 1)])), []), ([[(-2147483648, 0), (6, 2147483647)], [], []], some (.inr (false, [(0, 0)])), [])])
theorem m4k4 : ai_chk [] m4c4 (fun pc => sm_ch sm_t105 pc, sm_Kn 3 6 none, fun x => sm_lk sm_ca3 x, some .boolean) [] 6 6 [] [] 2000 [] = true := by decide +kernel
/-- MiceRegistersModel.isOf -/
def m4h2 : aw_H := [(81, m4x0), (85, .inr (.inl (0, 4, [], [])))]
def m4c5 : ak_C := (144, [.inl 81, .inr (false, [(0, 3)]), .inr (false, ar_t32)], m4h2, [], [([], some (.inr (false, [(0, 0)])), []), ([], some (.inr (false, [(1, 1)])), [])])
theorem m4k5 : ai_chk [] m4c5 (fun pc => sm_ch sm_t144 pc, sm_Kn 3 4 none, fun x => sm_lk sm_ca3 x, some .boolean) [] 4 0 [] [] 2000 [] = true := by decide +kernel
/-- MiceRegistersModel.eatsOf -/
def m4x3 : aw_A := .inr (.inl (0, 4, [(0, 3, [(1, 9)])], []))
def m4h4 : aw_H := [(81, m4x0), (85, .inr (.inl (0, 4, [], []))), (86, m4x3)]
def m4c6 : ak_C := (142, [.inl 81, .inr (false, [(0, 3)])], m4h4, [], [([], some (.inr (false, [(1, 18)])), [])])
theorem m4k6 : ai_chk [] m4c6 (fun pc => sm_ch sm_t142 pc, sm_Kn 3 2 none, fun x => sm_lk sm_ca3 x, some .int) [] 2 0 [] [] 2000 [] = true := by decide +kernel
/-- MiceRegistersModel.littleWrong -/
def m4h5 : aw_H := [(81, m4x0), (83, .inr (.inl (0, 8, [], [])))]
def m4c7 : ak_C := (146, [.inl 81], m4h5, [], [([], some (.inr (false, [(0, 8)])), [])])
def m4h6 : aw_H := [(81, m4x0), (83, .inr (.inl (0, 8, [], [(0, ar_t32)])))]
def m4x7 : aw_A := ms_o [(2, 8)] [(4, 4)] ar_t32 ar_t32 [(0, 180)] [(0, 60)] [(-1, 60)] [(0, 8)] [(0, 4)]
def m4x8 : aw_A := .inr (.inl (0, 8, [], [(0, ar_t32), (1, ar_t32)]))
def m4h9 : aw_H := [(81, m4x7), (83, m4x8)]
def m4x10 : aw_A := ms_o [(3, 8)] [(4, 4)] ar_t32 ar_t32 [(0, 180)] [(0, 60)] [(-1, 60)] [(0, 8)] [(0, 4)]
def m4x11 : aw_A := .inr (.inl (0, 8, [], [(0, ar_t32), (1, ar_t32), (2, ar_t32)]))
def m4h12 : aw_H := [(81, m4x10), (83, m4x11)]
def m4x13 : aw_A := ms_o [(4, 8)] [(4, 4)] ar_t32 ar_t32 [(0, 180)] [(0, 60)] [(-1, 60)] [(0, 8)] [(0, 4)]
def m4x14 : aw_A := .inr (.inl (0, 8, [], [(0, ar_t32), (1, ar_t32), (2, ar_t32), (3, ar_t32)]))
def m4h15 : aw_H := [(81, m4x13), (83, m4x14)]
def m4x16 : aw_A := ms_o [(5, 8)] [(4, 4)] ar_t32 ar_t32 [(0, 180)] [(0, 60)] [(-1, 60)] [(0, 8)] [(0, 4)]
def m4x17 : aw_A := .inr (.inl (0, 8, [], [(0, ar_t32), (1, ar_t32), (2, ar_t32), (3, ar_t32), (4, ar_t32)]))
def m4h18 : aw_H := [(81, m4x16), (83, m4x17)]
def m4x19 : aw_A := ms_o [(6, 8)] [(4, 4)] ar_t32 ar_t32 [(0, 180)] [(0, 60)] [(-1, 60)] [(0, 8)] [(0, 4)]
def m4x20 : aw_A := .inr (.inl (0, 8, [], [(0, ar_t32), (1, ar_t32), (2, ar_t32), (3, ar_t32), (4, ar_t32), (5, ar_t32)]))
def m4h21 : aw_H := [(81, m4x19), (83, m4x20)]
def m4x22 : aw_A := ms_o [(7, 8)] [(4, 4)] ar_t32 ar_t32 [(0, 180)] [(0, 60)] [(-1, 60)] [(0, 8)] [(0, 4)]
def m4x23 : aw_A := .inr (.inl (0, 8, [], [(0, ar_t32), (1, ar_t32), (2, ar_t32), (3, ar_t32), (4, ar_t32), (5, ar_t32), (6, ar_t32)]))
def m4h24 : aw_H := [(81, m4x22), (83, m4x23)]
