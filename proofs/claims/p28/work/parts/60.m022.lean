/-! Contracts over ranges of the reference, and their checks; printed by a program of mine. -/
/-- MiceRegistersModel.leftIn -/
def m3c66 : ak_C := (168, [.inl 81, .inr (false, [(3776, 3776)])], m3h28, [], [([], some (.inr (false, ar_t32)), [])])
def m3h76 : aw_H := [(81, m3x7), (82, ms_r [(0, [(-1, 40)])])]
def m3h77 : aw_H := [(81, m3x10), (82, ms_r [(0, [(-1, 40)])])]
def m3h78 : aw_H := [(81, m3x13), (82, ms_r [(0, [(-1, 40)])])]
def m3h79 : aw_H := [(81, m3x16), (82, ms_r [(0, [(-1, 40)])])]
def m3h80 : aw_H := [(81, m3x19), (82, ms_r [(0, [(-1, 40)])])]
def m3h81 : aw_H := [(81, m3x22), (82, ms_r [(0, [(-1, 40)])])]
def m3h82 : aw_H := [(81, m3x25), (82, ms_r [(0, [(-1, 40)])])]
theorem m3k66 : ai_chk [] m3c66 (fun pc => sm_ch sm_t168 pc, sm_Kn 3 4 none, fun x => sm_lk sm_ca3 x, some .int) [] 4 0 [4] [] 2000 [(4, [(0, .inl 81), (1, .inr (false, [(3776, 3776)])), (2, .inr (false, [(0, 0)])), (3, .inr (false, [(0, 0)]))], [], m3h28),
  (4, [(0, .inl 81), (1, .inr (false, [(3776, 3776)])), (2, .inr (false, ar_t32)), (3, .inr (false, [(1, 1)]))], [], m3h28),
  (4, [(0, .inl 81), (1, .inr (false, [(3776, 3776)])), (2, .inr (false, ar_t32)), (3, .inr (false, [(2, 2)]))], [], m3h76),
  (4, [(0, .inl 81), (1, .inr (false, [(3776, 3776)])), (2, .inr (false, ar_t32)), (3, .inr (false, [(3, 3)]))], [], m3h77),
  (4, [(0, .inl 81), (1, .inr (false, [(3776, 3776)])), (2, .inr (false, ar_t32)), (3, .inr (false, [(4, 4)]))], [], m3h78),
  (4, [(0, .inl 81), (1, .inr (false, [(3776, 3776)])), (2, .inr (false, ar_t32)), (3, .inr (false, [(5, 5)]))], [], m3h79),
  (4, [(0, .inl 81), (1, .inr (false, [(3776, 3776)])), (2, .inr (false, ar_t32)), (3, .inr (false, [(6, 6)]))], [], m3h80),
  (4, [(0, .inl 81), (1, .inr (false, [(3776, 3776)])), (2, .inr (false, ar_t32)), (3, .inr (false, [(7, 7)]))], [], m3h81),
  (4, [(0, .inl 81), (1, .inr (false, [(3776, 3776)])), (2, .inr (false, ar_t32)), (3, .inr (false, [(8, 8)]))], [], m3h82)] = true := by decide +kernel
/-- MiceRegistersModel.mid -/
def m3c67 : ak_C := (187, [.inl 81, .inr (false, ar_t32)], m3h58, [81, 82], [([[], [(-2147483648, -1), (13, 2147483647)]], some (.inr (false, [(-1, -1)])), m3h28), ([[], [(0, 12)]], some (.inr (false, [(1, 1)])), m3h74)])
def czm3s67x0 : aw_A := ms_o [(1, 8)] [(3, 3)] ar_t32 ar_t32 [(0, 180)] [(0, 60)] [(-1, 60)] [(0, 8)] [(0, 4)]
def czm3s67x1 : aw_A := .inr (.inl (0, 4, [(0, 2, [(1, 9)])], []))
def czm3s67h2 : aw_H := [(81, czm3s67x0), (82, ms_r [(0, [(-1, 40)])]), (83, .inr (.inl (0, 8, [], []))), (85, .inr (.inl (0, 4, [], []))), (86, czm3s67x1)]
set_option maxRecDepth 100000 in
theorem m3k67 : ai_ch2 [m3c17, m3c21, mgc6368, mgc6372, m3c66, m3c31, m3c35, m3c39, m3c43, m3c47, m3c51, m3c55, m3c56, m3c57, m3c58, m3c59, m3c60, m3c61, m3c62, m3c63, m3c64] m3c67 (fun pc => sm_ch sm_t187 pc, sm_Kn 3 9 none, fun x => sm_lk sm_ca3 x, some .int) [81, 82] 9 2 [32] [(24, some (0, 1, 0), 12, 1)] 2000 [.inl (32, [(0, .inl 81), (1, .inr (false, [(0, 11)])), (2, .inr (true, [(0, 0)])), (4, .inr (true, [(0, 0)])), (6, .inr (false, [(0, 0)]))], [], czm3s67h2),
  .inl (32, [(0, .inl 81), (1, .inr (false, [(0, 11)])), (2, .inr (true, [(-3710851743744, 3710851742016)])), (4, .inr (true, [(1, 1728)])), (6, .inr (false, [(1, 1)])), (7, .inr (true, [(1, 1728)]))], [], czm3s67h2),
  .inl (32, [(0, .inl 81), (1, .inr (false, [(0, 11)])), (2, .inr (true, [(-7112465842176, 7112465838864)])), (4, .inr (true, [(1, 3312)])), (6, .inr (false, [(2, 2)])), (7, .inr (true, [(0, 1584)]))], [], czm3s67h2),
  .inl (32, [(0, .inl 81), (1, .inr (false, [(0, 11)])), (2, .inr (true, [(-10514079940608, 10514079935712)])), (4, .inr (true, [(1, 4896)])), (6, .inr (false, [(3, 3)])), (7, .inr (true, [(0, 1584)]))], [], czm3s67h2),
  .inl (32, [(0, .inl 81), (1, .inr (false, [(0, 11)])), (2, .inr (true, [(-13632226197504, 13632226191156)])), (4, .inr (true, [(1, 6348)])), (6, .inr (false, [(4, 4)])), (7, .inr (true, [(0, 1452)]))], [], czm3s67h2),
  .inl (32, [(0, .inl 81), (1, .inr (false, [(0, 11)])), (2, .inr (true, [(-17033840295936, 17033840288004)])), (4, .inr (true, [(1, 7932)])), (6, .inr (false, [(5, 5)])), (7, .inr (true, [(0, 1584)]))], [], czm3s67h2),
  .inl (32, [(0, .inl 81), (1, .inr (false, [(0, 11)])), (2, .inr (true, [(-20151986552832, 20151986543448)])), (4, .inr (true, [(1, 9384)])), (6, .inr (false, [(6, 6)])), (7, .inr (true, [(0, 1452)]))], [], czm3s67h2),
  .inl (32, [(0, .inl 81), (1, .inr (false, [(0, 11)])), (2, .inr (true, [(-23270132809728, 23270132798892)])), (4, .inr (true, [(1, 10836)])), (6, .inr (false, [(7, 7)])), (7, .inr (true, [(0, 1452)]))], [], czm3s67h2),
  .inl (32, [(0, .inl 81), (1, .inr (false, [(0, 11)])), (2, .inr (true, [(-26128433545216, 26128433533049)])), (4, .inr (true, [(1, 12167)])), (6, .inr (false, [(8, 8)])), (7, .inr (true, [(0, 1331)]))], [], czm3s67h2),
  .inl (32, [(0, .inl 81), (1, .inr (false, [(12, 12)])), (2, .inr (true, [(0, 0)])), (4, .inr (true, [(0, 0)])), (6, .inr (false, [(0, 0)]))], [], czm3s67h2),
  .inl (32, [(0, .inl 81), (1, .inr (false, [(12, 12)])), (2, .inr (true, [(0, 0)])), (4, .inr (true, [(0, 0)])), (6, .inr (false, [(1, 1)])), (7, .inr (true, [(0, 0)]))], [], czm3s67h2),
  .inl (32, [(0, .inl 81), (1, .inr (false, [(12, 12)])), (2, .inr (true, [(0, 0)])), (4, .inr (true, [(0, 0)])), (6, .inr (false, [(2, 2)])), (7, .inr (true, [(0, 0)]))], [], czm3s67h2),
  .inl (32, [(0, .inl 81), (1, .inr (false, [(12, 12)])), (2, .inr (true, [(0, 0)])), (4, .inr (true, [(0, 0)])), (6, .inr (false, [(3, 3)])), (7, .inr (true, [(0, 0)]))], [], czm3s67h2),
  .inl (32, [(0, .inl 81), (1, .inr (false, [(12, 12)])), (2, .inr (true, [(0, 0)])), (4, .inr (true, [(0, 0)])), (6, .inr (false, [(4, 4)])), (7, .inr (true, [(0, 0)]))], [], czm3s67h2),
  .inl (32, [(0, .inl 81), (1, .inr (false, [(12, 12)])), (2, .inr (true, [(0, 0)])), (4, .inr (true, [(0, 0)])), (6, .inr (false, [(5, 5)])), (7, .inr (true, [(0, 0)]))], [], czm3s67h2),
  .inl (32, [(0, .inl 81), (1, .inr (false, [(12, 12)])), (2, .inr (true, [(0, 0)])), (4, .inr (true, [(0, 0)])), (6, .inr (false, [(6, 6)])), (7, .inr (true, [(0, 0)]))], [], czm3s67h2),
  .inl (32, [(0, .inl 81), (1, .inr (false, [(12, 12)])), (2, .inr (true, [(0, 0)])), (4, .inr (true, [(0, 0)])), (6, .inr (false, [(7, 7)])), (7, .inr (true, [(0, 0)]))], [], czm3s67h2),
  .inl (32, [(0, .inl 81), (1, .inr (false, [(12, 12)])), (2, .inr (true, [(-3710851743744, 3710851742016)])), (4, .inr (true, [(1728, 1728)])), (6, .inr (false, [(8, 8)])), (7, .inr (true, [(1728, 1728)]))], [], czm3s67h2)] = true := by decide +kernel
/-- MiceRegistersModel.in -/
def m4c2 : ak_C := (105, [.inr (true, ar_t32), .inr (true, [(0, 0)]), .inr (true, [(3, 3)])], [], [], [([[(0, 3)], [], []], some (.inr (false, [(1, 1)])), []), ([[(-2147483648, -1), (4, 2147483647)], [], []], some (.inr (false, [(0, 0)])), [])])
theorem m4k2 : ai_chk [] m4c2 (fun pc => sm_ch sm_t105 pc, sm_Kn 3 6 none, fun x => sm_lk sm_ca3 x, some .boolean) [] 6 6 [] [] 2000 [] = true := by decide +kernel
/-- MiceRegistersModel.isMouse -/
def m4x0 : aw_A := ms_o [(1, 8)] [(4, 4)] ar_t32 ar_t32 [(0, 180)] [(0, 60)] [(-1, 60)] [(0, 8)] [(0, 4)]
def m4h1 : aw_H := [(81, m4x0)]
def m4c3 : ak_C := (140, [.inl 81, .inr (false, ar_t32)], m4h1, [], [([[], [(-2147483648, -1), (4, 2147483647)]], some (.inr (false, [(0, 0)])), []), ([[], [(0, 3)]], some (.inr (false, [(1, 1)])), [])])
theorem m4k3 : ai_chk [m4c2] m4c3 (fun pc => sm_ch sm_t140 pc, sm_Kn 3 2 none, fun x => sm_lk sm_ca3 x, some .boolean) [] 2 2 [] [] 2000 [] = true := by decide +kernel
/-- MiceRegistersModel.in -/
def m4c4 : ak_C := (105, [.inr (true, ar_t32), .inr (true, [(1, 1)]), .inr (true, [(5, 5)])], [], [], [([[(1, 5)], [], []], some (.inr (false, [(1, 1)])), []), ([[(-2147483648, 0), (6, 2147483647)], [], []], some (.inr (false, [(0, 0)])), [])])
theorem m4k4 : ai_chk [] m4c4 (fun pc => sm_ch sm_t105 pc, sm_Kn 3 6 none, fun x => sm_lk sm_ca3 x, some .boolean) [] 6 6 [] [] 2000 [] = true := by decide +kernel
/-- MiceRegistersModel.isOf -/
def m4h2 : aw_H := [(81, m4x0), (85, .inr (.inl (0, 4, [], [])))]
def m4c5 : ak_C := (144, [.inl 81, .inr (false, [(0, 3)]), .inr (false, ar_t32)], m4h2, [], [([], some (.inr (false, [(0, 0)])), []), ([], some (.inr (false, [(1, 1)])), [])])
theorem m4k5 : ai_chk [] m4c5 (fun pc => sm_ch sm_t144 pc, sm_Kn 3 4 none, fun x => sm_lk sm_ca3 x, some .boolean) [] 4 0 [] [] 2000 [] = true := by decide +kernel
/-- MiceRegistersModel.eatsOf -/
def m4x3 : aw_A := .inr (.inl (0, 4, [(0, 3, [(1, 9)])], []))
def m4h4 : aw_H := [(81, m4x0), (85, .inr (.inl (0, 4, [], []))), (86, m4x3)]
def m4c6 : ak_C := (142, [.inl 81, .inr (false, [(0, 3)])], m4h4, [], [([], some (.inr (false, [(1, 18)])), [])])
theorem m4k6 : ai_chk [] m4c6 (fun pc => sm_ch sm_t142 pc, sm_Kn 3 2 none, fun x => sm_lk sm_ca3 x, some .int) [] 2 0 [] [] 2000 [] = true := by decide +kernel
/-- MiceRegistersModel.littleWrong -/
def m4h5 : aw_H := [(81, m4x0), (83, .inr (.inl (0, 8, [], [])))]
def m4c7 : ak_C := (146, [.inl 81], m4h5, [], [([], some (.inr (false, [(0, 8)])), [])])
def m4h6 : aw_H := [(81, m4x0), (83, .inr (.inl (0, 8, [], [(0, ar_t32)])))]
def m4x7 : aw_A := ms_o [(2, 8)] [(4, 4)] ar_t32 ar_t32 [(0, 180)] [(0, 60)] [(-1, 60)] [(0, 8)] [(0, 4)]
def m4x8 : aw_A := .inr (.inl (0, 8, [], [(0, ar_t32), (1, ar_t32)]))
def m4h9 : aw_H := [(81, m4x7), (83, m4x8)]
def m4x10 : aw_A := ms_o [(3, 8)] [(4, 4)] ar_t32 ar_t32 [(0, 180)] [(0, 60)] [(-1, 60)] [(0, 8)] [(0, 4)]
def m4x11 : aw_A := .inr (.inl (0, 8, [], [(0, ar_t32), (1, ar_t32), (2, ar_t32)]))
def m4h12 : aw_H := [(81, m4x10), (83, m4x11)]
def m4x13 : aw_A := ms_o [(4, 8)] [(4, 4)] ar_t32 ar_t32 [(0, 180)] [(0, 60)] [(-1, 60)] [(0, 8)] [(0, 4)]
def m4x14 : aw_A := .inr (.inl (0, 8, [], [(0, ar_t32), (1, ar_t32), (2, ar_t32), (3, ar_t32)]))
def m4h15 : aw_H := [(81, m4x13), (83, m4x14)]
def m4x16 : aw_A := ms_o [(5, 8)] [(4, 4)] ar_t32 ar_t32 [(0, 180)] [(0, 60)] [(-1, 60)] [(0, 8)] [(0, 4)]
def m4x17 : aw_A := .inr (.inl (0, 8, [], [(0, ar_t32), (1, ar_t32), (2, ar_t32), (3, ar_t32), (4, ar_t32)]))
def m4h18 : aw_H := [(81, m4x16), (83, m4x17)]
def m4x19 : aw_A := ms_o [(6, 8)] [(4, 4)] ar_t32 ar_t32 [(0, 180)] [(0, 60)] [(-1, 60)] [(0, 8)] [(0, 4)]
def m4x20 : aw_A := .inr (.inl (0, 8, [], [(0, ar_t32), (1, ar_t32), (2, ar_t32), (3, ar_t32), (4, ar_t32), (5, ar_t32)]))
def m4h21 : aw_H := [(81, m4x19), (83, m4x20)]
def m4x22 : aw_A := ms_o [(7, 8)] [(4, 4)] ar_t32 ar_t32 [(0, 180)] [(0, 60)] [(-1, 60)] [(0, 8)] [(0, 4)]
def m4x23 : aw_A := .inr (.inl (0, 8, [], [(0, ar_t32), (1, ar_t32), (2, ar_t32), (3, ar_t32), (4, ar_t32), (5, ar_t32), (6, ar_t32)]))
def m4h24 : aw_H := [(81, m4x22), (83, m4x23)]
def m4x25 : aw_A := ms_o [(8, 8)] [(4, 4)] ar_t32 ar_t32 [(0, 180)] [(0, 60)] [(-1, 60)] [(0, 8)] [(0, 4)]
def m4x26 : aw_A := .inr (.inl (0, 8, [], [(0, ar_t32), (1, ar_t32), (2, ar_t32), (3, ar_t32), (4, ar_t32), (5, ar_t32), (6, ar_t32), (7, ar_t32)]))
def m4h27 : aw_H := [(81, m4x25), (83, m4x26)]
theorem m4k7 : ai_chk [] m4c7 (fun pc => sm_ch sm_t146 pc, sm_Kn 3 3 none, fun x => sm_lk sm_ca3 x, some .int) [] 3 0 [4] [] 2000 [(4, [(0, .inl 81), (1, .inr (false, [(0, 0)])), (2, .inr (false, [(0, 0)]))], [], m4h5),
  (4, [(0, .inl 81), (1, .inr (false, [(0, 1)])), (2, .inr (false, [(1, 1)]))], [], m4h6),
  (4, [(0, .inl 81), (1, .inr (false, [(0, 2)])), (2, .inr (false, [(2, 2)]))], [], m4h9),
  (4, [(0, .inl 81), (1, .inr (false, [(0, 3)])), (2, .inr (false, [(3, 3)]))], [], m4h12),
  (4, [(0, .inl 81), (1, .inr (false, [(0, 4)])), (2, .inr (false, [(4, 4)]))], [], m4h15),
  (4, [(0, .inl 81), (1, .inr (false, [(0, 5)])), (2, .inr (false, [(5, 5)]))], [], m4h18),
  (4, [(0, .inl 81), (1, .inr (false, [(0, 6)])), (2, .inr (false, [(6, 6)]))], [], m4h21),
  (4, [(0, .inl 81), (1, .inr (false, [(0, 7)])), (2, .inr (false, [(7, 7)]))], [], m4h24),
  (4, [(0, .inl 81), (1, .inr (false, [(0, 8)])), (2, .inr (false, [(8, 8)]))], [], m4h27)] = true := by decide +kernel
/-- MiceRegistersModel.farOf -/
def m4h28 : aw_H := [(81, m4x0), (82, ms_r [(0, [(-1, 40)])])]
def m4c8 : ak_C := (137, [.inl 81, .inr (false, [(0, 0)]), .inr (false, [(0, 3)]), .inr (false, [(0, 7)])], m4h28, [], [([], some (.inr (false, [(0, 7)])), [])])
theorem m4k8 : ai_chk [] m4c8 (fun pc => sm_ch sm_t137 pc, sm_Kn 3 5 none, fun x => sm_lk sm_ca3 x, some .int) [] 5 0 [] [] 2000 [] = true := by decide +kernel
/-- MiceRegistersModel.likesBy -/
def m4c9 : ak_C := (138, [.inr (false, ar_t32), .inr (false, ar_t32), .inr (false, ar_t32), .inr (false, ar_t32)], [], [], [([], some (.inr (false, ar_t32)), [])])
theorem m4k9 : ai_chk [] m4c9 (fun pc => sm_ch sm_t138 pc, sm_Kn 3 4 none, fun x => sm_lk sm_ca3 x, some .int) [] 4 0 [] [] 2000 [] = true := by decide +kernel
/-- MiceRegistersModel.likesIn -/
def m4h29 : aw_H := [(81, m4x0), (82, ms_r [(0, [(-1, 40)])]), (83, .inr (.inl (0, 8, [], []))), (85, .inr (.inl (0, 4, [], [])))]
def m4c10 : ak_C := (136, [.inl 81, .inr (false, [(0, 0)]), .inr (false, [(0, 3)]), .inr (false, [(0, 7)])], m4h29, [], [([], some (.inr (false, ar_t32)), [])])
theorem m4k10 : ai_chk [m4c8, m4c9] m4c10 (fun pc => sm_ch sm_t136 pc, sm_Kn 3 4 none, fun x => sm_lk sm_ca3 x, some .int) [] 4 0 [] [] 2000 [] = true := by decide +kernel
/-- MiceRegistersModel.likedBy -/
def m4c11 : ak_C := (145, [.inl 81, .inr (false, [(0, 3)])], m4h29, [], [([], some (.inr (false, [(0, 8)])), [])])
def m4h30 : aw_H := [(81, m4x7), (82, ms_r [(0, [(-1, 40)])]), (83, .inr (.inl (0, 8, [], []))), (85, .inr (.inl (0, 4, [], [])))]
def m4h31 : aw_H := [(81, m4x10), (82, ms_r [(0, [(-1, 40)])]), (83, .inr (.inl (0, 8, [], []))), (85, .inr (.inl (0, 4, [], [])))]
def m4h32 : aw_H := [(81, m4x13), (82, ms_r [(0, [(-1, 40)])]), (83, .inr (.inl (0, 8, [], []))), (85, .inr (.inl (0, 4, [], [])))]
def m4h33 : aw_H := [(81, m4x16), (82, ms_r [(0, [(-1, 40)])]), (83, .inr (.inl (0, 8, [], []))), (85, .inr (.inl (0, 4, [], [])))]
def m4h34 : aw_H := [(81, m4x19), (82, ms_r [(0, [(-1, 40)])]), (83, .inr (.inl (0, 8, [], []))), (85, .inr (.inl (0, 4, [], [])))]
def m4h35 : aw_H := [(81, m4x22), (82, ms_r [(0, [(-1, 40)])]), (83, .inr (.inl (0, 8, [], []))), (85, .inr (.inl (0, 4, [], [])))]
def m4h36 : aw_H := [(81, m4x25), (82, ms_r [(0, [(-1, 40)])]), (83, .inr (.inl (0, 8, [], []))), (85, .inr (.inl (0, 4, [], [])))]
theorem m4k11 : ai_chk [m4c10] m4c11 (fun pc => sm_ch sm_t145 pc, sm_Kn 3 4 none, fun x => sm_lk sm_ca3 x, some .int) [] 4 0 [4] [] 2000 [(4, [(0, .inl 81), (1, .inr (false, [(0, 3)])), (2, .inr (false, [(0, 0)])), (3, .inr (false, [(0, 0)]))], [], m4h29),
  (4, [(0, .inl 81), (1, .inr (false, [(0, 3)])), (2, .inr (false, [(0, 1)])), (3, .inr (false, [(1, 1)]))], [], m4h29),
  (4, [(0, .inl 81), (1, .inr (false, [(0, 3)])), (2, .inr (false, [(0, 2)])), (3, .inr (false, [(2, 2)]))], [], m4h30),
  (4, [(0, .inl 81), (1, .inr (false, [(0, 3)])), (2, .inr (false, [(0, 3)])), (3, .inr (false, [(3, 3)]))], [], m4h31),
  (4, [(0, .inl 81), (1, .inr (false, [(0, 3)])), (2, .inr (false, [(0, 4)])), (3, .inr (false, [(4, 4)]))], [], m4h32),
  (4, [(0, .inl 81), (1, .inr (false, [(0, 3)])), (2, .inr (false, [(0, 5)])), (3, .inr (false, [(5, 5)]))], [], m4h33),
  (4, [(0, .inl 81), (1, .inr (false, [(0, 3)])), (2, .inr (false, [(0, 6)])), (3, .inr (false, [(6, 6)]))], [], m4h34),
  (4, [(0, .inl 81), (1, .inr (false, [(0, 3)])), (2, .inr (false, [(0, 7)])), (3, .inr (false, [(7, 7)]))], [], m4h35),
  (4, [(0, .inl 81), (1, .inr (false, [(0, 3)])), (2, .inr (false, [(0, 8)])), (3, .inr (false, [(8, 8)]))], [], m4h36)] = true := by decide +kernel
/-- MiceRegistersModel.cheeses -/
def m4c12 : ak_C := (147, [.inl 81], m4h28, [], [([], some (.inr (false, ar_t32)), [])])
theorem m4k12 : ai_chk [] m4c12 (fun pc => sm_ch sm_t147 pc, sm_Kn 3 3 none, fun x => sm_lk sm_ca3 x, some .int) [] 3 0 [4] [] 2000 [(4, [(0, .inl 81), (1, .inr (false, [(0, 0)])), (2, .inr (false, [(0, 0)]))], [], m4h28),
  (4, [(0, .inl 81), (1, .inr (false, ar_t32)), (2, .inr (false, [(1, 1)]))], [], m4h28),
  (4, [(0, .inl 81), (1, .inr (false, ar_t32)), (2, .inr (false, [(2, 2)]))], [], m4h28),
  (4, [(0, .inl 81), (1, .inr (false, ar_t32)), (2, .inr (false, [(3, 3)]))], [], m4h28),
  (4, [(0, .inl 81), (1, .inr (false, ar_t32)), (2, .inr (false, [(4, 4)]))], [], m4h28),
  (4, [(0, .inl 81), (1, .inr (false, ar_t32)), (2, .inr (false, [(5, 5)]))], [], m4h28),
  (4, [(0, .inl 81), (1, .inr (false, ar_t32)), (2, .inr (false, [(6, 6)]))], [], m4h28),
  (4, [(0, .inl 81), (1, .inr (false, ar_t32)), (2, .inr (false, [(7, 7)]))], [], m4h28),
  (4, [(0, .inl 81), (1, .inr (false, ar_t32)), (2, .inr (false, [(8, 8)]))], [], m4h28)] = true := by decide +kernel
def m4x37 : aw_A := ms_o [(1, 8)] [(4, 4)] ar_t32 [(1, 5)] [(0, 180)] [(0, 60)] [(-1, 60)] [(0, 8)] [(0, 4)]
def m4h38 : aw_H := [(81, m4x37), (91, .inr (.inl (0, 6, [], [])))]
/-- MiceRegistersModel.find -/
def m4h39 : aw_H := [(81, m4x0), (91, .inr (.inl (0, 6, [], [])))]
def m4c13 : ak_C := (106, [.inl 81, .inr (false, [(1, 5)])], m4h39, [81, 91], [([], some (.inr (false, [(-3, -3)])), m4h38)])
theorem m4k13 : ai_chk [] m4c13 (fun pc => sm_ch sm_t106 pc, sm_Kn 3 2 none, fun x => sm_lk sm_ca3 x, some .int) [81, 91] 2 0 [] [] 2000 [] = true := by decide +kernel
/-- MiceRegistersModel.mark -/
def m4h40 : aw_H := [(81, m4x0), (82, ms_r [(0, [(-1, 40)])]), (83, .inr (.inl (0, 8, [], []))), (85, .inr (.inl (0, 4, [], []))), (86, m4x3), (91, .inr (.inl (0, 6, [], [])))]
def m4c14 : ak_C := (143, [.inl 81, .inr (false, ar_t32), .inr (false, ar_t32)], m4h40, [81, 91], [([[], [], []], some (.inr (false, [(-1, -1)])), m4h39), ([[], [(0, 3)], [(1, 5)]], some (.inr (false, ar_t32)), m4h39), ([[], [(0, 3)], [(1, 5)]], some (.inr (false, [(-3, -3)])), m4h38)])
theorem m4k14 : ai_chk [m4c3, m4c4, m4c5, m4c6, m4c7, m4c11, m4c12, m4c13] m4c14 (fun pc => sm_ch sm_t143 pc, sm_Kn 3 3 none, fun x => sm_lk sm_ca3 x, some .int) [81, 91] 3 3 [] [] 2000 [] = true := by decide +kernel
/-- MiceRegistersModel.in -/
def m4c15 : ak_C := (105, [.inr (true, ar_t32), .inr (true, [(0, 0)]), .inr (true, [(0, 7)])], [], [], [([[(0, 7)], [], []], some (.inr (false, [(1, 1)])), []), ([[(-2147483648, -1), (1, 2147483647)], [], []], some (.inr (false, [(0, 0)])), [])])
theorem m4k15 : ai_chk [] m4c15 (fun pc => sm_ch sm_t105 pc, sm_Kn 3 6 none, fun x => sm_lk sm_ca3 x, some .boolean) [] 6 6 [] [] 2000 [] = true := by decide +kernel
/-- MiceRegistersModel.isLine -/
def m4c16 : ak_C := (131, [.inl 81, .inr (false, ar_t32)], m4h1, [], [([[], [(-2147483648, -1), (1, 2147483647)]], some (.inr (false, [(0, 0)])), []), ([[], [(0, 7)]], some (.inr (false, [(1, 1)])), [])])
theorem m4k16 : ai_chk [m4c15] m4c16 (fun pc => sm_ch sm_t131 pc, sm_Kn 3 2 none, fun x => sm_lk sm_ca3 x, some .boolean) [] 2 2 [] [] 2000 [] = true := by decide +kernel
/-- MiceRegistersModel.in -/
def m4c17 : ak_C := (105, [.inr (true, ar_t32), .inr (true, [(0, 0)]), .inr (true, [(12, 12)])], [], [], [([[(0, 12)], [], []], some (.inr (false, [(1, 1)])), []), ([[(-2147483648, -1), (13, 2147483647)], [], []], some (.inr (false, [(0, 0)])), [])])
theorem m4k17 : ai_chk [] m4c17 (fun pc => sm_ch sm_t105 pc, sm_Kn 3 6 none, fun x => sm_lk sm_ca3 x, some .boolean) [] 6 6 [] [] 2000 [] = true := by decide +kernel
/-- MiceRegistersModel.has -/
def m4c18 : ak_C := (135, [.inr (false, [(0, 0)]), .inr (false, [(0, 0)])], [], [], [([], some (.inr (false, [(0, 0)])), [])])
theorem m4k18 : ai_chk [] m4c18 (fun pc => sm_ch sm_t135 pc, sm_Kn 3 2 none, fun x => sm_lk sm_ca3 x, some .boolean) [] 2 0 [] [] 2000 [] = true := by decide +kernel
/-- MiceRegistersModel.has -/
def m4c19 : ak_C := (135, [.inr (false, [(0, 0)]), .inr (false, [(1, 1)])], [], [], [([], some (.inr (false, [(0, 0)])), [])])
theorem m4k19 : ai_chk [] m4c19 (fun pc => sm_ch sm_t135 pc, sm_Kn 3 2 none, fun x => sm_lk sm_ca3 x, some .boolean) [] 2 0 [] [] 2000 [] = true := by decide +kernel
/-- MiceRegistersModel.has -/
def m4c20 : ak_C := (135, [.inr (false, [(0, 0)]), .inr (false, [(2, 2)])], [], [], [([], some (.inr (false, [(0, 0)])), [])])
theorem m4k20 : ai_chk [] m4c20 (fun pc => sm_ch sm_t135 pc, sm_Kn 3 2 none, fun x => sm_lk sm_ca3 x, some .boolean) [] 2 0 [] [] 2000 [] = true := by decide +kernel
/-- MiceRegistersModel.has -/
def m4c21 : ak_C := (135, [.inr (false, [(0, 0)]), .inr (false, [(3, 3)])], [], [], [([], some (.inr (false, [(0, 0)])), [])])
theorem m4k21 : ai_chk [] m4c21 (fun pc => sm_ch sm_t135 pc, sm_Kn 3 2 none, fun x => sm_lk sm_ca3 x, some .boolean) [] 2 0 [] [] 2000 [] = true := by decide +kernel
/-- MiceRegistersModel.chancesOf -/
def m4c22 : ak_C := (185, [.inl 81, .inr (false, [(0, 0)]), .inr (false, [(0, 11)])], m4h1, [], [([], some (.inr (true, [(1, 20736)])), [])])
theorem m4k22 : ai_chk [m4c18, m4c19, m4c20, m4c21] m4c22 (fun pc => sm_ch sm_t185 pc, sm_Kn 3 6 none, fun x => sm_lk sm_ca3 x, some .long) [] 6 0 [5] [] 2000 [(5, [(0, .inl 81), (1, .inr (false, [(0, 0)])), (2, .inr (false, [(0, 11)])), (3, .inr (true, [(1, 1)])), (5, .inr (false, [(0, 0)]))], [], m4h1),
  (5, [(0, .inl 81), (1, .inr (false, [(0, 0)])), (2, .inr (false, [(0, 11)])), (3, .inr (true, [(1, 12)])), (5, .inr (false, [(1, 1)]))], [], m4h1),
  (5, [(0, .inl 81), (1, .inr (false, [(0, 0)])), (2, .inr (false, [(0, 11)])), (3, .inr (true, [(1, 144)])), (5, .inr (false, [(2, 2)]))], [], m4h1),
  (5, [(0, .inl 81), (1, .inr (false, [(0, 0)])), (2, .inr (false, [(0, 11)])), (3, .inr (true, [(1, 1728)])), (5, .inr (false, [(3, 3)]))], [], m4h1),
  (5, [(0, .inl 81), (1, .inr (false, [(0, 0)])), (2, .inr (false, [(0, 11)])), (3, .inr (true, [(1, 20736)])), (5, .inr (false, [(4, 4)]))], [], m4h1)] = true := by decide +kernel
/-- MiceRegistersModel.wants -/
def m4b27 : sm_P := (fun pc => sm_ch sm_t134 pc, sm_Kn 3 9 none, fun x => sm_lk sm_ca3 x, some .int)
/-- MiceRegistersModel.passes -/
def m4h58 : aw_H := [(81, m4x0), (82, ms_r [(0, [(-1, 40)])]), (83, .inr (.inl (0, 8, [], []))), (85, .inr (.inl (0, 4, [], []))), (86, m4x3)]
/-- MiceRegistersModel.has -/
def m4c29 : ak_C := (135, [.inr (false, [(1, 1)]), .inr (false, [(0, 0)])], [], [], [([], some (.inr (false, [(1, 1)])), [])])
theorem m4k29 : ai_chk [] m4c29 (fun pc => sm_ch sm_t135 pc, sm_Kn 3 2 none, fun x => sm_lk sm_ca3 x, some .boolean) [] 2 0 [] [] 2000 [] = true := by decide +kernel
/-- MiceRegistersModel.has -/
def m4c30 : ak_C := (135, [.inr (false, [(1, 1)]), .inr (false, [(1, 1)])], [], [], [([], some (.inr (false, [(0, 0)])), [])])
theorem m4k30 : ai_chk [] m4c30 (fun pc => sm_ch sm_t135 pc, sm_Kn 3 2 none, fun x => sm_lk sm_ca3 x, some .boolean) [] 2 0 [] [] 2000 [] = true := by decide +kernel
/-- MiceRegistersModel.has -/
def m4c31 : ak_C := (135, [.inr (false, [(1, 1)]), .inr (false, [(2, 2)])], [], [], [([], some (.inr (false, [(0, 0)])), [])])
theorem m4k31 : ai_chk [] m4c31 (fun pc => sm_ch sm_t135 pc, sm_Kn 3 2 none, fun x => sm_lk sm_ca3 x, some .boolean) [] 2 0 [] [] 2000 [] = true := by decide +kernel
/-- MiceRegistersModel.has -/
def m4c32 : ak_C := (135, [.inr (false, [(1, 1)]), .inr (false, [(3, 3)])], [], [], [([], some (.inr (false, [(0, 0)])), [])])
theorem m4k32 : ai_chk [] m4c32 (fun pc => sm_ch sm_t135 pc, sm_Kn 3 2 none, fun x => sm_lk sm_ca3 x, some .boolean) [] 2 0 [] [] 2000 [] = true := by decide +kernel
/-- MiceRegistersModel.chancesOf -/
def m4c33 : ak_C := (185, [.inl 81, .inr (false, [(1, 1)]), .inr (false, [(0, 11)])], m4h1, [], [([], some (.inr (true, [(0, 19008)])), [])])
theorem m4k33 : ai_chk [m4c29, m4c30, m4c31, m4c32] m4c33 (fun pc => sm_ch sm_t185 pc, sm_Kn 3 6 none, fun x => sm_lk sm_ca3 x, some .long) [] 6 0 [5] [] 2000 [(5, [(0, .inl 81), (1, .inr (false, [(1, 1)])), (2, .inr (false, [(0, 11)])), (3, .inr (true, [(1, 1)])), (5, .inr (false, [(0, 0)]))], [], m4h1),
  (5, [(0, .inl 81), (1, .inr (false, [(1, 1)])), (2, .inr (false, [(0, 11)])), (3, .inr (true, [(0, 11)])), (5, .inr (false, [(1, 1)]))], [], m4h1),
  (5, [(0, .inl 81), (1, .inr (false, [(1, 1)])), (2, .inr (false, [(0, 11)])), (3, .inr (true, [(0, 132)])), (5, .inr (false, [(2, 2)]))], [], m4h1),
  (5, [(0, .inl 81), (1, .inr (false, [(1, 1)])), (2, .inr (false, [(0, 11)])), (3, .inr (true, [(0, 1584)])), (5, .inr (false, [(3, 3)]))], [], m4h1),
  (5, [(0, .inl 81), (1, .inr (false, [(1, 1)])), (2, .inr (false, [(0, 11)])), (3, .inr (true, [(0, 19008)])), (5, .inr (false, [(4, 4)]))], [], m4h1)] = true := by decide +kernel
/-- MiceRegistersModel.has -/
def m4c34 : ak_C := (135, [.inr (false, [(2, 2)]), .inr (false, [(0, 0)])], [], [], [([], some (.inr (false, [(0, 0)])), [])])
theorem m4k34 : ai_chk [] m4c34 (fun pc => sm_ch sm_t135 pc, sm_Kn 3 2 none, fun x => sm_lk sm_ca3 x, some .boolean) [] 2 0 [] [] 2000 [] = true := by decide +kernel
/-- MiceRegistersModel.has -/
def m4c35 : ak_C := (135, [.inr (false, [(2, 2)]), .inr (false, [(1, 1)])], [], [], [([], some (.inr (false, [(1, 1)])), [])])
theorem m4k35 : ai_chk [] m4c35 (fun pc => sm_ch sm_t135 pc, sm_Kn 3 2 none, fun x => sm_lk sm_ca3 x, some .boolean) [] 2 0 [] [] 2000 [] = true := by decide +kernel
/-- MiceRegistersModel.has -/
def m4c36 : ak_C := (135, [.inr (false, [(2, 2)]), .inr (false, [(2, 2)])], [], [], [([], some (.inr (false, [(0, 0)])), [])])
theorem m4k36 : ai_chk [] m4c36 (fun pc => sm_ch sm_t135 pc, sm_Kn 3 2 none, fun x => sm_lk sm_ca3 x, some .boolean) [] 2 0 [] [] 2000 [] = true := by decide +kernel
/-- MiceRegistersModel.has -/
def m4c37 : ak_C := (135, [.inr (false, [(2, 2)]), .inr (false, [(3, 3)])], [], [], [([], some (.inr (false, [(0, 0)])), [])])
theorem m4k37 : ai_chk [] m4c37 (fun pc => sm_ch sm_t135 pc, sm_Kn 3 2 none, fun x => sm_lk sm_ca3 x, some .boolean) [] 2 0 [] [] 2000 [] = true := by decide +kernel
/-- MiceRegistersModel.chancesOf -/
def m4c38 : ak_C := (185, [.inl 81, .inr (false, [(2, 2)]), .inr (false, [(0, 11)])], m4h1, [], [([], some (.inr (true, [(0, 19008)])), [])])
theorem m4k38 : ai_chk [m4c34, m4c35, m4c36, m4c37] m4c38 (fun pc => sm_ch sm_t185 pc, sm_Kn 3 6 none, fun x => sm_lk sm_ca3 x, some .long) [] 6 0 [5] [] 2000 [(5, [(0, .inl 81), (1, .inr (false, [(2, 2)])), (2, .inr (false, [(0, 11)])), (3, .inr (true, [(1, 1)])), (5, .inr (false, [(0, 0)]))], [], m4h1),
  (5, [(0, .inl 81), (1, .inr (false, [(2, 2)])), (2, .inr (false, [(0, 11)])), (3, .inr (true, [(1, 12)])), (5, .inr (false, [(1, 1)]))], [], m4h1),
  (5, [(0, .inl 81), (1, .inr (false, [(2, 2)])), (2, .inr (false, [(0, 11)])), (3, .inr (true, [(0, 132)])), (5, .inr (false, [(2, 2)]))], [], m4h1),
  (5, [(0, .inl 81), (1, .inr (false, [(2, 2)])), (2, .inr (false, [(0, 11)])), (3, .inr (true, [(0, 1584)])), (5, .inr (false, [(3, 3)]))], [], m4h1),
  (5, [(0, .inl 81), (1, .inr (false, [(2, 2)])), (2, .inr (false, [(0, 11)])), (3, .inr (true, [(0, 19008)])), (5, .inr (false, [(4, 4)]))], [], m4h1)] = true := by decide +kernel
/-- MiceRegistersModel.has -/
def m4c39 : ak_C := (135, [.inr (false, [(3, 3)]), .inr (false, [(0, 0)])], [], [], [([], some (.inr (false, [(1, 1)])), [])])
theorem m4k39 : ai_chk [] m4c39 (fun pc => sm_ch sm_t135 pc, sm_Kn 3 2 none, fun x => sm_lk sm_ca3 x, some .boolean) [] 2 0 [] [] 2000 [] = true := by decide +kernel
/-- MiceRegistersModel.has -/
def m4c40 : ak_C := (135, [.inr (false, [(3, 3)]), .inr (false, [(1, 1)])], [], [], [([], some (.inr (false, [(1, 1)])), [])])
theorem m4k40 : ai_chk [] m4c40 (fun pc => sm_ch sm_t135 pc, sm_Kn 3 2 none, fun x => sm_lk sm_ca3 x, some .boolean) [] 2 0 [] [] 2000 [] = true := by decide +kernel
/-- MiceRegistersModel.has -/
def m4c41 : ak_C := (135, [.inr (false, [(3, 3)]), .inr (false, [(2, 2)])], [], [], [([], some (.inr (false, [(0, 0)])), [])])
theorem m4k41 : ai_chk [] m4c41 (fun pc => sm_ch sm_t135 pc, sm_Kn 3 2 none, fun x => sm_lk sm_ca3 x, some .boolean) [] 2 0 [] [] 2000 [] = true := by decide +kernel
/-- MiceRegistersModel.has -/
def m4c42 : ak_C := (135, [.inr (false, [(3, 3)]), .inr (false, [(3, 3)])], [], [], [([], some (.inr (false, [(0, 0)])), [])])
theorem m4k42 : ai_chk [] m4c42 (fun pc => sm_ch sm_t135 pc, sm_Kn 3 2 none, fun x => sm_lk sm_ca3 x, some .boolean) [] 2 0 [] [] 2000 [] = true := by decide +kernel
/-- MiceRegistersModel.chancesOf -/
def m4c43 : ak_C := (185, [.inl 81, .inr (false, [(3, 3)]), .inr (false, [(0, 11)])], m4h1, [], [([], some (.inr (true, [(0, 17424)])), [])])
theorem m4k43 : ai_chk [m4c39, m4c40, m4c41, m4c42] m4c43 (fun pc => sm_ch sm_t185 pc, sm_Kn 3 6 none, fun x => sm_lk sm_ca3 x, some .long) [] 6 0 [5] [] 2000 [(5, [(0, .inl 81), (1, .inr (false, [(3, 3)])), (2, .inr (false, [(0, 11)])), (3, .inr (true, [(1, 1)])), (5, .inr (false, [(0, 0)]))], [], m4h1),
  (5, [(0, .inl 81), (1, .inr (false, [(3, 3)])), (2, .inr (false, [(0, 11)])), (3, .inr (true, [(0, 11)])), (5, .inr (false, [(1, 1)]))], [], m4h1),
  (5, [(0, .inl 81), (1, .inr (false, [(3, 3)])), (2, .inr (false, [(0, 11)])), (3, .inr (true, [(0, 121)])), (5, .inr (false, [(2, 2)]))], [], m4h1),
  (5, [(0, .inl 81), (1, .inr (false, [(3, 3)])), (2, .inr (false, [(0, 11)])), (3, .inr (true, [(0, 1452)])), (5, .inr (false, [(3, 3)]))], [], m4h1),
  (5, [(0, .inl 81), (1, .inr (false, [(3, 3)])), (2, .inr (false, [(0, 11)])), (3, .inr (true, [(0, 17424)])), (5, .inr (false, [(4, 4)]))], [], m4h1)] = true := by decide +kernel
/-- MiceRegistersModel.has -/
def m4c44 : ak_C := (135, [.inr (false, [(4, 4)]), .inr (false, [(0, 0)])], [], [], [([], some (.inr (false, [(0, 0)])), [])])
theorem m4k44 : ai_chk [] m4c44 (fun pc => sm_ch sm_t135 pc, sm_Kn 3 2 none, fun x => sm_lk sm_ca3 x, some .boolean) [] 2 0 [] [] 2000 [] = true := by decide +kernel
/-- MiceRegistersModel.has -/
def m4c45 : ak_C := (135, [.inr (false, [(4, 4)]), .inr (false, [(1, 1)])], [], [], [([], some (.inr (false, [(0, 0)])), [])])
theorem m4k45 : ai_chk [] m4c45 (fun pc => sm_ch sm_t135 pc, sm_Kn 3 2 none, fun x => sm_lk sm_ca3 x, some .boolean) [] 2 0 [] [] 2000 [] = true := by decide +kernel
/-- MiceRegistersModel.has -/
def m4c46 : ak_C := (135, [.inr (false, [(4, 4)]), .inr (false, [(2, 2)])], [], [], [([], some (.inr (false, [(1, 1)])), [])])
theorem m4k46 : ai_chk [] m4c46 (fun pc => sm_ch sm_t135 pc, sm_Kn 3 2 none, fun x => sm_lk sm_ca3 x, some .boolean) [] 2 0 [] [] 2000 [] = true := by decide +kernel
/-- MiceRegistersModel.has -/
def m4c47 : ak_C := (135, [.inr (false, [(4, 4)]), .inr (false, [(3, 3)])], [], [], [([], some (.inr (false, [(0, 0)])), [])])
theorem m4k47 : ai_chk [] m4c47 (fun pc => sm_ch sm_t135 pc, sm_Kn 3 2 none, fun x => sm_lk sm_ca3 x, some .boolean) [] 2 0 [] [] 2000 [] = true := by decide +kernel
/-- MiceRegistersModel.chancesOf -/
def m4c48 : ak_C := (185, [.inl 81, .inr (false, [(4, 4)]), .inr (false, [(0, 11)])], m4h1, [], [([], some (.inr (true, [(0, 19008)])), [])])
theorem m4k48 : ai_chk [m4c44, m4c45, m4c46, m4c47] m4c48 (fun pc => sm_ch sm_t185 pc, sm_Kn 3 6 none, fun x => sm_lk sm_ca3 x, some .long) [] 6 0 [5] [] 2000 [(5, [(0, .inl 81), (1, .inr (false, [(4, 4)])), (2, .inr (false, [(0, 11)])), (3, .inr (true, [(1, 1)])), (5, .inr (false, [(0, 0)]))], [], m4h1),
  (5, [(0, .inl 81), (1, .inr (false, [(4, 4)])), (2, .inr (false, [(0, 11)])), (3, .inr (true, [(1, 12)])), (5, .inr (false, [(1, 1)]))], [], m4h1),
  (5, [(0, .inl 81), (1, .inr (false, [(4, 4)])), (2, .inr (false, [(0, 11)])), (3, .inr (true, [(1, 144)])), (5, .inr (false, [(2, 2)]))], [], m4h1),
  (5, [(0, .inl 81), (1, .inr (false, [(4, 4)])), (2, .inr (false, [(0, 11)])), (3, .inr (true, [(0, 1584)])), (5, .inr (false, [(3, 3)]))], [], m4h1),
  (5, [(0, .inl 81), (1, .inr (false, [(4, 4)])), (2, .inr (false, [(0, 11)])), (3, .inr (true, [(0, 19008)])), (5, .inr (false, [(4, 4)]))], [], m4h1)] = true := by decide +kernel
/-- MiceRegistersModel.has -/
def m4c49 : ak_C := (135, [.inr (false, [(5, 5)]), .inr (false, [(0, 0)])], [], [], [([], some (.inr (false, [(1, 1)])), [])])
theorem m4k49 : ai_chk [] m4c49 (fun pc => sm_ch sm_t135 pc, sm_Kn 3 2 none, fun x => sm_lk sm_ca3 x, some .boolean) [] 2 0 [] [] 2000 [] = true := by decide +kernel
/-- MiceRegistersModel.has -/
def m4c50 : ak_C := (135, [.inr (false, [(5, 5)]), .inr (false, [(1, 1)])], [], [], [([], some (.inr (false, [(0, 0)])), [])])
theorem m4k50 : ai_chk [] m4c50 (fun pc => sm_ch sm_t135 pc, sm_Kn 3 2 none, fun x => sm_lk sm_ca3 x, some .boolean) [] 2 0 [] [] 2000 [] = true := by decide +kernel
/-- MiceRegistersModel.has -/
def m4c51 : ak_C := (135, [.inr (false, [(5, 5)]), .inr (false, [(2, 2)])], [], [], [([], some (.inr (false, [(1, 1)])), [])])
theorem m4k51 : ai_chk [] m4c51 (fun pc => sm_ch sm_t135 pc, sm_Kn 3 2 none, fun x => sm_lk sm_ca3 x, some .boolean) [] 2 0 [] [] 2000 [] = true := by decide +kernel
/-- MiceRegistersModel.has -/
def m4c52 : ak_C := (135, [.inr (false, [(5, 5)]), .inr (false, [(3, 3)])], [], [], [([], some (.inr (false, [(0, 0)])), [])])
theorem m4k52 : ai_chk [] m4c52 (fun pc => sm_ch sm_t135 pc, sm_Kn 3 2 none, fun x => sm_lk sm_ca3 x, some .boolean) [] 2 0 [] [] 2000 [] = true := by decide +kernel
/-- MiceRegistersModel.chancesOf -/
def m4c53 : ak_C := (185, [.inl 81, .inr (false, [(5, 5)]), .inr (false, [(0, 11)])], m4h1, [], [([], some (.inr (true, [(0, 17424)])), [])])
theorem m4k53 : ai_chk [m4c49, m4c50, m4c51, m4c52] m4c53 (fun pc => sm_ch sm_t185 pc, sm_Kn 3 6 none, fun x => sm_lk sm_ca3 x, some .long) [] 6 0 [5] [] 2000 [(5, [(0, .inl 81), (1, .inr (false, [(5, 5)])), (2, .inr (false, [(0, 11)])), (3, .inr (true, [(1, 1)])), (5, .inr (false, [(0, 0)]))], [], m4h1),
  (5, [(0, .inl 81), (1, .inr (false, [(5, 5)])), (2, .inr (false, [(0, 11)])), (3, .inr (true, [(0, 11)])), (5, .inr (false, [(1, 1)]))], [], m4h1),
  (5, [(0, .inl 81), (1, .inr (false, [(5, 5)])), (2, .inr (false, [(0, 11)])), (3, .inr (true, [(0, 132)])), (5, .inr (false, [(2, 2)]))], [], m4h1),
  (5, [(0, .inl 81), (1, .inr (false, [(5, 5)])), (2, .inr (false, [(0, 11)])), (3, .inr (true, [(0, 1452)])), (5, .inr (false, [(3, 3)]))], [], m4h1),
  (5, [(0, .inl 81), (1, .inr (false, [(5, 5)])), (2, .inr (false, [(0, 11)])), (3, .inr (true, [(0, 17424)])), (5, .inr (false, [(4, 4)]))], [], m4h1)] = true := by decide +kernel
/-- MiceRegistersModel.has -/
def m4c54 : ak_C := (135, [.inr (false, [(6, 6)]), .inr (false, [(0, 0)])], [], [], [([], some (.inr (false, [(0, 0)])), [])])
theorem m4k54 : ai_chk [] m4c54 (fun pc => sm_ch sm_t135 pc, sm_Kn 3 2 none, fun x => sm_lk sm_ca3 x, some .boolean) [] 2 0 [] [] 2000 [] = true := by decide +kernel
/-- MiceRegistersModel.has -/
def m4c55 : ak_C := (135, [.inr (false, [(6, 6)]), .inr (false, [(1, 1)])], [], [], [([], some (.inr (false, [(1, 1)])), [])])
theorem m4k55 : ai_chk [] m4c55 (fun pc => sm_ch sm_t135 pc, sm_Kn 3 2 none, fun x => sm_lk sm_ca3 x, some .boolean) [] 2 0 [] [] 2000 [] = true := by decide +kernel
/-- MiceRegistersModel.has -/
def m4c56 : ak_C := (135, [.inr (false, [(6, 6)]), .inr (false, [(2, 2)])], [], [], [([], some (.inr (false, [(1, 1)])), [])])
theorem m4k56 : ai_chk [] m4c56 (fun pc => sm_ch sm_t135 pc, sm_Kn 3 2 none, fun x => sm_lk sm_ca3 x, some .boolean) [] 2 0 [] [] 2000 [] = true := by decide +kernel
/-- MiceRegistersModel.has -/
def m4c57 : ak_C := (135, [.inr (false, [(6, 6)]), .inr (false, [(3, 3)])], [], [], [([], some (.inr (false, [(0, 0)])), [])])
theorem m4k57 : ai_chk [] m4c57 (fun pc => sm_ch sm_t135 pc, sm_Kn 3 2 none, fun x => sm_lk sm_ca3 x, some .boolean) [] 2 0 [] [] 2000 [] = true := by decide +kernel
/-- MiceRegistersModel.chancesOf -/
def m4c58 : ak_C := (185, [.inl 81, .inr (false, [(6, 6)]), .inr (false, [(0, 11)])], m4h1, [], [([], some (.inr (true, [(0, 17424)])), [])])
theorem m4k58 : ai_chk [m4c54, m4c55, m4c56, m4c57] m4c58 (fun pc => sm_ch sm_t185 pc, sm_Kn 3 6 none, fun x => sm_lk sm_ca3 x, some .long) [] 6 0 [5] [] 2000 [(5, [(0, .inl 81), (1, .inr (false, [(6, 6)])), (2, .inr (false, [(0, 11)])), (3, .inr (true, [(1, 1)])), (5, .inr (false, [(0, 0)]))], [], m4h1),
  (5, [(0, .inl 81), (1, .inr (false, [(6, 6)])), (2, .inr (false, [(0, 11)])), (3, .inr (true, [(1, 12)])), (5, .inr (false, [(1, 1)]))], [], m4h1),
  (5, [(0, .inl 81), (1, .inr (false, [(6, 6)])), (2, .inr (false, [(0, 11)])), (3, .inr (true, [(0, 132)])), (5, .inr (false, [(2, 2)]))], [], m4h1),
  (5, [(0, .inl 81), (1, .inr (false, [(6, 6)])), (2, .inr (false, [(0, 11)])), (3, .inr (true, [(0, 1452)])), (5, .inr (false, [(3, 3)]))], [], m4h1),
  (5, [(0, .inl 81), (1, .inr (false, [(6, 6)])), (2, .inr (false, [(0, 11)])), (3, .inr (true, [(0, 17424)])), (5, .inr (false, [(4, 4)]))], [], m4h1)] = true := by decide +kernel
/-- MiceRegistersModel.has -/
def m4c59 : ak_C := (135, [.inr (false, [(7, 7)]), .inr (false, [(0, 0)])], [], [], [([], some (.inr (false, [(1, 1)])), [])])
theorem m4k59 : ai_chk [] m4c59 (fun pc => sm_ch sm_t135 pc, sm_Kn 3 2 none, fun x => sm_lk sm_ca3 x, some .boolean) [] 2 0 [] [] 2000 [] = true := by decide +kernel
/-- MiceRegistersModel.has -/
def m4c60 : ak_C := (135, [.inr (false, [(7, 7)]), .inr (false, [(1, 1)])], [], [], [([], some (.inr (false, [(1, 1)])), [])])
theorem m4k60 : ai_chk [] m4c60 (fun pc => sm_ch sm_t135 pc, sm_Kn 3 2 none, fun x => sm_lk sm_ca3 x, some .boolean) [] 2 0 [] [] 2000 [] = true := by decide +kernel
/-- MiceRegistersModel.has -/
def m4c61 : ak_C := (135, [.inr (false, [(7, 7)]), .inr (false, [(2, 2)])], [], [], [([], some (.inr (false, [(1, 1)])), [])])
theorem m4k61 : ai_chk [] m4c61 (fun pc => sm_ch sm_t135 pc, sm_Kn 3 2 none, fun x => sm_lk sm_ca3 x, some .boolean) [] 2 0 [] [] 2000 [] = true := by decide +kernel
/-- MiceRegistersModel.has -/
def m4c62 : ak_C := (135, [.inr (false, [(7, 7)]), .inr (false, [(3, 3)])], [], [], [([], some (.inr (false, [(0, 0)])), [])])
theorem m4k62 : ai_chk [] m4c62 (fun pc => sm_ch sm_t135 pc, sm_Kn 3 2 none, fun x => sm_lk sm_ca3 x, some .boolean) [] 2 0 [] [] 2000 [] = true := by decide +kernel
/-- MiceRegistersModel.chancesOf -/
def m4c63 : ak_C := (185, [.inl 81, .inr (false, [(7, 7)]), .inr (false, [(0, 11)])], m4h1, [], [([], some (.inr (true, [(0, 15972)])), [])])
theorem m4k63 : ai_chk [m4c59, m4c60, m4c61, m4c62] m4c63 (fun pc => sm_ch sm_t185 pc, sm_Kn 3 6 none, fun x => sm_lk sm_ca3 x, some .long) [] 6 0 [5] [] 2000 [(5, [(0, .inl 81), (1, .inr (false, [(7, 7)])), (2, .inr (false, [(0, 11)])), (3, .inr (true, [(1, 1)])), (5, .inr (false, [(0, 0)]))], [], m4h1),
  (5, [(0, .inl 81), (1, .inr (false, [(7, 7)])), (2, .inr (false, [(0, 11)])), (3, .inr (true, [(0, 11)])), (5, .inr (false, [(1, 1)]))], [], m4h1),
  (5, [(0, .inl 81), (1, .inr (false, [(7, 7)])), (2, .inr (false, [(0, 11)])), (3, .inr (true, [(0, 121)])), (5, .inr (false, [(2, 2)]))], [], m4h1),
  (5, [(0, .inl 81), (1, .inr (false, [(7, 7)])), (2, .inr (false, [(0, 11)])), (3, .inr (true, [(0, 1331)])), (5, .inr (false, [(3, 3)]))], [], m4h1),
  (5, [(0, .inl 81), (1, .inr (false, [(7, 7)])), (2, .inr (false, [(0, 11)])), (3, .inr (true, [(0, 15972)])), (5, .inr (false, [(4, 4)]))], [], m4h1)] = true := by decide +kernel
/-- MiceRegistersModel.has -/
def m4c64 : ak_C := (135, [.inr (false, [(8, 8)]), .inr (false, [(0, 0)])], [], [], [([], some (.inr (false, [(0, 0)])), [])])
theorem m4k64 : ai_chk [] m4c64 (fun pc => sm_ch sm_t135 pc, sm_Kn 3 2 none, fun x => sm_lk sm_ca3 x, some .boolean) [] 2 0 [] [] 2000 [] = true := by decide +kernel
/-- MiceRegistersModel.has -/
def m4c65 : ak_C := (135, [.inr (false, [(8, 8)]), .inr (false, [(1, 1)])], [], [], [([], some (.inr (false, [(0, 0)])), [])])
theorem m4k65 : ai_chk [] m4c65 (fun pc => sm_ch sm_t135 pc, sm_Kn 3 2 none, fun x => sm_lk sm_ca3 x, some .boolean) [] 2 0 [] [] 2000 [] = true := by decide +kernel
/-- MiceRegistersModel.has -/
def m4c66 : ak_C := (135, [.inr (false, [(8, 8)]), .inr (false, [(2, 2)])], [], [], [([], some (.inr (false, [(0, 0)])), [])])
theorem m4k66 : ai_chk [] m4c66 (fun pc => sm_ch sm_t135 pc, sm_Kn 3 2 none, fun x => sm_lk sm_ca3 x, some .boolean) [] 2 0 [] [] 2000 [] = true := by decide +kernel
/-- MiceRegistersModel.has -/
def m4c67 : ak_C := (135, [.inr (false, [(8, 8)]), .inr (false, [(3, 3)])], [], [], [([], some (.inr (false, [(1, 1)])), [])])
theorem m4k67 : ai_chk [] m4c67 (fun pc => sm_ch sm_t135 pc, sm_Kn 3 2 none, fun x => sm_lk sm_ca3 x, some .boolean) [] 2 0 [] [] 2000 [] = true := by decide +kernel
/-- MiceRegistersModel.chancesOf -/
def m4c68 : ak_C := (185, [.inl 81, .inr (false, [(8, 8)]), .inr (false, [(0, 11)])], m4h1, [], [([], some (.inr (true, [(0, 19008)])), [])])
theorem m4k68 : ai_chk [m4c64, m4c65, m4c66, m4c67] m4c68 (fun pc => sm_ch sm_t185 pc, sm_Kn 3 6 none, fun x => sm_lk sm_ca3 x, some .long) [] 6 0 [5] [] 2000 [(5, [(0, .inl 81), (1, .inr (false, [(8, 8)])), (2, .inr (false, [(0, 11)])), (3, .inr (true, [(1, 1)])), (5, .inr (false, [(0, 0)]))], [], m4h1),
  (5, [(0, .inl 81), (1, .inr (false, [(8, 8)])), (2, .inr (false, [(0, 11)])), (3, .inr (true, [(1, 12)])), (5, .inr (false, [(1, 1)]))], [], m4h1),
  (5, [(0, .inl 81), (1, .inr (false, [(8, 8)])), (2, .inr (false, [(0, 11)])), (3, .inr (true, [(1, 144)])), (5, .inr (false, [(2, 2)]))], [], m4h1),
  (5, [(0, .inl 81), (1, .inr (false, [(8, 8)])), (2, .inr (false, [(0, 11)])), (3, .inr (true, [(1, 1728)])), (5, .inr (false, [(3, 3)]))], [], m4h1),
  (5, [(0, .inl 81), (1, .inr (false, [(8, 8)])), (2, .inr (false, [(0, 11)])), (3, .inr (true, [(0, 19008)])), (5, .inr (false, [(4, 4)]))], [], m4h1)] = true := by decide +kernel
/-- MiceRegistersModel.has -/
def m4c69 : ak_C := (135, [.inr (false, [(9, 9)]), .inr (false, [(0, 0)])], [], [], [([], some (.inr (false, [(1, 1)])), [])])
theorem m4k69 : ai_chk [] m4c69 (fun pc => sm_ch sm_t135 pc, sm_Kn 3 2 none, fun x => sm_lk sm_ca3 x, some .boolean) [] 2 0 [] [] 2000 [] = true := by decide +kernel
/-- MiceRegistersModel.has -/
def m4c70 : ak_C := (135, [.inr (false, [(9, 9)]), .inr (false, [(1, 1)])], [], [], [([], some (.inr (false, [(0, 0)])), [])])
theorem m4k70 : ai_chk [] m4c70 (fun pc => sm_ch sm_t135 pc, sm_Kn 3 2 none, fun x => sm_lk sm_ca3 x, some .boolean) [] 2 0 [] [] 2000 [] = true := by decide +kernel
/-- MiceRegistersModel.has -/
def m4c71 : ak_C := (135, [.inr (false, [(9, 9)]), .inr (false, [(2, 2)])], [], [], [([], some (.inr (false, [(0, 0)])), [])])
theorem m4k71 : ai_chk [] m4c71 (fun pc => sm_ch sm_t135 pc, sm_Kn 3 2 none, fun x => sm_lk sm_ca3 x, some .boolean) [] 2 0 [] [] 2000 [] = true := by decide +kernel
/-- MiceRegistersModel.has -/
def m4c72 : ak_C := (135, [.inr (false, [(9, 9)]), .inr (false, [(3, 3)])], [], [], [([], some (.inr (false, [(1, 1)])), [])])
theorem m4k72 : ai_chk [] m4c72 (fun pc => sm_ch sm_t135 pc, sm_Kn 3 2 none, fun x => sm_lk sm_ca3 x, some .boolean) [] 2 0 [] [] 2000 [] = true := by decide +kernel
/-- MiceRegistersModel.chancesOf -/
def m4c73 : ak_C := (185, [.inl 81, .inr (false, [(9, 9)]), .inr (false, [(0, 11)])], m4h1, [], [([], some (.inr (true, [(0, 17424)])), [])])
theorem m4k73 : ai_chk [m4c69, m4c70, m4c71, m4c72] m4c73 (fun pc => sm_ch sm_t185 pc, sm_Kn 3 6 none, fun x => sm_lk sm_ca3 x, some .long) [] 6 0 [5] [] 2000 [(5, [(0, .inl 81), (1, .inr (false, [(9, 9)])), (2, .inr (false, [(0, 11)])), (3, .inr (true, [(1, 1)])), (5, .inr (false, [(0, 0)]))], [], m4h1),
  (5, [(0, .inl 81), (1, .inr (false, [(9, 9)])), (2, .inr (false, [(0, 11)])), (3, .inr (true, [(0, 11)])), (5, .inr (false, [(1, 1)]))], [], m4h1),
  (5, [(0, .inl 81), (1, .inr (false, [(9, 9)])), (2, .inr (false, [(0, 11)])), (3, .inr (true, [(0, 132)])), (5, .inr (false, [(2, 2)]))], [], m4h1),
  (5, [(0, .inl 81), (1, .inr (false, [(9, 9)])), (2, .inr (false, [(0, 11)])), (3, .inr (true, [(0, 1584)])), (5, .inr (false, [(3, 3)]))], [], m4h1),
  (5, [(0, .inl 81), (1, .inr (false, [(9, 9)])), (2, .inr (false, [(0, 11)])), (3, .inr (true, [(0, 17424)])), (5, .inr (false, [(4, 4)]))], [], m4h1)] = true := by decide +kernel
/-- MiceRegistersModel.has -/
def m4c74 : ak_C := (135, [.inr (false, [(10, 10)]), .inr (false, [(0, 0)])], [], [], [([], some (.inr (false, [(0, 0)])), [])])
theorem m4k74 : ai_chk [] m4c74 (fun pc => sm_ch sm_t135 pc, sm_Kn 3 2 none, fun x => sm_lk sm_ca3 x, some .boolean) [] 2 0 [] [] 2000 [] = true := by decide +kernel
/-- MiceRegistersModel.has -/
def m4c75 : ak_C := (135, [.inr (false, [(10, 10)]), .inr (false, [(1, 1)])], [], [], [([], some (.inr (false, [(1, 1)])), [])])
theorem m4k75 : ai_chk [] m4c75 (fun pc => sm_ch sm_t135 pc, sm_Kn 3 2 none, fun x => sm_lk sm_ca3 x, some .boolean) [] 2 0 [] [] 2000 [] = true := by decide +kernel
/-- MiceRegistersModel.has -/
def m4c76 : ak_C := (135, [.inr (false, [(10, 10)]), .inr (false, [(2, 2)])], [], [], [([], some (.inr (false, [(0, 0)])), [])])
theorem m4k76 : ai_chk [] m4c76 (fun pc => sm_ch sm_t135 pc, sm_Kn 3 2 none, fun x => sm_lk sm_ca3 x, some .boolean) [] 2 0 [] [] 2000 [] = true := by decide +kernel
/-- MiceRegistersModel.has -/
def m4c77 : ak_C := (135, [.inr (false, [(10, 10)]), .inr (false, [(3, 3)])], [], [], [([], some (.inr (false, [(1, 1)])), [])])
theorem m4k77 : ai_chk [] m4c77 (fun pc => sm_ch sm_t135 pc, sm_Kn 3 2 none, fun x => sm_lk sm_ca3 x, some .boolean) [] 2 0 [] [] 2000 [] = true := by decide +kernel
/-- MiceRegistersModel.chancesOf -/
def m4c78 : ak_C := (185, [.inl 81, .inr (false, [(10, 10)]), .inr (false, [(0, 11)])], m4h1, [], [([], some (.inr (true, [(0, 17424)])), [])])
theorem m4k78 : ai_chk [m4c74, m4c75, m4c76, m4c77] m4c78 (fun pc => sm_ch sm_t185 pc, sm_Kn 3 6 none, fun x => sm_lk sm_ca3 x, some .long) [] 6 0 [5] [] 2000 [(5, [(0, .inl 81), (1, .inr (false, [(10, 10)])), (2, .inr (false, [(0, 11)])), (3, .inr (true, [(1, 1)])), (5, .inr (false, [(0, 0)]))], [], m4h1),
  (5, [(0, .inl 81), (1, .inr (false, [(10, 10)])), (2, .inr (false, [(0, 11)])), (3, .inr (true, [(1, 12)])), (5, .inr (false, [(1, 1)]))], [], m4h1),
  (5, [(0, .inl 81), (1, .inr (false, [(10, 10)])), (2, .inr (false, [(0, 11)])), (3, .inr (true, [(0, 132)])), (5, .inr (false, [(2, 2)]))], [], m4h1),
  (5, [(0, .inl 81), (1, .inr (false, [(10, 10)])), (2, .inr (false, [(0, 11)])), (3, .inr (true, [(0, 1584)])), (5, .inr (false, [(3, 3)]))], [], m4h1),
  (5, [(0, .inl 81), (1, .inr (false, [(10, 10)])), (2, .inr (false, [(0, 11)])), (3, .inr (true, [(0, 17424)])), (5, .inr (false, [(4, 4)]))], [], m4h1)] = true := by decide +kernel
/-- MiceRegistersModel.has -/
def m4c79 : ak_C := (135, [.inr (false, [(11, 11)]), .inr (false, [(0, 0)])], [], [], [([], some (.inr (false, [(1, 1)])), [])])
theorem m4k79 : ai_chk [] m4c79 (fun pc => sm_ch sm_t135 pc, sm_Kn 3 2 none, fun x => sm_lk sm_ca3 x, some .boolean) [] 2 0 [] [] 2000 [] = true := by decide +kernel
/-- MiceRegistersModel.has -/
def m4c80 : ak_C := (135, [.inr (false, [(11, 11)]), .inr (false, [(1, 1)])], [], [], [([], some (.inr (false, [(1, 1)])), [])])
theorem m4k80 : ai_chk [] m4c80 (fun pc => sm_ch sm_t135 pc, sm_Kn 3 2 none, fun x => sm_lk sm_ca3 x, some .boolean) [] 2 0 [] [] 2000 [] = true := by decide +kernel
/-- MiceRegistersModel.has -/
def m4c81 : ak_C := (135, [.inr (false, [(11, 11)]), .inr (false, [(2, 2)])], [], [], [([], some (.inr (false, [(0, 0)])), [])])
theorem m4k81 : ai_chk [] m4c81 (fun pc => sm_ch sm_t135 pc, sm_Kn 3 2 none, fun x => sm_lk sm_ca3 x, some .boolean) [] 2 0 [] [] 2000 [] = true := by decide +kernel
/-- MiceRegistersModel.has -/
def m4c82 : ak_C := (135, [.inr (false, [(11, 11)]), .inr (false, [(3, 3)])], [], [], [([], some (.inr (false, [(1, 1)])), [])])
theorem m4k82 : ai_chk [] m4c82 (fun pc => sm_ch sm_t135 pc, sm_Kn 3 2 none, fun x => sm_lk sm_ca3 x, some .boolean) [] 2 0 [] [] 2000 [] = true := by decide +kernel
/-- MiceRegistersModel.chancesOf -/
def m4c83 : ak_C := (185, [.inl 81, .inr (false, [(11, 11)]), .inr (false, [(0, 11)])], m4h1, [], [([], some (.inr (true, [(0, 15972)])), [])])
theorem m4k83 : ai_chk [m4c79, m4c80, m4c81, m4c82] m4c83 (fun pc => sm_ch sm_t185 pc, sm_Kn 3 6 none, fun x => sm_lk sm_ca3 x, some .long) [] 6 0 [5] [] 2000 [(5, [(0, .inl 81), (1, .inr (false, [(11, 11)])), (2, .inr (false, [(0, 11)])), (3, .inr (true, [(1, 1)])), (5, .inr (false, [(0, 0)]))], [], m4h1),
  (5, [(0, .inl 81), (1, .inr (false, [(11, 11)])), (2, .inr (false, [(0, 11)])), (3, .inr (true, [(0, 11)])), (5, .inr (false, [(1, 1)]))], [], m4h1),
  (5, [(0, .inl 81), (1, .inr (false, [(11, 11)])), (2, .inr (false, [(0, 11)])), (3, .inr (true, [(0, 121)])), (5, .inr (false, [(2, 2)]))], [], m4h1),
  (5, [(0, .inl 81), (1, .inr (false, [(11, 11)])), (2, .inr (false, [(0, 11)])), (3, .inr (true, [(0, 1452)])), (5, .inr (false, [(3, 3)]))], [], m4h1),
  (5, [(0, .inl 81), (1, .inr (false, [(11, 11)])), (2, .inr (false, [(0, 11)])), (3, .inr (true, [(0, 15972)])), (5, .inr (false, [(4, 4)]))], [], m4h1)] = true := by decide +kernel
/-- MiceRegistersModel.has -/
def m4c84 : ak_C := (135, [.inr (false, [(12, 12)]), .inr (false, [(0, 0)])], [], [], [([], some (.inr (false, [(0, 0)])), [])])
theorem m4k84 : ai_chk [] m4c84 (fun pc => sm_ch sm_t135 pc, sm_Kn 3 2 none, fun x => sm_lk sm_ca3 x, some .boolean) [] 2 0 [] [] 2000 [] = true := by decide +kernel
/-- MiceRegistersModel.has -/
def m4c85 : ak_C := (135, [.inr (false, [(12, 12)]), .inr (false, [(1, 1)])], [], [], [([], some (.inr (false, [(0, 0)])), [])])
theorem m4k85 : ai_chk [] m4c85 (fun pc => sm_ch sm_t135 pc, sm_Kn 3 2 none, fun x => sm_lk sm_ca3 x, some .boolean) [] 2 0 [] [] 2000 [] = true := by decide +kernel
/-- MiceRegistersModel.has -/
def m4c86 : ak_C := (135, [.inr (false, [(12, 12)]), .inr (false, [(2, 2)])], [], [], [([], some (.inr (false, [(1, 1)])), [])])
theorem m4k86 : ai_chk [] m4c86 (fun pc => sm_ch sm_t135 pc, sm_Kn 3 2 none, fun x => sm_lk sm_ca3 x, some .boolean) [] 2 0 [] [] 2000 [] = true := by decide +kernel
/-- MiceRegistersModel.has -/
def m4c87 : ak_C := (135, [.inr (false, [(12, 12)]), .inr (false, [(3, 3)])], [], [], [([], some (.inr (false, [(1, 1)])), [])])
theorem m4k87 : ai_chk [] m4c87 (fun pc => sm_ch sm_t135 pc, sm_Kn 3 2 none, fun x => sm_lk sm_ca3 x, some .boolean) [] 2 0 [] [] 2000 [] = true := by decide +kernel
/-- MiceRegistersModel.chancesOf -/
def m4c88 : ak_C := (185, [.inl 81, .inr (false, [(12, 12)]), .inr (false, [(0, 11)])], m4h1, [], [([], some (.inr (true, [(0, 17424)])), [])])
theorem m4k88 : ai_chk [m4c84, m4c85, m4c86, m4c87] m4c88 (fun pc => sm_ch sm_t185 pc, sm_Kn 3 6 none, fun x => sm_lk sm_ca3 x, some .long) [] 6 0 [5] [] 2000 [(5, [(0, .inl 81), (1, .inr (false, [(12, 12)])), (2, .inr (false, [(0, 11)])), (3, .inr (true, [(1, 1)])), (5, .inr (false, [(0, 0)]))], [], m4h1),
  (5, [(0, .inl 81), (1, .inr (false, [(12, 12)])), (2, .inr (false, [(0, 11)])), (3, .inr (true, [(1, 12)])), (5, .inr (false, [(1, 1)]))], [], m4h1),
  (5, [(0, .inl 81), (1, .inr (false, [(12, 12)])), (2, .inr (false, [(0, 11)])), (3, .inr (true, [(1, 144)])), (5, .inr (false, [(2, 2)]))], [], m4h1),
  (5, [(0, .inl 81), (1, .inr (false, [(12, 12)])), (2, .inr (false, [(0, 11)])), (3, .inr (true, [(0, 1584)])), (5, .inr (false, [(3, 3)]))], [], m4h1),
  (5, [(0, .inl 81), (1, .inr (false, [(12, 12)])), (2, .inr (false, [(0, 11)])), (3, .inr (true, [(0, 17424)])), (5, .inr (false, [(4, 4)]))], [], m4h1)] = true := by decide +kernel
/-- MiceRegistersModel.has -/
def m4c89 : ak_C := (135, [.inr (false, [(13, 13)]), .inr (false, [(0, 0)])], [], [], [([], some (.inr (false, [(1, 1)])), [])])
theorem m4k89 : ai_chk [] m4c89 (fun pc => sm_ch sm_t135 pc, sm_Kn 3 2 none, fun x => sm_lk sm_ca3 x, some .boolean) [] 2 0 [] [] 2000 [] = true := by decide +kernel
/-- MiceRegistersModel.has -/
def m4c90 : ak_C := (135, [.inr (false, [(13, 13)]), .inr (false, [(1, 1)])], [], [], [([], some (.inr (false, [(0, 0)])), [])])
theorem m4k90 : ai_chk [] m4c90 (fun pc => sm_ch sm_t135 pc, sm_Kn 3 2 none, fun x => sm_lk sm_ca3 x, some .boolean) [] 2 0 [] [] 2000 [] = true := by decide +kernel
/-- MiceRegistersModel.has -/
def m4c91 : ak_C := (135, [.inr (false, [(13, 13)]), .inr (false, [(2, 2)])], [], [], [([], some (.inr (false, [(1, 1)])), [])])
theorem m4k91 : ai_chk [] m4c91 (fun pc => sm_ch sm_t135 pc, sm_Kn 3 2 none, fun x => sm_lk sm_ca3 x, some .boolean) [] 2 0 [] [] 2000 [] = true := by decide +kernel
/-- MiceRegistersModel.has -/
def m4c92 : ak_C := (135, [.inr (false, [(13, 13)]), .inr (false, [(3, 3)])], [], [], [([], some (.inr (false, [(1, 1)])), [])])
theorem m4k92 : ai_chk [] m4c92 (fun pc => sm_ch sm_t135 pc, sm_Kn 3 2 none, fun x => sm_lk sm_ca3 x, some .boolean) [] 2 0 [] [] 2000 [] = true := by decide +kernel
/-- MiceRegistersModel.chancesOf -/
def m4c93 : ak_C := (185, [.inl 81, .inr (false, [(13, 13)]), .inr (false, [(0, 11)])], m4h1, [], [([], some (.inr (true, [(0, 15972)])), [])])
theorem m4k93 : ai_chk [m4c89, m4c90, m4c91, m4c92] m4c93 (fun pc => sm_ch sm_t185 pc, sm_Kn 3 6 none, fun x => sm_lk sm_ca3 x, some .long) [] 6 0 [5] [] 2000 [(5, [(0, .inl 81), (1, .inr (false, [(13, 13)])), (2, .inr (false, [(0, 11)])), (3, .inr (true, [(1, 1)])), (5, .inr (false, [(0, 0)]))], [], m4h1),
  (5, [(0, .inl 81), (1, .inr (false, [(13, 13)])), (2, .inr (false, [(0, 11)])), (3, .inr (true, [(0, 11)])), (5, .inr (false, [(1, 1)]))], [], m4h1),
  (5, [(0, .inl 81), (1, .inr (false, [(13, 13)])), (2, .inr (false, [(0, 11)])), (3, .inr (true, [(0, 132)])), (5, .inr (false, [(2, 2)]))], [], m4h1),
  (5, [(0, .inl 81), (1, .inr (false, [(13, 13)])), (2, .inr (false, [(0, 11)])), (3, .inr (true, [(0, 1452)])), (5, .inr (false, [(3, 3)]))], [], m4h1),
  (5, [(0, .inl 81), (1, .inr (false, [(13, 13)])), (2, .inr (false, [(0, 11)])), (3, .inr (true, [(0, 15972)])), (5, .inr (false, [(4, 4)]))], [], m4h1)] = true := by decide +kernel
/-- MiceRegistersModel.has -/
def m4c94 : ak_C := (135, [.inr (false, [(14, 14)]), .inr (false, [(0, 0)])], [], [], [([], some (.inr (false, [(0, 0)])), [])])
theorem m4k94 : ai_chk [] m4c94 (fun pc => sm_ch sm_t135 pc, sm_Kn 3 2 none, fun x => sm_lk sm_ca3 x, some .boolean) [] 2 0 [] [] 2000 [] = true := by decide +kernel
/-- MiceRegistersModel.has -/
def m4c95 : ak_C := (135, [.inr (false, [(14, 14)]), .inr (false, [(1, 1)])], [], [], [([], some (.inr (false, [(1, 1)])), [])])
theorem m4k95 : ai_chk [] m4c95 (fun pc => sm_ch sm_t135 pc, sm_Kn 3 2 none, fun x => sm_lk sm_ca3 x, some .boolean) [] 2 0 [] [] 2000 [] = true := by decide +kernel
/-- MiceRegistersModel.has -/
def m4c96 : ak_C := (135, [.inr (false, [(14, 14)]), .inr (false, [(2, 2)])], [], [], [([], some (.inr (false, [(1, 1)])), [])])
theorem m4k96 : ai_chk [] m4c96 (fun pc => sm_ch sm_t135 pc, sm_Kn 3 2 none, fun x => sm_lk sm_ca3 x, some .boolean) [] 2 0 [] [] 2000 [] = true := by decide +kernel
/-- MiceRegistersModel.has -/
def m4c97 : ak_C := (135, [.inr (false, [(14, 14)]), .inr (false, [(3, 3)])], [], [], [([], some (.inr (false, [(1, 1)])), [])])
theorem m4k97 : ai_chk [] m4c97 (fun pc => sm_ch sm_t135 pc, sm_Kn 3 2 none, fun x => sm_lk sm_ca3 x, some .boolean) [] 2 0 [] [] 2000 [] = true := by decide +kernel
/-- MiceRegistersModel.chancesOf -/
def m4c98 : ak_C := (185, [.inl 81, .inr (false, [(14, 14)]), .inr (false, [(0, 11)])], m4h1, [], [([], some (.inr (true, [(0, 15972)])), [])])
theorem m4k98 : ai_chk [m4c94, m4c95, m4c96, m4c97] m4c98 (fun pc => sm_ch sm_t185 pc, sm_Kn 3 6 none, fun x => sm_lk sm_ca3 x, some .long) [] 6 0 [5] [] 2000 [(5, [(0, .inl 81), (1, .inr (false, [(14, 14)])), (2, .inr (false, [(0, 11)])), (3, .inr (true, [(1, 1)])), (5, .inr (false, [(0, 0)]))], [], m4h1),
  (5, [(0, .inl 81), (1, .inr (false, [(14, 14)])), (2, .inr (false, [(0, 11)])), (3, .inr (true, [(1, 12)])), (5, .inr (false, [(1, 1)]))], [], m4h1),
  (5, [(0, .inl 81), (1, .inr (false, [(14, 14)])), (2, .inr (false, [(0, 11)])), (3, .inr (true, [(0, 132)])), (5, .inr (false, [(2, 2)]))], [], m4h1),
  (5, [(0, .inl 81), (1, .inr (false, [(14, 14)])), (2, .inr (false, [(0, 11)])), (3, .inr (true, [(0, 1452)])), (5, .inr (false, [(3, 3)]))], [], m4h1),
  (5, [(0, .inl 81), (1, .inr (false, [(14, 14)])), (2, .inr (false, [(0, 11)])), (3, .inr (true, [(0, 15972)])), (5, .inr (false, [(4, 4)]))], [], m4h1)] = true := by decide +kernel
/-- MiceRegistersModel.has -/
def m4c99 : ak_C := (135, [.inr (false, [(15, 15)]), .inr (false, [(0, 0)])], [], [], [([], some (.inr (false, [(1, 1)])), [])])
theorem m4k99 : ai_chk [] m4c99 (fun pc => sm_ch sm_t135 pc, sm_Kn 3 2 none, fun x => sm_lk sm_ca3 x, some .boolean) [] 2 0 [] [] 2000 [] = true := by decide +kernel
/-- MiceRegistersModel.has -/
def m4c100 : ak_C := (135, [.inr (false, [(15, 15)]), .inr (false, [(1, 1)])], [], [], [([], some (.inr (false, [(1, 1)])), [])])
theorem m4k100 : ai_chk [] m4c100 (fun pc => sm_ch sm_t135 pc, sm_Kn 3 2 none, fun x => sm_lk sm_ca3 x, some .boolean) [] 2 0 [] [] 2000 [] = true := by decide +kernel
/-- MiceRegistersModel.has -/
def m4c101 : ak_C := (135, [.inr (false, [(15, 15)]), .inr (false, [(2, 2)])], [], [], [([], some (.inr (false, [(1, 1)])), [])])
theorem m4k101 : ai_chk [] m4c101 (fun pc => sm_ch sm_t135 pc, sm_Kn 3 2 none, fun x => sm_lk sm_ca3 x, some .boolean) [] 2 0 [] [] 2000 [] = true := by decide +kernel
/-- MiceRegistersModel.has -/
def m4c102 : ak_C := (135, [.inr (false, [(15, 15)]), .inr (false, [(3, 3)])], [], [], [([], some (.inr (false, [(1, 1)])), [])])
theorem m4k102 : ai_chk [] m4c102 (fun pc => sm_ch sm_t135 pc, sm_Kn 3 2 none, fun x => sm_lk sm_ca3 x, some .boolean) [] 2 0 [] [] 2000 [] = true := by decide +kernel
/-- MiceRegistersModel.chancesOf -/
def m4c103 : ak_C := (185, [.inl 81, .inr (false, [(15, 15)]), .inr (false, [(0, 11)])], m4h1, [], [([], some (.inr (true, [(0, 14641)])), [])])
theorem m4k103 : ai_chk [m4c99, m4c100, m4c101, m4c102] m4c103 (fun pc => sm_ch sm_t185 pc, sm_Kn 3 6 none, fun x => sm_lk sm_ca3 x, some .long) [] 6 0 [5] [] 2000 [(5, [(0, .inl 81), (1, .inr (false, [(15, 15)])), (2, .inr (false, [(0, 11)])), (3, .inr (true, [(1, 1)])), (5, .inr (false, [(0, 0)]))], [], m4h1),
  (5, [(0, .inl 81), (1, .inr (false, [(15, 15)])), (2, .inr (false, [(0, 11)])), (3, .inr (true, [(0, 11)])), (5, .inr (false, [(1, 1)]))], [], m4h1),
  (5, [(0, .inl 81), (1, .inr (false, [(15, 15)])), (2, .inr (false, [(0, 11)])), (3, .inr (true, [(0, 121)])), (5, .inr (false, [(2, 2)]))], [], m4h1),
  (5, [(0, .inl 81), (1, .inr (false, [(15, 15)])), (2, .inr (false, [(0, 11)])), (3, .inr (true, [(0, 1331)])), (5, .inr (false, [(3, 3)]))], [], m4h1),
  (5, [(0, .inl 81), (1, .inr (false, [(15, 15)])), (2, .inr (false, [(0, 11)])), (3, .inr (true, [(0, 14641)])), (5, .inr (false, [(4, 4)]))], [], m4h1)] = true := by decide +kernel
/-- MiceRegistersModel.tellParts -/
def m4c104 : ak_C := (186, [.inl 81, .inr (true, [(-72057594037927936, 72057594037927936)]), .inr (true, [(1, 1099511627776)])], m4h1, [81], [([], none, m4h1)])
/-- MiceRegistersModel.chancesOf -/
def m4c105 : ak_C := (185, [.inl 81, .inr (false, [(0, 0)]), .inr (false, [(12, 12)])], m4h1, [], [([], some (.inr (true, [(0, 0)])), [])])
theorem m4k105 : ai_chk [m4c18, m4c19, m4c20, m4c21] m4c105 (fun pc => sm_ch sm_t185 pc, sm_Kn 3 6 none, fun x => sm_lk sm_ca3 x, some .long) [] 6 0 [5] [] 2000 [(5, [(0, .inl 81), (1, .inr (false, [(0, 0)])), (2, .inr (false, [(12, 12)])), (3, .inr (true, [(1, 1)])), (5, .inr (false, [(0, 0)]))], [], m4h1),
  (5, [(0, .inl 81), (1, .inr (false, [(0, 0)])), (2, .inr (false, [(12, 12)])), (3, .inr (true, [(0, 0)])), (5, .inr (false, [(1, 1)]))], [], m4h1),
  (5, [(0, .inl 81), (1, .inr (false, [(0, 0)])), (2, .inr (false, [(12, 12)])), (3, .inr (true, [(0, 0)])), (5, .inr (false, [(2, 2)]))], [], m4h1),
  (5, [(0, .inl 81), (1, .inr (false, [(0, 0)])), (2, .inr (false, [(12, 12)])), (3, .inr (true, [(0, 0)])), (5, .inr (false, [(3, 3)]))], [], m4h1),
  (5, [(0, .inl 81), (1, .inr (false, [(0, 0)])), (2, .inr (false, [(12, 12)])), (3, .inr (true, [(0, 0)])), (5, .inr (false, [(4, 4)]))], [], m4h1)] = true := by decide +kernel
/-- MiceRegistersModel.chancesOf -/
def m4c106 : ak_C := (185, [.inl 81, .inr (false, [(1, 1)]), .inr (false, [(12, 12)])], m4h1, [], [([], some (.inr (true, [(0, 0)])), [])])
theorem m4k106 : ai_chk [m4c29, m4c30, m4c31, m4c32] m4c106 (fun pc => sm_ch sm_t185 pc, sm_Kn 3 6 none, fun x => sm_lk sm_ca3 x, some .long) [] 6 0 [5] [] 2000 [(5, [(0, .inl 81), (1, .inr (false, [(1, 1)])), (2, .inr (false, [(12, 12)])), (3, .inr (true, [(1, 1)])), (5, .inr (false, [(0, 0)]))], [], m4h1),
  (5, [(0, .inl 81), (1, .inr (false, [(1, 1)])), (2, .inr (false, [(12, 12)])), (3, .inr (true, [(12, 12)])), (5, .inr (false, [(1, 1)]))], [], m4h1),
  (5, [(0, .inl 81), (1, .inr (false, [(1, 1)])), (2, .inr (false, [(12, 12)])), (3, .inr (true, [(0, 0)])), (5, .inr (false, [(2, 2)]))], [], m4h1),
  (5, [(0, .inl 81), (1, .inr (false, [(1, 1)])), (2, .inr (false, [(12, 12)])), (3, .inr (true, [(0, 0)])), (5, .inr (false, [(3, 3)]))], [], m4h1),
  (5, [(0, .inl 81), (1, .inr (false, [(1, 1)])), (2, .inr (false, [(12, 12)])), (3, .inr (true, [(0, 0)])), (5, .inr (false, [(4, 4)]))], [], m4h1)] = true := by decide +kernel
/-- MiceRegistersModel.chancesOf -/
def m4c107 : ak_C := (185, [.inl 81, .inr (false, [(2, 2)]), .inr (false, [(12, 12)])], m4h1, [], [([], some (.inr (true, [(0, 0)])), [])])
theorem m4k107 : ai_chk [m4c34, m4c35, m4c36, m4c37] m4c107 (fun pc => sm_ch sm_t185 pc, sm_Kn 3 6 none, fun x => sm_lk sm_ca3 x, some .long) [] 6 0 [5] [] 2000 [(5, [(0, .inl 81), (1, .inr (false, [(2, 2)])), (2, .inr (false, [(12, 12)])), (3, .inr (true, [(1, 1)])), (5, .inr (false, [(0, 0)]))], [], m4h1),
  (5, [(0, .inl 81), (1, .inr (false, [(2, 2)])), (2, .inr (false, [(12, 12)])), (3, .inr (true, [(0, 0)])), (5, .inr (false, [(1, 1)]))], [], m4h1),
  (5, [(0, .inl 81), (1, .inr (false, [(2, 2)])), (2, .inr (false, [(12, 12)])), (3, .inr (true, [(0, 0)])), (5, .inr (false, [(2, 2)]))], [], m4h1),
  (5, [(0, .inl 81), (1, .inr (false, [(2, 2)])), (2, .inr (false, [(12, 12)])), (3, .inr (true, [(0, 0)])), (5, .inr (false, [(3, 3)]))], [], m4h1),
  (5, [(0, .inl 81), (1, .inr (false, [(2, 2)])), (2, .inr (false, [(12, 12)])), (3, .inr (true, [(0, 0)])), (5, .inr (false, [(4, 4)]))], [], m4h1)] = true := by decide +kernel
/-- MiceRegistersModel.chancesOf -/
def m4c108 : ak_C := (185, [.inl 81, .inr (false, [(3, 3)]), .inr (false, [(12, 12)])], m4h1, [], [([], some (.inr (true, [(0, 0)])), [])])
theorem m4k108 : ai_chk [m4c39, m4c40, m4c41, m4c42] m4c108 (fun pc => sm_ch sm_t185 pc, sm_Kn 3 6 none, fun x => sm_lk sm_ca3 x, some .long) [] 6 0 [5] [] 2000 [(5, [(0, .inl 81), (1, .inr (false, [(3, 3)])), (2, .inr (false, [(12, 12)])), (3, .inr (true, [(1, 1)])), (5, .inr (false, [(0, 0)]))], [], m4h1),
  (5, [(0, .inl 81), (1, .inr (false, [(3, 3)])), (2, .inr (false, [(12, 12)])), (3, .inr (true, [(12, 12)])), (5, .inr (false, [(1, 1)]))], [], m4h1),
  (5, [(0, .inl 81), (1, .inr (false, [(3, 3)])), (2, .inr (false, [(12, 12)])), (3, .inr (true, [(144, 144)])), (5, .inr (false, [(2, 2)]))], [], m4h1),
  (5, [(0, .inl 81), (1, .inr (false, [(3, 3)])), (2, .inr (false, [(12, 12)])), (3, .inr (true, [(0, 0)])), (5, .inr (false, [(3, 3)]))], [], m4h1),
  (5, [(0, .inl 81), (1, .inr (false, [(3, 3)])), (2, .inr (false, [(12, 12)])), (3, .inr (true, [(0, 0)])), (5, .inr (false, [(4, 4)]))], [], m4h1)] = true := by decide +kernel
/-- MiceRegistersModel.chancesOf -/
def m4c109 : ak_C := (185, [.inl 81, .inr (false, [(4, 4)]), .inr (false, [(12, 12)])], m4h1, [], [([], some (.inr (true, [(0, 0)])), [])])
theorem m4k109 : ai_chk [m4c44, m4c45, m4c46, m4c47] m4c109 (fun pc => sm_ch sm_t185 pc, sm_Kn 3 6 none, fun x => sm_lk sm_ca3 x, some .long) [] 6 0 [5] [] 2000 [(5, [(0, .inl 81), (1, .inr (false, [(4, 4)])), (2, .inr (false, [(12, 12)])), (3, .inr (true, [(1, 1)])), (5, .inr (false, [(0, 0)]))], [], m4h1),
  (5, [(0, .inl 81), (1, .inr (false, [(4, 4)])), (2, .inr (false, [(12, 12)])), (3, .inr (true, [(0, 0)])), (5, .inr (false, [(1, 1)]))], [], m4h1),
  (5, [(0, .inl 81), (1, .inr (false, [(4, 4)])), (2, .inr (false, [(12, 12)])), (3, .inr (true, [(0, 0)])), (5, .inr (false, [(2, 2)]))], [], m4h1),
  (5, [(0, .inl 81), (1, .inr (false, [(4, 4)])), (2, .inr (false, [(12, 12)])), (3, .inr (true, [(0, 0)])), (5, .inr (false, [(3, 3)]))], [], m4h1),
  (5, [(0, .inl 81), (1, .inr (false, [(4, 4)])), (2, .inr (false, [(12, 12)])), (3, .inr (true, [(0, 0)])), (5, .inr (false, [(4, 4)]))], [], m4h1)] = true := by decide +kernel
/-- MiceRegistersModel.chancesOf -/
def m4c110 : ak_C := (185, [.inl 81, .inr (false, [(5, 5)]), .inr (false, [(12, 12)])], m4h1, [], [([], some (.inr (true, [(0, 0)])), [])])
theorem m4k110 : ai_chk [m4c49, m4c50, m4c51, m4c52] m4c110 (fun pc => sm_ch sm_t185 pc, sm_Kn 3 6 none, fun x => sm_lk sm_ca3 x, some .long) [] 6 0 [5] [] 2000 [(5, [(0, .inl 81), (1, .inr (false, [(5, 5)])), (2, .inr (false, [(12, 12)])), (3, .inr (true, [(1, 1)])), (5, .inr (false, [(0, 0)]))], [], m4h1),
  (5, [(0, .inl 81), (1, .inr (false, [(5, 5)])), (2, .inr (false, [(12, 12)])), (3, .inr (true, [(12, 12)])), (5, .inr (false, [(1, 1)]))], [], m4h1),
  (5, [(0, .inl 81), (1, .inr (false, [(5, 5)])), (2, .inr (false, [(12, 12)])), (3, .inr (true, [(0, 0)])), (5, .inr (false, [(2, 2)]))], [], m4h1),
  (5, [(0, .inl 81), (1, .inr (false, [(5, 5)])), (2, .inr (false, [(12, 12)])), (3, .inr (true, [(0, 0)])), (5, .inr (false, [(3, 3)]))], [], m4h1),
  (5, [(0, .inl 81), (1, .inr (false, [(5, 5)])), (2, .inr (false, [(12, 12)])), (3, .inr (true, [(0, 0)])), (5, .inr (false, [(4, 4)]))], [], m4h1)] = true := by decide +kernel
/-- MiceRegistersModel.chancesOf -/
def m4c111 : ak_C := (185, [.inl 81, .inr (false, [(6, 6)]), .inr (false, [(12, 12)])], m4h1, [], [([], some (.inr (true, [(0, 0)])), [])])
theorem m4k111 : ai_chk [m4c54, m4c55, m4c56, m4c57] m4c111 (fun pc => sm_ch sm_t185 pc, sm_Kn 3 6 none, fun x => sm_lk sm_ca3 x, some .long) [] 6 0 [5] [] 2000 [(5, [(0, .inl 81), (1, .inr (false, [(6, 6)])), (2, .inr (false, [(12, 12)])), (3, .inr (true, [(1, 1)])), (5, .inr (false, [(0, 0)]))], [], m4h1),
  (5, [(0, .inl 81), (1, .inr (false, [(6, 6)])), (2, .inr (false, [(12, 12)])), (3, .inr (true, [(0, 0)])), (5, .inr (false, [(1, 1)]))], [], m4h1),
  (5, [(0, .inl 81), (1, .inr (false, [(6, 6)])), (2, .inr (false, [(12, 12)])), (3, .inr (true, [(0, 0)])), (5, .inr (false, [(2, 2)]))], [], m4h1),
  (5, [(0, .inl 81), (1, .inr (false, [(6, 6)])), (2, .inr (false, [(12, 12)])), (3, .inr (true, [(0, 0)])), (5, .inr (false, [(3, 3)]))], [], m4h1),
  (5, [(0, .inl 81), (1, .inr (false, [(6, 6)])), (2, .inr (false, [(12, 12)])), (3, .inr (true, [(0, 0)])), (5, .inr (false, [(4, 4)]))], [], m4h1)] = true := by decide +kernel
/-- MiceRegistersModel.chancesOf -/
def m4c112 : ak_C := (185, [.inl 81, .inr (false, [(7, 7)]), .inr (false, [(12, 12)])], m4h1, [], [([], some (.inr (true, [(0, 0)])), [])])
theorem m4k112 : ai_chk [m4c59, m4c60, m4c61, m4c62] m4c112 (fun pc => sm_ch sm_t185 pc, sm_Kn 3 6 none, fun x => sm_lk sm_ca3 x, some .long) [] 6 0 [5] [] 2000 [(5, [(0, .inl 81), (1, .inr (false, [(7, 7)])), (2, .inr (false, [(12, 12)])), (3, .inr (true, [(1, 1)])), (5, .inr (false, [(0, 0)]))], [], m4h1),
  (5, [(0, .inl 81), (1, .inr (false, [(7, 7)])), (2, .inr (false, [(12, 12)])), (3, .inr (true, [(12, 12)])), (5, .inr (false, [(1, 1)]))], [], m4h1),
  (5, [(0, .inl 81), (1, .inr (false, [(7, 7)])), (2, .inr (false, [(12, 12)])), (3, .inr (true, [(144, 144)])), (5, .inr (false, [(2, 2)]))], [], m4h1),
  (5, [(0, .inl 81), (1, .inr (false, [(7, 7)])), (2, .inr (false, [(12, 12)])), (3, .inr (true, [(1728, 1728)])), (5, .inr (false, [(3, 3)]))], [], m4h1),
  (5, [(0, .inl 81), (1, .inr (false, [(7, 7)])), (2, .inr (false, [(12, 12)])), (3, .inr (true, [(0, 0)])), (5, .inr (false, [(4, 4)]))], [], m4h1)] = true := by decide +kernel
/-- MiceRegistersModel.chancesOf -/
def m4c113 : ak_C := (185, [.inl 81, .inr (false, [(8, 8)]), .inr (false, [(12, 12)])], m4h1, [], [([], some (.inr (true, [(0, 0)])), [])])
theorem m4k113 : ai_chk [m4c64, m4c65, m4c66, m4c67] m4c113 (fun pc => sm_ch sm_t185 pc, sm_Kn 3 6 none, fun x => sm_lk sm_ca3 x, some .long) [] 6 0 [5] [] 2000 [(5, [(0, .inl 81), (1, .inr (false, [(8, 8)])), (2, .inr (false, [(12, 12)])), (3, .inr (true, [(1, 1)])), (5, .inr (false, [(0, 0)]))], [], m4h1),
  (5, [(0, .inl 81), (1, .inr (false, [(8, 8)])), (2, .inr (false, [(12, 12)])), (3, .inr (true, [(0, 0)])), (5, .inr (false, [(1, 1)]))], [], m4h1),
  (5, [(0, .inl 81), (1, .inr (false, [(8, 8)])), (2, .inr (false, [(12, 12)])), (3, .inr (true, [(0, 0)])), (5, .inr (false, [(2, 2)]))], [], m4h1),
  (5, [(0, .inl 81), (1, .inr (false, [(8, 8)])), (2, .inr (false, [(12, 12)])), (3, .inr (true, [(0, 0)])), (5, .inr (false, [(3, 3)]))], [], m4h1),
  (5, [(0, .inl 81), (1, .inr (false, [(8, 8)])), (2, .inr (false, [(12, 12)])), (3, .inr (true, [(0, 0)])), (5, .inr (false, [(4, 4)]))], [], m4h1)] = true := by decide +kernel
/-- MiceRegistersModel.chancesOf -/
def m4c114 : ak_C := (185, [.inl 81, .inr (false, [(9, 9)]), .inr (false, [(12, 12)])], m4h1, [], [([], some (.inr (true, [(0, 0)])), [])])
theorem m4k114 : ai_chk [m4c69, m4c70, m4c71, m4c72] m4c114 (fun pc => sm_ch sm_t185 pc, sm_Kn 3 6 none, fun x => sm_lk sm_ca3 x, some .long) [] 6 0 [5] [] 2000 [(5, [(0, .inl 81), (1, .inr (false, [(9, 9)])), (2, .inr (false, [(12, 12)])), (3, .inr (true, [(1, 1)])), (5, .inr (false, [(0, 0)]))], [], m4h1),
  (5, [(0, .inl 81), (1, .inr (false, [(9, 9)])), (2, .inr (false, [(12, 12)])), (3, .inr (true, [(12, 12)])), (5, .inr (false, [(1, 1)]))], [], m4h1),
  (5, [(0, .inl 81), (1, .inr (false, [(9, 9)])), (2, .inr (false, [(12, 12)])), (3, .inr (true, [(0, 0)])), (5, .inr (false, [(2, 2)]))], [], m4h1),
  (5, [(0, .inl 81), (1, .inr (false, [(9, 9)])), (2, .inr (false, [(12, 12)])), (3, .inr (true, [(0, 0)])), (5, .inr (false, [(3, 3)]))], [], m4h1),
  (5, [(0, .inl 81), (1, .inr (false, [(9, 9)])), (2, .inr (false, [(12, 12)])), (3, .inr (true, [(0, 0)])), (5, .inr (false, [(4, 4)]))], [], m4h1)] = true := by decide +kernel
/-- MiceRegistersModel.chancesOf -/
def m4c115 : ak_C := (185, [.inl 81, .inr (false, [(10, 10)]), .inr (false, [(12, 12)])], m4h1, [], [([], some (.inr (true, [(0, 0)])), [])])
theorem m4k115 : ai_chk [m4c74, m4c75, m4c76, m4c77] m4c115 (fun pc => sm_ch sm_t185 pc, sm_Kn 3 6 none, fun x => sm_lk sm_ca3 x, some .long) [] 6 0 [5] [] 2000 [(5, [(0, .inl 81), (1, .inr (false, [(10, 10)])), (2, .inr (false, [(12, 12)])), (3, .inr (true, [(1, 1)])), (5, .inr (false, [(0, 0)]))], [], m4h1),
  (5, [(0, .inl 81), (1, .inr (false, [(10, 10)])), (2, .inr (false, [(12, 12)])), (3, .inr (true, [(0, 0)])), (5, .inr (false, [(1, 1)]))], [], m4h1),
  (5, [(0, .inl 81), (1, .inr (false, [(10, 10)])), (2, .inr (false, [(12, 12)])), (3, .inr (true, [(0, 0)])), (5, .inr (false, [(2, 2)]))], [], m4h1),
  (5, [(0, .inl 81), (1, .inr (false, [(10, 10)])), (2, .inr (false, [(12, 12)])), (3, .inr (true, [(0, 0)])), (5, .inr (false, [(3, 3)]))], [], m4h1),
  (5, [(0, .inl 81), (1, .inr (false, [(10, 10)])), (2, .inr (false, [(12, 12)])), (3, .inr (true, [(0, 0)])), (5, .inr (false, [(4, 4)]))], [], m4h1)] = true := by decide +kernel
/-- MiceRegistersModel.chancesOf -/
def m4c116 : ak_C := (185, [.inl 81, .inr (false, [(11, 11)]), .inr (false, [(12, 12)])], m4h1, [], [([], some (.inr (true, [(0, 0)])), [])])
theorem m4k116 : ai_chk [m4c79, m4c80, m4c81, m4c82] m4c116 (fun pc => sm_ch sm_t185 pc, sm_Kn 3 6 none, fun x => sm_lk sm_ca3 x, some .long) [] 6 0 [5] [] 2000 [(5, [(0, .inl 81), (1, .inr (false, [(11, 11)])), (2, .inr (false, [(12, 12)])), (3, .inr (true, [(1, 1)])), (5, .inr (false, [(0, 0)]))], [], m4h1),
  (5, [(0, .inl 81), (1, .inr (false, [(11, 11)])), (2, .inr (false, [(12, 12)])), (3, .inr (true, [(12, 12)])), (5, .inr (false, [(1, 1)]))], [], m4h1),
  (5, [(0, .inl 81), (1, .inr (false, [(11, 11)])), (2, .inr (false, [(12, 12)])), (3, .inr (true, [(144, 144)])), (5, .inr (false, [(2, 2)]))], [], m4h1),
  (5, [(0, .inl 81), (1, .inr (false, [(11, 11)])), (2, .inr (false, [(12, 12)])), (3, .inr (true, [(0, 0)])), (5, .inr (false, [(3, 3)]))], [], m4h1),
  (5, [(0, .inl 81), (1, .inr (false, [(11, 11)])), (2, .inr (false, [(12, 12)])), (3, .inr (true, [(0, 0)])), (5, .inr (false, [(4, 4)]))], [], m4h1)] = true := by decide +kernel
/-- MiceRegistersModel.chancesOf -/
def m4c117 : ak_C := (185, [.inl 81, .inr (false, [(12, 12)]), .inr (false, [(12, 12)])], m4h1, [], [([], some (.inr (true, [(0, 0)])), [])])
theorem m4k117 : ai_chk [m4c84, m4c85, m4c86, m4c87] m4c117 (fun pc => sm_ch sm_t185 pc, sm_Kn 3 6 none, fun x => sm_lk sm_ca3 x, some .long) [] 6 0 [5] [] 2000 [(5, [(0, .inl 81), (1, .inr (false, [(12, 12)])), (2, .inr (false, [(12, 12)])), (3, .inr (true, [(1, 1)])), (5, .inr (false, [(0, 0)]))], [], m4h1),
  (5, [(0, .inl 81), (1, .inr (false, [(12, 12)])), (2, .inr (false, [(12, 12)])), (3, .inr (true, [(0, 0)])), (5, .inr (false, [(1, 1)]))], [], m4h1),
  (5, [(0, .inl 81), (1, .inr (false, [(12, 12)])), (2, .inr (false, [(12, 12)])), (3, .inr (true, [(0, 0)])), (5, .inr (false, [(2, 2)]))], [], m4h1),
  (5, [(0, .inl 81), (1, .inr (false, [(12, 12)])), (2, .inr (false, [(12, 12)])), (3, .inr (true, [(0, 0)])), (5, .inr (false, [(3, 3)]))], [], m4h1),
  (5, [(0, .inl 81), (1, .inr (false, [(12, 12)])), (2, .inr (false, [(12, 12)])), (3, .inr (true, [(0, 0)])), (5, .inr (false, [(4, 4)]))], [], m4h1)] = true := by decide +kernel
/-- MiceRegistersModel.chancesOf -/
def m4c118 : ak_C := (185, [.inl 81, .inr (false, [(13, 13)]), .inr (false, [(12, 12)])], m4h1, [], [([], some (.inr (true, [(0, 0)])), [])])
theorem m4k118 : ai_chk [m4c89, m4c90, m4c91, m4c92] m4c118 (fun pc => sm_ch sm_t185 pc, sm_Kn 3 6 none, fun x => sm_lk sm_ca3 x, some .long) [] 6 0 [5] [] 2000 [(5, [(0, .inl 81), (1, .inr (false, [(13, 13)])), (2, .inr (false, [(12, 12)])), (3, .inr (true, [(1, 1)])), (5, .inr (false, [(0, 0)]))], [], m4h1),
  (5, [(0, .inl 81), (1, .inr (false, [(13, 13)])), (2, .inr (false, [(12, 12)])), (3, .inr (true, [(12, 12)])), (5, .inr (false, [(1, 1)]))], [], m4h1),
  (5, [(0, .inl 81), (1, .inr (false, [(13, 13)])), (2, .inr (false, [(12, 12)])), (3, .inr (true, [(0, 0)])), (5, .inr (false, [(2, 2)]))], [], m4h1),
  (5, [(0, .inl 81), (1, .inr (false, [(13, 13)])), (2, .inr (false, [(12, 12)])), (3, .inr (true, [(0, 0)])), (5, .inr (false, [(3, 3)]))], [], m4h1),
  (5, [(0, .inl 81), (1, .inr (false, [(13, 13)])), (2, .inr (false, [(12, 12)])), (3, .inr (true, [(0, 0)])), (5, .inr (false, [(4, 4)]))], [], m4h1)] = true := by decide +kernel
/-- MiceRegistersModel.chancesOf -/
def m4c119 : ak_C := (185, [.inl 81, .inr (false, [(14, 14)]), .inr (false, [(12, 12)])], m4h1, [], [([], some (.inr (true, [(0, 0)])), [])])
theorem m4k119 : ai_chk [m4c94, m4c95, m4c96, m4c97] m4c119 (fun pc => sm_ch sm_t185 pc, sm_Kn 3 6 none, fun x => sm_lk sm_ca3 x, some .long) [] 6 0 [5] [] 2000 [(5, [(0, .inl 81), (1, .inr (false, [(14, 14)])), (2, .inr (false, [(12, 12)])), (3, .inr (true, [(1, 1)])), (5, .inr (false, [(0, 0)]))], [], m4h1),
  (5, [(0, .inl 81), (1, .inr (false, [(14, 14)])), (2, .inr (false, [(12, 12)])), (3, .inr (true, [(0, 0)])), (5, .inr (false, [(1, 1)]))], [], m4h1),
  (5, [(0, .inl 81), (1, .inr (false, [(14, 14)])), (2, .inr (false, [(12, 12)])), (3, .inr (true, [(0, 0)])), (5, .inr (false, [(2, 2)]))], [], m4h1),
  (5, [(0, .inl 81), (1, .inr (false, [(14, 14)])), (2, .inr (false, [(12, 12)])), (3, .inr (true, [(0, 0)])), (5, .inr (false, [(3, 3)]))], [], m4h1),
  (5, [(0, .inl 81), (1, .inr (false, [(14, 14)])), (2, .inr (false, [(12, 12)])), (3, .inr (true, [(0, 0)])), (5, .inr (false, [(4, 4)]))], [], m4h1)] = true := by decide +kernel
/-- MiceRegistersModel.chancesOf -/
def m4c120 : ak_C := (185, [.inl 81, .inr (false, [(15, 15)]), .inr (false, [(12, 12)])], m4h1, [], [([], some (.inr (true, [(20736, 20736)])), [])])
theorem m4k120 : ai_chk [m4c99, m4c100, m4c101, m4c102] m4c120 (fun pc => sm_ch sm_t185 pc, sm_Kn 3 6 none, fun x => sm_lk sm_ca3 x, some .long) [] 6 0 [5] [] 2000 [(5, [(0, .inl 81), (1, .inr (false, [(15, 15)])), (2, .inr (false, [(12, 12)])), (3, .inr (true, [(1, 1)])), (5, .inr (false, [(0, 0)]))], [], m4h1),
  (5, [(0, .inl 81), (1, .inr (false, [(15, 15)])), (2, .inr (false, [(12, 12)])), (3, .inr (true, [(12, 12)])), (5, .inr (false, [(1, 1)]))], [], m4h1),
  (5, [(0, .inl 81), (1, .inr (false, [(15, 15)])), (2, .inr (false, [(12, 12)])), (3, .inr (true, [(144, 144)])), (5, .inr (false, [(2, 2)]))], [], m4h1),
  (5, [(0, .inl 81), (1, .inr (false, [(15, 15)])), (2, .inr (false, [(12, 12)])), (3, .inr (true, [(1728, 1728)])), (5, .inr (false, [(3, 3)]))], [], m4h1),
  (5, [(0, .inl 81), (1, .inr (false, [(15, 15)])), (2, .inr (false, [(12, 12)])), (3, .inr (true, [(20736, 20736)])), (5, .inr (false, [(4, 4)]))], [], m4h1)] = true := by decide +kernel
def m4h74 : aw_H := [(81, m4x0), (82, ms_r [(0, [(-1, 40)]), (3788, ar_t32)])]
/-- MiceRegistersModel.odds -/
def m4c121 : ak_C := (184, [.inl 81, .inr (false, ar_t32), .inr (false, ar_t32)], m4h58, [81, 82], [([[], [], []], some (.inr (false, [(-1, -1)])), m4h28), ([[], [(0, 7)], [(0, 12)]], some (.inr (false, [(1, 1)])), m4h74)])
def czm4s121x0 : aw_A := ms_o [(1, 8)] [(4, 4)] ar_t32 ar_t32 [(0, 180)] [(0, 60)] [(-1, 60)] [(0, 8)] [(0, 4)]
def czm4s121x1 : aw_A := .inr (.inl (0, 4, [(0, 3, [(1, 9)])], []))
def czm4s121h2 : aw_H := [(81, czm4s121x0), (82, ms_r [(0, [(-1, 40)])]), (83, .inr (.inl (0, 8, [], []))), (85, .inr (.inl (0, 4, [], []))), (86, czm4s121x1)]
set_option maxRecDepth 100000 in
theorem m4k121 : ai_ch2 [m4c16, m4c17, m4c22, mgc6368, mgc6372, m4c33, m4c38, m4c43, m4c48, m4c53, m4c58, m4c63, m4c68, m4c73, m4c78, m4c83, m4c88, m4c93, m4c98, m4c103, m4c104, m4c105, m4c106, m4c107, m4c108, m4c109, m4c110, m4c111, m4c112, m4c113, m4c114, m4c115, m4c116, m4c117, m4c118, m4c119, m4c120] m4c121 (fun pc => sm_ch sm_t184 pc, sm_Kn 3 10 none, fun x => sm_lk sm_ca3 x, some .int) [81, 82] 10 3 [30] [(22, some (0, 2, 0), 12, 1)] 2000 [.inl (30, [(0, .inl 81), (1, .inr (false, [(0, 7)])), (2, .inr (false, [(0, 11)])), (3, .inr (true, [(0, 0)])), (5, .inr (true, [(0, 0)])), (7, .inr (false, [(0, 0)]))], [], czm4s121h2),
  .inl (30, [(0, .inl 81), (1, .inr (false, [(0, 7)])), (2, .inr (false, [(0, 11)])), (3, .inr (true, [(0, 20736)])), (5, .inr (true, [(1, 20736)])), (7, .inr (false, [(1, 1)])), (8, .inr (true, [(1, 20736)]))], [], czm4s121h2),
  .inl (30, [(0, .inl 81), (1, .inr (false, [(0, 7)])), (2, .inr (false, [(0, 11)])), (3, .inr (true, [(0, 39744)])), (5, .inr (true, [(1, 39744)])), (7, .inr (false, [(2, 2)])), (8, .inr (true, [(0, 19008)]))], [], czm4s121h2),
  .inl (30, [(0, .inl 81), (1, .inr (false, [(0, 7)])), (2, .inr (false, [(0, 11)])), (3, .inr (true, [(0, 58752)])), (5, .inr (true, [(1, 58752)])), (7, .inr (false, [(3, 3)])), (8, .inr (true, [(0, 19008)]))], [], czm4s121h2),
  .inl (30, [(0, .inl 81), (1, .inr (false, [(0, 7)])), (2, .inr (false, [(0, 11)])), (3, .inr (true, [(0, 76176)])), (5, .inr (true, [(1, 76176)])), (7, .inr (false, [(4, 4)])), (8, .inr (true, [(0, 17424)]))], [], czm4s121h2),
  .inl (30, [(0, .inl 81), (1, .inr (false, [(0, 7)])), (2, .inr (false, [(0, 11)])), (3, .inr (true, [(0, 95184)])), (5, .inr (true, [(1, 95184)])), (7, .inr (false, [(5, 5)])), (8, .inr (true, [(0, 19008)]))], [], czm4s121h2),
  .inl (30, [(0, .inl 81), (1, .inr (false, [(0, 7)])), (2, .inr (false, [(0, 11)])), (3, .inr (true, [(0, 112608)])), (5, .inr (true, [(1, 112608)])), (7, .inr (false, [(6, 6)])), (8, .inr (true, [(0, 17424)]))], [], czm4s121h2),
  .inl (30, [(0, .inl 81), (1, .inr (false, [(0, 7)])), (2, .inr (false, [(0, 11)])), (3, .inr (true, [(0, 130032)])), (5, .inr (true, [(1, 130032)])), (7, .inr (false, [(7, 7)])), (8, .inr (true, [(0, 17424)]))], [], czm4s121h2),
  .inl (30, [(0, .inl 81), (1, .inr (false, [(0, 7)])), (2, .inr (false, [(0, 11)])), (3, .inr (true, [(0, 146004)])), (5, .inr (true, [(1, 146004)])), (7, .inr (false, [(8, 8)])), (8, .inr (true, [(0, 15972)]))], [], czm4s121h2),
  .inl (30, [(0, .inl 81), (1, .inr (false, [(0, 7)])), (2, .inr (false, [(0, 11)])), (3, .inr (true, [(0, 165012)])), (5, .inr (true, [(1, 165012)])), (7, .inr (false, [(9, 9)])), (8, .inr (true, [(0, 19008)]))], [], czm4s121h2),
  .inl (30, [(0, .inl 81), (1, .inr (false, [(0, 7)])), (2, .inr (false, [(0, 11)])), (3, .inr (true, [(0, 182436)])), (5, .inr (true, [(1, 182436)])), (7, .inr (false, [(10, 10)])), (8, .inr (true, [(0, 17424)]))], [], czm4s121h2),
  .inl (30, [(0, .inl 81), (1, .inr (false, [(0, 7)])), (2, .inr (false, [(0, 11)])), (3, .inr (true, [(0, 199860)])), (5, .inr (true, [(1, 199860)])), (7, .inr (false, [(11, 11)])), (8, .inr (true, [(0, 17424)]))], [], czm4s121h2),
  .inl (30, [(0, .inl 81), (1, .inr (false, [(0, 7)])), (2, .inr (false, [(0, 11)])), (3, .inr (true, [(0, 215832)])), (5, .inr (true, [(1, 215832)])), (7, .inr (false, [(12, 12)])), (8, .inr (true, [(0, 15972)]))], [], czm4s121h2),
  .inl (30, [(0, .inl 81), (1, .inr (false, [(0, 7)])), (2, .inr (false, [(0, 11)])), (3, .inr (true, [(0, 233256)])), (5, .inr (true, [(1, 233256)])), (7, .inr (false, [(13, 13)])), (8, .inr (true, [(0, 17424)]))], [], czm4s121h2),
  .inl (30, [(0, .inl 81), (1, .inr (false, [(0, 7)])), (2, .inr (false, [(0, 11)])), (3, .inr (true, [(0, 249228)])), (5, .inr (true, [(1, 249228)])), (7, .inr (false, [(14, 14)])), (8, .inr (true, [(0, 15972)]))], [], czm4s121h2),
  .inl (30, [(0, .inl 81), (1, .inr (false, [(0, 7)])), (2, .inr (false, [(0, 11)])), (3, .inr (true, [(0, 265200)])), (5, .inr (true, [(1, 265200)])), (7, .inr (false, [(15, 15)])), (8, .inr (true, [(0, 15972)]))], [], czm4s121h2),
  .inl (30, [(0, .inl 81), (1, .inr (false, [(0, 7)])), (2, .inr (false, [(0, 11)])), (3, .inr (true, [(0, 279841)])), (5, .inr (true, [(1, 279841)])), (7, .inr (false, [(16, 16)])), (8, .inr (true, [(0, 14641)]))], [], czm4s121h2),
  .inl (30, [(0, .inl 81), (1, .inr (false, [(0, 7)])), (2, .inr (false, [(12, 12)])), (3, .inr (true, [(0, 0)])), (5, .inr (true, [(0, 0)])), (7, .inr (false, [(0, 0)]))], [], czm4s121h2),
  .inl (30, [(0, .inl 81), (1, .inr (false, [(0, 7)])), (2, .inr (false, [(12, 12)])), (3, .inr (true, [(0, 0)])), (5, .inr (true, [(0, 0)])), (7, .inr (false, [(1, 1)])), (8, .inr (true, [(0, 0)]))], [], czm4s121h2),
  .inl (30, [(0, .inl 81), (1, .inr (false, [(0, 7)])), (2, .inr (false, [(12, 12)])), (3, .inr (true, [(0, 0)])), (5, .inr (true, [(0, 0)])), (7, .inr (false, [(2, 2)])), (8, .inr (true, [(0, 0)]))], [], czm4s121h2),
  .inl (30, [(0, .inl 81), (1, .inr (false, [(0, 7)])), (2, .inr (false, [(12, 12)])), (3, .inr (true, [(0, 0)])), (5, .inr (true, [(0, 0)])), (7, .inr (false, [(3, 3)])), (8, .inr (true, [(0, 0)]))], [], czm4s121h2),
  .inl (30, [(0, .inl 81), (1, .inr (false, [(0, 7)])), (2, .inr (false, [(12, 12)])), (3, .inr (true, [(0, 0)])), (5, .inr (true, [(0, 0)])), (7, .inr (false, [(4, 4)])), (8, .inr (true, [(0, 0)]))], [], czm4s121h2),
  .inl (30, [(0, .inl 81), (1, .inr (false, [(0, 7)])), (2, .inr (false, [(12, 12)])), (3, .inr (true, [(0, 0)])), (5, .inr (true, [(0, 0)])), (7, .inr (false, [(5, 5)])), (8, .inr (true, [(0, 0)]))], [], czm4s121h2),
  .inl (30, [(0, .inl 81), (1, .inr (false, [(0, 7)])), (2, .inr (false, [(12, 12)])), (3, .inr (true, [(0, 0)])), (5, .inr (true, [(0, 0)])), (7, .inr (false, [(6, 6)])), (8, .inr (true, [(0, 0)]))], [], czm4s121h2),
  .inl (30, [(0, .inl 81), (1, .inr (false, [(0, 7)])), (2, .inr (false, [(12, 12)])), (3, .inr (true, [(0, 0)])), (5, .inr (true, [(0, 0)])), (7, .inr (false, [(7, 7)])), (8, .inr (true, [(0, 0)]))], [], czm4s121h2),
  .inl (30, [(0, .inl 81), (1, .inr (false, [(0, 7)])), (2, .inr (false, [(12, 12)])), (3, .inr (true, [(0, 0)])), (5, .inr (true, [(0, 0)])), (7, .inr (false, [(8, 8)])), (8, .inr (true, [(0, 0)]))], [], czm4s121h2),
  .inl (30, [(0, .inl 81), (1, .inr (false, [(0, 7)])), (2, .inr (false, [(12, 12)])), (3, .inr (true, [(0, 0)])), (5, .inr (true, [(0, 0)])), (7, .inr (false, [(9, 9)])), (8, .inr (true, [(0, 0)]))], [], czm4s121h2),
  .inl (30, [(0, .inl 81), (1, .inr (false, [(0, 7)])), (2, .inr (false, [(12, 12)])), (3, .inr (true, [(0, 0)])), (5, .inr (true, [(0, 0)])), (7, .inr (false, [(10, 10)])), (8, .inr (true, [(0, 0)]))], [], czm4s121h2),
  .inl (30, [(0, .inl 81), (1, .inr (false, [(0, 7)])), (2, .inr (false, [(12, 12)])), (3, .inr (true, [(0, 0)])), (5, .inr (true, [(0, 0)])), (7, .inr (false, [(11, 11)])), (8, .inr (true, [(0, 0)]))], [], czm4s121h2),
  .inl (30, [(0, .inl 81), (1, .inr (false, [(0, 7)])), (2, .inr (false, [(12, 12)])), (3, .inr (true, [(0, 0)])), (5, .inr (true, [(0, 0)])), (7, .inr (false, [(12, 12)])), (8, .inr (true, [(0, 0)]))], [], czm4s121h2),
  .inl (30, [(0, .inl 81), (1, .inr (false, [(0, 7)])), (2, .inr (false, [(12, 12)])), (3, .inr (true, [(0, 0)])), (5, .inr (true, [(0, 0)])), (7, .inr (false, [(13, 13)])), (8, .inr (true, [(0, 0)]))], [], czm4s121h2),
  .inl (30, [(0, .inl 81), (1, .inr (false, [(0, 7)])), (2, .inr (false, [(12, 12)])), (3, .inr (true, [(0, 0)])), (5, .inr (true, [(0, 0)])), (7, .inr (false, [(14, 14)])), (8, .inr (true, [(0, 0)]))], [], czm4s121h2),
  .inl (30, [(0, .inl 81), (1, .inr (false, [(0, 7)])), (2, .inr (false, [(12, 12)])), (3, .inr (true, [(0, 0)])), (5, .inr (true, [(0, 0)])), (7, .inr (false, [(15, 15)])), (8, .inr (true, [(0, 0)]))], [], czm4s121h2),
  .inl (30, [(0, .inl 81), (1, .inr (false, [(0, 7)])), (2, .inr (false, [(12, 12)])), (3, .inr (true, [(0, 0), (20736, 20736)])), (5, .inr (true, [(20736, 20736)])), (7, .inr (false, [(16, 16)])), (8, .inr (true, [(20736, 20736)]))], [], czm4s121h2)] = true := by decide +kernel

