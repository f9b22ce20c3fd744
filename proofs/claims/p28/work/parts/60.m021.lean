/-! Contracts over ranges of the reference, and their checks; printed by a program of mine. -/
/-- MiceRegistersModel.passes -/
def m2h58 : aw_H := [(81, m2x0), (82, ms_r [(0, [(-1, 40)])]), (83, .inr (.inl (0, 8, [], []))), (85, .inr (.inl (0, 4, [], []))), (86, m2x3)]
/-- MiceRegistersModel.has -/
def m2c27 : ak_C := (135, [.inr (false, [(1, 1)]), .inr (false, [(0, 0)])], [], [], [([], some (.inr (false, [(1, 1)])), [])])
theorem m2k27 : ai_chk [] m2c27 (fun pc => sm_ch sm_t135 pc, sm_Kn 3 2 none, fun x => sm_lk sm_ca3 x, some .boolean) [] 2 0 [] [] 2000 [] = true := by decide +kernel
/-- MiceRegistersModel.has -/
def m2c28 : ak_C := (135, [.inr (false, [(1, 1)]), .inr (false, [(1, 1)])], [], [], [([], some (.inr (false, [(0, 0)])), [])])
theorem m2k28 : ai_chk [] m2c28 (fun pc => sm_ch sm_t135 pc, sm_Kn 3 2 none, fun x => sm_lk sm_ca3 x, some .boolean) [] 2 0 [] [] 2000 [] = true := by decide +kernel
/-- MiceRegistersModel.chancesOf -/
def m2c29 : ak_C := (185, [.inl 81, .inr (false, [(1, 1)]), .inr (false, [(0, 11)])], m2h1, [], [([], some (.inr (true, [(0, 132)])), [])])
theorem m2k29 : ai_chk [m2c27, m2c28] m2c29 (fun pc => sm_ch sm_t185 pc, sm_Kn 3 6 none, fun x => sm_lk sm_ca3 x, some .long) [] 6 0 [5] [] 2000 [(5, [(0, .inl 81), (1, .inr (false, [(1, 1)])), (2, .inr (false, [(0, 11)])), (3, .inr (true, [(1, 1)])), (5, .inr (false, [(0, 0)]))], [], m2h1),
  (5, [(0, .inl 81), (1, .inr (false, [(1, 1)])), (2, .inr (false, [(0, 11)])), (3, .inr (true, [(0, 11)])), (5, .inr (false, [(1, 1)]))], [], m2h1),
  (5, [(0, .inl 81), (1, .inr (false, [(1, 1)])), (2, .inr (false, [(0, 11)])), (3, .inr (true, [(0, 132)])), (5, .inr (false, [(2, 2)]))], [], m2h1)] = true := by decide +kernel
/-- MiceRegistersModel.has -/
def m2c30 : ak_C := (135, [.inr (false, [(2, 2)]), .inr (false, [(0, 0)])], [], [], [([], some (.inr (false, [(0, 0)])), [])])
theorem m2k30 : ai_chk [] m2c30 (fun pc => sm_ch sm_t135 pc, sm_Kn 3 2 none, fun x => sm_lk sm_ca3 x, some .boolean) [] 2 0 [] [] 2000 [] = true := by decide +kernel
/-- MiceRegistersModel.has -/
def m2c31 : ak_C := (135, [.inr (false, [(2, 2)]), .inr (false, [(1, 1)])], [], [], [([], some (.inr (false, [(1, 1)])), [])])
theorem m2k31 : ai_chk [] m2c31 (fun pc => sm_ch sm_t135 pc, sm_Kn 3 2 none, fun x => sm_lk sm_ca3 x, some .boolean) [] 2 0 [] [] 2000 [] = true := by decide +kernel
/-- MiceRegistersModel.chancesOf -/
def m2c32 : ak_C := (185, [.inl 81, .inr (false, [(2, 2)]), .inr (false, [(0, 11)])], m2h1, [], [([], some (.inr (true, [(0, 132)])), [])])
theorem m2k32 : ai_chk [m2c30, m2c31] m2c32 (fun pc => sm_ch sm_t185 pc, sm_Kn 3 6 none, fun x => sm_lk sm_ca3 x, some .long) [] 6 0 [5] [] 2000 [(5, [(0, .inl 81), (1, .inr (false, [(2, 2)])), (2, .inr (false, [(0, 11)])), (3, .inr (true, [(1, 1)])), (5, .inr (false, [(0, 0)]))], [], m2h1),
  (5, [(0, .inl 81), (1, .inr (false, [(2, 2)])), (2, .inr (false, [(0, 11)])), (3, .inr (true, [(1, 12)])), (5, .inr (false, [(1, 1)]))], [], m2h1),
  (5, [(0, .inl 81), (1, .inr (false, [(2, 2)])), (2, .inr (false, [(0, 11)])), (3, .inr (true, [(0, 132)])), (5, .inr (false, [(2, 2)]))], [], m2h1)] = true := by decide +kernel
/-- MiceRegistersModel.has -/
def m2c33 : ak_C := (135, [.inr (false, [(3, 3)]), .inr (false, [(0, 0)])], [], [], [([], some (.inr (false, [(1, 1)])), [])])
theorem m2k33 : ai_chk [] m2c33 (fun pc => sm_ch sm_t135 pc, sm_Kn 3 2 none, fun x => sm_lk sm_ca3 x, some .boolean) [] 2 0 [] [] 2000 [] = true := by decide +kernel
/-- MiceRegistersModel.has -/
def m2c34 : ak_C := (135, [.inr (false, [(3, 3)]), .inr (false, [(1, 1)])], [], [], [([], some (.inr (false, [(1, 1)])), [])])
theorem m2k34 : ai_chk [] m2c34 (fun pc => sm_ch sm_t135 pc, sm_Kn 3 2 none, fun x => sm_lk sm_ca3 x, some .boolean) [] 2 0 [] [] 2000 [] = true := by decide +kernel
/-- MiceRegistersModel.chancesOf -/
def m2c35 : ak_C := (185, [.inl 81, .inr (false, [(3, 3)]), .inr (false, [(0, 11)])], m2h1, [], [([], some (.inr (true, [(0, 121)])), [])])
theorem m2k35 : ai_chk [m2c33, m2c34] m2c35 (fun pc => sm_ch sm_t185 pc, sm_Kn 3 6 none, fun x => sm_lk sm_ca3 x, some .long) [] 6 0 [5] [] 2000 [(5, [(0, .inl 81), (1, .inr (false, [(3, 3)])), (2, .inr (false, [(0, 11)])), (3, .inr (true, [(1, 1)])), (5, .inr (false, [(0, 0)]))], [], m2h1),
  (5, [(0, .inl 81), (1, .inr (false, [(3, 3)])), (2, .inr (false, [(0, 11)])), (3, .inr (true, [(0, 11)])), (5, .inr (false, [(1, 1)]))], [], m2h1),
  (5, [(0, .inl 81), (1, .inr (false, [(3, 3)])), (2, .inr (false, [(0, 11)])), (3, .inr (true, [(0, 121)])), (5, .inr (false, [(2, 2)]))], [], m2h1)] = true := by decide +kernel
/-- MiceRegistersModel.tellParts -/
def m2c36 : ak_C := (186, [.inl 81, .inr (true, [(-72057594037927936, 72057594037927936)]), .inr (true, [(1, 1099511627776)])], m2h1, [81], [([], none, m2h1)])
/-- MiceRegistersModel.chancesOf -/
def m2c37 : ak_C := (185, [.inl 81, .inr (false, [(0, 0)]), .inr (false, [(12, 12)])], m2h1, [], [([], some (.inr (true, [(0, 0)])), [])])
theorem m2k37 : ai_chk [m2c18, m2c19] m2c37 (fun pc => sm_ch sm_t185 pc, sm_Kn 3 6 none, fun x => sm_lk sm_ca3 x, some .long) [] 6 0 [5] [] 2000 [(5, [(0, .inl 81), (1, .inr (false, [(0, 0)])), (2, .inr (false, [(12, 12)])), (3, .inr (true, [(1, 1)])), (5, .inr (false, [(0, 0)]))], [], m2h1),
  (5, [(0, .inl 81), (1, .inr (false, [(0, 0)])), (2, .inr (false, [(12, 12)])), (3, .inr (true, [(0, 0)])), (5, .inr (false, [(1, 1)]))], [], m2h1),
  (5, [(0, .inl 81), (1, .inr (false, [(0, 0)])), (2, .inr (false, [(12, 12)])), (3, .inr (true, [(0, 0)])), (5, .inr (false, [(2, 2)]))], [], m2h1)] = true := by decide +kernel
/-- MiceRegistersModel.chancesOf -/
def m2c38 : ak_C := (185, [.inl 81, .inr (false, [(1, 1)]), .inr (false, [(12, 12)])], m2h1, [], [([], some (.inr (true, [(0, 0)])), [])])
theorem m2k38 : ai_chk [m2c27, m2c28] m2c38 (fun pc => sm_ch sm_t185 pc, sm_Kn 3 6 none, fun x => sm_lk sm_ca3 x, some .long) [] 6 0 [5] [] 2000 [(5, [(0, .inl 81), (1, .inr (false, [(1, 1)])), (2, .inr (false, [(12, 12)])), (3, .inr (true, [(1, 1)])), (5, .inr (false, [(0, 0)]))], [], m2h1),
  (5, [(0, .inl 81), (1, .inr (false, [(1, 1)])), (2, .inr (false, [(12, 12)])), (3, .inr (true, [(12, 12)])), (5, .inr (false, [(1, 1)]))], [], m2h1),
  (5, [(0, .inl 81), (1, .inr (false, [(1, 1)])), (2, .inr (false, [(12, 12)])), (3, .inr (true, [(0, 0)])), (5, .inr (false, [(2, 2)]))], [], m2h1)] = true := by decide +kernel
/-- MiceRegistersModel.chancesOf -/
def m2c39 : ak_C := (185, [.inl 81, .inr (false, [(2, 2)]), .inr (false, [(12, 12)])], m2h1, [], [([], some (.inr (true, [(0, 0)])), [])])
theorem m2k39 : ai_chk [m2c30, m2c31] m2c39 (fun pc => sm_ch sm_t185 pc, sm_Kn 3 6 none, fun x => sm_lk sm_ca3 x, some .long) [] 6 0 [5] [] 2000 [(5, [(0, .inl 81), (1, .inr (false, [(2, 2)])), (2, .inr (false, [(12, 12)])), (3, .inr (true, [(1, 1)])), (5, .inr (false, [(0, 0)]))], [], m2h1),
  (5, [(0, .inl 81), (1, .inr (false, [(2, 2)])), (2, .inr (false, [(12, 12)])), (3, .inr (true, [(0, 0)])), (5, .inr (false, [(1, 1)]))], [], m2h1),
  (5, [(0, .inl 81), (1, .inr (false, [(2, 2)])), (2, .inr (false, [(12, 12)])), (3, .inr (true, [(0, 0)])), (5, .inr (false, [(2, 2)]))], [], m2h1)] = true := by decide +kernel
/-- MiceRegistersModel.chancesOf -/
def m2c40 : ak_C := (185, [.inl 81, .inr (false, [(3, 3)]), .inr (false, [(12, 12)])], m2h1, [], [([], some (.inr (true, [(144, 144)])), [])])
theorem m2k40 : ai_chk [m2c33, m2c34] m2c40 (fun pc => sm_ch sm_t185 pc, sm_Kn 3 6 none, fun x => sm_lk sm_ca3 x, some .long) [] 6 0 [5] [] 2000 [(5, [(0, .inl 81), (1, .inr (false, [(3, 3)])), (2, .inr (false, [(12, 12)])), (3, .inr (true, [(1, 1)])), (5, .inr (false, [(0, 0)]))], [], m2h1),
  (5, [(0, .inl 81), (1, .inr (false, [(3, 3)])), (2, .inr (false, [(12, 12)])), (3, .inr (true, [(12, 12)])), (5, .inr (false, [(1, 1)]))], [], m2h1),
  (5, [(0, .inl 81), (1, .inr (false, [(3, 3)])), (2, .inr (false, [(12, 12)])), (3, .inr (true, [(144, 144)])), (5, .inr (false, [(2, 2)]))], [], m2h1)] = true := by decide +kernel
def m2h74 : aw_H := [(81, m2x0), (82, ms_r [(0, [(-1, 40)]), (3788, ar_t32)])]
/-- MiceRegistersModel.odds -/
def m2c41 : ak_C := (184, [.inl 81, .inr (false, ar_t32), .inr (false, ar_t32)], m2h58, [81, 82], [([[], [], []], some (.inr (false, [(-1, -1)])), m2h28), ([[], [(0, 7)], [(0, 12)]], some (.inr (false, [(1, 1)])), m2h74)])
def czm2s41x0 : aw_A := ms_o [(1, 8)] [(2, 2)] ar_t32 ar_t32 [(0, 180)] [(0, 60)] [(-1, 60)] [(0, 8)] [(0, 4)]
def czm2s41x1 : aw_A := .inr (.inl (0, 4, [(0, 1, [(1, 9)])], []))
def czm2s41h2 : aw_H := [(81, czm2s41x0), (82, ms_r [(0, [(-1, 40)])]), (83, .inr (.inl (0, 8, [], []))), (85, .inr (.inl (0, 4, [], []))), (86, czm2s41x1)]
set_option maxRecDepth 100000 in
theorem m2k41 : ai_ch2 [m2c16, m2c17, m2c20, mgc6368, mgc6372, m2c29, m2c32, m2c35, m2c36, m2c37, m2c38, m2c39, m2c40] m2c41 (fun pc => sm_ch sm_t184 pc, sm_Kn 3 10 none, fun x => sm_lk sm_ca3 x, some .int) [81, 82] 10 3 [30] [(22, some (0, 2, 0), 12, 1)] 2000 [.inl (30, [(0, .inl 81), (1, .inr (false, [(0, 7)])), (2, .inr (false, [(0, 11)])), (3, .inr (true, [(0, 0)])), (5, .inr (true, [(0, 0)])), (7, .inr (false, [(0, 0)]))], [], czm2s41h2),
  .inl (30, [(0, .inl 81), (1, .inr (false, [(0, 7)])), (2, .inr (false, [(0, 11)])), (3, .inr (true, [(0, 144)])), (5, .inr (true, [(1, 144)])), (7, .inr (false, [(1, 1)])), (8, .inr (true, [(1, 144)]))], [], czm2s41h2),
  .inl (30, [(0, .inl 81), (1, .inr (false, [(0, 7)])), (2, .inr (false, [(0, 11)])), (3, .inr (true, [(0, 276)])), (5, .inr (true, [(1, 276)])), (7, .inr (false, [(2, 2)])), (8, .inr (true, [(0, 132)]))], [], czm2s41h2),
  .inl (30, [(0, .inl 81), (1, .inr (false, [(0, 7)])), (2, .inr (false, [(0, 11)])), (3, .inr (true, [(0, 408)])), (5, .inr (true, [(1, 408)])), (7, .inr (false, [(3, 3)])), (8, .inr (true, [(0, 132)]))], [], czm2s41h2),
  .inl (30, [(0, .inl 81), (1, .inr (false, [(0, 7)])), (2, .inr (false, [(0, 11)])), (3, .inr (true, [(0, 529)])), (5, .inr (true, [(1, 529)])), (7, .inr (false, [(4, 4)])), (8, .inr (true, [(0, 121)]))], [], czm2s41h2),
  .inl (30, [(0, .inl 81), (1, .inr (false, [(0, 7)])), (2, .inr (false, [(12, 12)])), (3, .inr (true, [(0, 0)])), (5, .inr (true, [(0, 0)])), (7, .inr (false, [(0, 0)]))], [], czm2s41h2),
  .inl (30, [(0, .inl 81), (1, .inr (false, [(0, 7)])), (2, .inr (false, [(12, 12)])), (3, .inr (true, [(0, 0)])), (5, .inr (true, [(0, 0)])), (7, .inr (false, [(1, 1)])), (8, .inr (true, [(0, 0)]))], [], czm2s41h2),
  .inl (30, [(0, .inl 81), (1, .inr (false, [(0, 7)])), (2, .inr (false, [(12, 12)])), (3, .inr (true, [(0, 0)])), (5, .inr (true, [(0, 0)])), (7, .inr (false, [(2, 2)])), (8, .inr (true, [(0, 0)]))], [], czm2s41h2),
  .inl (30, [(0, .inl 81), (1, .inr (false, [(0, 7)])), (2, .inr (false, [(12, 12)])), (3, .inr (true, [(0, 0)])), (5, .inr (true, [(0, 0)])), (7, .inr (false, [(3, 3)])), (8, .inr (true, [(0, 0)]))], [], czm2s41h2),
  .inl (30, [(0, .inl 81), (1, .inr (false, [(0, 7)])), (2, .inr (false, [(12, 12)])), (3, .inr (true, [(0, 0), (144, 144)])), (5, .inr (true, [(144, 144)])), (7, .inr (false, [(4, 4)])), (8, .inr (true, [(144, 144)]))], [], czm2s41h2)] = true := by decide +kernel
/-- MiceRegistersModel.leftIn -/
def m2c42 : ak_C := (168, [.inl 81, .inr (false, [(3776, 3776)])], m2h28, [], [([], some (.inr (false, ar_t32)), [])])
def m2h76 : aw_H := [(81, m2x7), (82, ms_r [(0, [(-1, 40)])])]
def m2h77 : aw_H := [(81, m2x10), (82, ms_r [(0, [(-1, 40)])])]
def m2h78 : aw_H := [(81, m2x13), (82, ms_r [(0, [(-1, 40)])])]
def m2h79 : aw_H := [(81, m2x16), (82, ms_r [(0, [(-1, 40)])])]
def m2h80 : aw_H := [(81, m2x19), (82, ms_r [(0, [(-1, 40)])])]
def m2h81 : aw_H := [(81, m2x22), (82, ms_r [(0, [(-1, 40)])])]
def m2h82 : aw_H := [(81, m2x25), (82, ms_r [(0, [(-1, 40)])])]
theorem m2k42 : ai_chk [] m2c42 (fun pc => sm_ch sm_t168 pc, sm_Kn 3 4 none, fun x => sm_lk sm_ca3 x, some .int) [] 4 0 [4] [] 2000 [(4, [(0, .inl 81), (1, .inr (false, [(3776, 3776)])), (2, .inr (false, [(0, 0)])), (3, .inr (false, [(0, 0)]))], [], m2h28),
  (4, [(0, .inl 81), (1, .inr (false, [(3776, 3776)])), (2, .inr (false, ar_t32)), (3, .inr (false, [(1, 1)]))], [], m2h28),
  (4, [(0, .inl 81), (1, .inr (false, [(3776, 3776)])), (2, .inr (false, ar_t32)), (3, .inr (false, [(2, 2)]))], [], m2h76),
  (4, [(0, .inl 81), (1, .inr (false, [(3776, 3776)])), (2, .inr (false, ar_t32)), (3, .inr (false, [(3, 3)]))], [], m2h77),
  (4, [(0, .inl 81), (1, .inr (false, [(3776, 3776)])), (2, .inr (false, ar_t32)), (3, .inr (false, [(4, 4)]))], [], m2h78),
  (4, [(0, .inl 81), (1, .inr (false, [(3776, 3776)])), (2, .inr (false, ar_t32)), (3, .inr (false, [(5, 5)]))], [], m2h79),
  (4, [(0, .inl 81), (1, .inr (false, [(3776, 3776)])), (2, .inr (false, ar_t32)), (3, .inr (false, [(6, 6)]))], [], m2h80),
  (4, [(0, .inl 81), (1, .inr (false, [(3776, 3776)])), (2, .inr (false, ar_t32)), (3, .inr (false, [(7, 7)]))], [], m2h81),
  (4, [(0, .inl 81), (1, .inr (false, [(3776, 3776)])), (2, .inr (false, ar_t32)), (3, .inr (false, [(8, 8)]))], [], m2h82)] = true := by decide +kernel
/-- MiceRegistersModel.mid -/
def m2c43 : ak_C := (187, [.inl 81, .inr (false, ar_t32)], m2h58, [81, 82], [([[], [(-2147483648, -1), (13, 2147483647)]], some (.inr (false, [(-1, -1)])), m2h28), ([[], [(0, 12)]], some (.inr (false, [(1, 1)])), m2h74)])
def czm2s43x0 : aw_A := ms_o [(1, 8)] [(2, 2)] ar_t32 ar_t32 [(0, 180)] [(0, 60)] [(-1, 60)] [(0, 8)] [(0, 4)]
def czm2s43x1 : aw_A := .inr (.inl (0, 4, [(0, 1, [(1, 9)])], []))
def czm2s43h2 : aw_H := [(81, czm2s43x0), (82, ms_r [(0, [(-1, 40)])]), (83, .inr (.inl (0, 8, [], []))), (85, .inr (.inl (0, 4, [], []))), (86, czm2s43x1)]
set_option maxRecDepth 100000 in
theorem m2k43 : ai_ch2 [m2c17, m2c20, mgc6368, mgc6372, m2c42, m2c29, m2c32, m2c35, m2c36, m2c37, m2c38, m2c39, m2c40] m2c43 (fun pc => sm_ch sm_t187 pc, sm_Kn 3 9 none, fun x => sm_lk sm_ca3 x, some .int) [81, 82] 9 2 [32] [(24, some (0, 1, 0), 12, 1)] 2000 [.inl (32, [(0, .inl 81), (1, .inr (false, [(0, 11)])), (2, .inr (true, [(0, 0)])), (4, .inr (true, [(0, 0)])), (6, .inr (false, [(0, 0)]))], [], czm2s43h2),
  .inl (32, [(0, .inl 81), (1, .inr (false, [(0, 11)])), (2, .inr (true, [(-309237645312, 309237645168)])), (4, .inr (true, [(1, 144)])), (6, .inr (false, [(1, 1)])), (7, .inr (true, [(1, 144)]))], [], czm2s43h2),
  .inl (32, [(0, .inl 81), (1, .inr (false, [(0, 11)])), (2, .inr (true, [(-592705486848, 592705486572)])), (4, .inr (true, [(1, 276)])), (6, .inr (false, [(2, 2)])), (7, .inr (true, [(0, 132)]))], [], czm2s43h2),
  .inl (32, [(0, .inl 81), (1, .inr (false, [(0, 11)])), (2, .inr (true, [(-876173328384, 876173327976)])), (4, .inr (true, [(1, 408)])), (6, .inr (false, [(3, 3)])), (7, .inr (true, [(0, 132)]))], [], czm2s43h2),
  .inl (32, [(0, .inl 81), (1, .inr (false, [(0, 11)])), (2, .inr (true, [(-1136018849792, 1136018849263)])), (4, .inr (true, [(1, 529)])), (6, .inr (false, [(4, 4)])), (7, .inr (true, [(0, 121)]))], [], czm2s43h2),
  .inl (32, [(0, .inl 81), (1, .inr (false, [(12, 12)])), (2, .inr (true, [(0, 0)])), (4, .inr (true, [(0, 0)])), (6, .inr (false, [(0, 0)]))], [], czm2s43h2),
  .inl (32, [(0, .inl 81), (1, .inr (false, [(12, 12)])), (2, .inr (true, [(0, 0)])), (4, .inr (true, [(0, 0)])), (6, .inr (false, [(1, 1)])), (7, .inr (true, [(0, 0)]))], [], czm2s43h2),
  .inl (32, [(0, .inl 81), (1, .inr (false, [(12, 12)])), (2, .inr (true, [(0, 0)])), (4, .inr (true, [(0, 0)])), (6, .inr (false, [(2, 2)])), (7, .inr (true, [(0, 0)]))], [], czm2s43h2),
  .inl (32, [(0, .inl 81), (1, .inr (false, [(12, 12)])), (2, .inr (true, [(0, 0)])), (4, .inr (true, [(0, 0)])), (6, .inr (false, [(3, 3)])), (7, .inr (true, [(0, 0)]))], [], czm2s43h2),
  .inl (32, [(0, .inl 81), (1, .inr (false, [(12, 12)])), (2, .inr (true, [(-309237645312, 309237645168)])), (4, .inr (true, [(144, 144)])), (6, .inr (false, [(4, 4)])), (7, .inr (true, [(144, 144)]))], [], czm2s43h2)] = true := by decide +kernel
/-- MiceRegistersModel.in -/
def m3c2 : ak_C := (105, [.inr (true, ar_t32), .inr (true, [(0, 0)]), .inr (true, [(2, 2)])], [], [], [([[(0, 2)], [], []], some (.inr (false, [(1, 1)])), []), ([[(-2147483648, -1), (3, 2147483647)], [], []], some (.inr (false, [(0, 0)])), [])])
theorem m3k2 : ai_chk [] m3c2 (fun pc => sm_ch sm_t105 pc, sm_Kn 3 6 none, fun x => sm_lk sm_ca3 x, some .boolean) [] 6 6 [] [] 2000 [] = true := by decide +kernel
/-- MiceRegistersModel.isMouse -/
def m3x0 : aw_A := ms_o [(1, 8)] [(3, 3)] ar_t32 ar_t32 [(0, 180)] [(0, 60)] [(-1, 60)] [(0, 8)] [(0, 4)]
def m3h1 : aw_H := [(81, m3x0)]
def m3c3 : ak_C := (140, [.inl 81, .inr (false, ar_t32)], m3h1, [], [([[], [(-2147483648, -1), (3, 2147483647)]], some (.inr (false, [(0, 0)])), []), ([[], [(0, 2)]], some (.inr (false, [(1, 1)])), [])])
theorem m3k3 : ai_chk [m3c2] m3c3 (fun pc => sm_ch sm_t140 pc, sm_Kn 3 2 none, fun x => sm_lk sm_ca3 x, some .boolean) [] 2 2 [] [] 2000 [] = true := by decide +kernel
/-- MiceRegistersModel.in -/
def m3c4 : ak_C := (105, [.inr (true, ar_t32), .inr (true, [(1, 1)]), .inr (true, [(5, 5)])], [], [], [([[(1, 5)], [], []], some (.inr (false, [(1, 1)])), []), ([[(-2147483648, 0), (6, 2147483647)], [], []], some (.inr (false, [(0, 0)])), [])])
theorem m3k4 : ai_chk [] m3c4 (fun pc => sm_ch sm_t105 pc, sm_Kn 3 6 none, fun x => sm_lk sm_ca3 x, some .boolean) [] 6 6 [] [] 2000 [] = true := by decide +kernel
/-- MiceRegistersModel.isOf -/
def m3h2 : aw_H := [(81, m3x0), (85, .inr (.inl (0, 4, [], [])))]
def m3c5 : ak_C := (144, [.inl 81, .inr (false, [(0, 3)]), .inr (false, ar_t32)], m3h2, [], [([], some (.inr (false, [(0, 0)])), []), ([], some (.inr (false, [(1, 1)])), [])])
theorem m3k5 : ai_chk [] m3c5 (fun pc => sm_ch sm_t144 pc, sm_Kn 3 4 none, fun x => sm_lk sm_ca3 x, some .boolean) [] 4 0 [] [] 2000 [] = true := by decide +kernel
/-- MiceRegistersModel.eatsOf -/
def m3x3 : aw_A := .inr (.inl (0, 4, [(0, 2, [(1, 9)])], []))
def m3h4 : aw_H := [(81, m3x0), (85, .inr (.inl (0, 4, [], []))), (86, m3x3)]
def m3c6 : ak_C := (142, [.inl 81, .inr (false, [(0, 2)])], m3h4, [], [([], some (.inr (false, [(1, 18)])), [])])
theorem m3k6 : ai_chk [] m3c6 (fun pc => sm_ch sm_t142 pc, sm_Kn 3 2 none, fun x => sm_lk sm_ca3 x, some .int) [] 2 0 [] [] 2000 [] = true := by decide +kernel
/-- MiceRegistersModel.littleWrong -/
def m3h5 : aw_H := [(81, m3x0), (83, .inr (.inl (0, 8, [], [])))]
def m3c7 : ak_C := (146, [.inl 81], m3h5, [], [([], some (.inr (false, [(0, 8)])), [])])
def m3h6 : aw_H := [(81, m3x0), (83, .inr (.inl (0, 8, [], [(0, ar_t32)])))]
def m3x7 : aw_A := ms_o [(2, 8)] [(3, 3)] ar_t32 ar_t32 [(0, 180)] [(0, 60)] [(-1, 60)] [(0, 8)] [(0, 4)]
def m3x8 : aw_A := .inr (.inl (0, 8, [], [(0, ar_t32), (1, ar_t32)]))
def m3h9 : aw_H := [(81, m3x7), (83, m3x8)]
def m3x10 : aw_A := ms_o [(3, 8)] [(3, 3)] ar_t32 ar_t32 [(0, 180)] [(0, 60)] [(-1, 60)] [(0, 8)] [(0, 4)]
def m3x11 : aw_A := .inr (.inl (0, 8, [], [(0, ar_t32), (1, ar_t32), (2, ar_t32)]))
def m3h12 : aw_H := [(81, m3x10), (83, m3x11)]
def m3x13 : aw_A := ms_o [(4, 8)] [(3, 3)] ar_t32 ar_t32 [(0, 180)] [(0, 60)] [(-1, 60)] [(0, 8)] [(0, 4)]
def m3x14 : aw_A := .inr (.inl (0, 8, [], [(0, ar_t32), (1, ar_t32), (2, ar_t32), (3, ar_t32)]))
def m3h15 : aw_H := [(81, m3x13), (83, m3x14)]
def m3x16 : aw_A := ms_o [(5, 8)] [(3, 3)] ar_t32 ar_t32 [(0, 180)] [(0, 60)] [(-1, 60)] [(0, 8)] [(0, 4)]
def m3x17 : aw_A := .inr (.inl (0, 8, [], [(0, ar_t32), (1, ar_t32), (2, ar_t32), (3, ar_t32), (4, ar_t32)]))
def m3h18 : aw_H := [(81, m3x16), (83, m3x17)]
def m3x19 : aw_A := ms_o [(6, 8)] [(3, 3)] ar_t32 ar_t32 [(0, 180)] [(0, 60)] [(-1, 60)] [(0, 8)] [(0, 4)]
def m3x20 : aw_A := .inr (.inl (0, 8, [], [(0, ar_t32), (1, ar_t32), (2, ar_t32), (3, ar_t32), (4, ar_t32), (5, ar_t32)]))
def m3h21 : aw_H := [(81, m3x19), (83, m3x20)]
def m3x22 : aw_A := ms_o [(7, 8)] [(3, 3)] ar_t32 ar_t32 [(0, 180)] [(0, 60)] [(-1, 60)] [(0, 8)] [(0, 4)]
def m3x23 : aw_A := .inr (.inl (0, 8, [], [(0, ar_t32), (1, ar_t32), (2, ar_t32), (3, ar_t32), (4, ar_t32), (5, ar_t32), (6, ar_t32)]))
def m3h24 : aw_H := [(81, m3x22), (83, m3x23)]
def m3x25 : aw_A := ms_o [(8, 8)] [(3, 3)] ar_t32 ar_t32 [(0, 180)] [(0, 60)] [(-1, 60)] [(0, 8)] [(0, 4)]
def m3x26 : aw_A := .inr (.inl (0, 8, [], [(0, ar_t32), (1, ar_t32), (2, ar_t32), (3, ar_t32), (4, ar_t32), (5, ar_t32), (6, ar_t32), (7, ar_t32)]))
def m3h27 : aw_H := [(81, m3x25), (83, m3x26)]
theorem m3k7 : ai_chk [] m3c7 (fun pc => sm_ch sm_t146 pc, sm_Kn 3 3 none, fun x => sm_lk sm_ca3 x, some .int) [] 3 0 [4] [] 2000 [(4, [(0, .inl 81), (1, .inr (false, [(0, 0)])), (2, .inr (false, [(0, 0)]))], [], m3h5),
  (4, [(0, .inl 81), (1, .inr (false, [(0, 1)])), (2, .inr (false, [(1, 1)]))], [], m3h6),
  (4, [(0, .inl 81), (1, .inr (false, [(0, 2)])), (2, .inr (false, [(2, 2)]))], [], m3h9),
  (4, [(0, .inl 81), (1, .inr (false, [(0, 3)])), (2, .inr (false, [(3, 3)]))], [], m3h12),
  (4, [(0, .inl 81), (1, .inr (false, [(0, 4)])), (2, .inr (false, [(4, 4)]))], [], m3h15),
  (4, [(0, .inl 81), (1, .inr (false, [(0, 5)])), (2, .inr (false, [(5, 5)]))], [], m3h18),
  (4, [(0, .inl 81), (1, .inr (false, [(0, 6)])), (2, .inr (false, [(6, 6)]))], [], m3h21),
  (4, [(0, .inl 81), (1, .inr (false, [(0, 7)])), (2, .inr (false, [(7, 7)]))], [], m3h24),
  (4, [(0, .inl 81), (1, .inr (false, [(0, 8)])), (2, .inr (false, [(8, 8)]))], [], m3h27)] = true := by decide +kernel
/-- MiceRegistersModel.farOf -/
def m3h28 : aw_H := [(81, m3x0), (82, ms_r [(0, [(-1, 40)])])]
def m3c8 : ak_C := (137, [.inl 81, .inr (false, [(0, 0)]), .inr (false, [(0, 3)]), .inr (false, [(0, 7)])], m3h28, [], [([], some (.inr (false, [(0, 7)])), [])])
theorem m3k8 : ai_chk [] m3c8 (fun pc => sm_ch sm_t137 pc, sm_Kn 3 5 none, fun x => sm_lk sm_ca3 x, some .int) [] 5 0 [] [] 2000 [] = true := by decide +kernel
/-- MiceRegistersModel.likesBy -/
def m3c9 : ak_C := (138, [.inr (false, ar_t32), .inr (false, ar_t32), .inr (false, ar_t32), .inr (false, ar_t32)], [], [], [([], some (.inr (false, ar_t32)), [])])
theorem m3k9 : ai_chk [] m3c9 (fun pc => sm_ch sm_t138 pc, sm_Kn 3 4 none, fun x => sm_lk sm_ca3 x, some .int) [] 4 0 [] [] 2000 [] = true := by decide +kernel
/-- MiceRegistersModel.likesIn -/
def m3h29 : aw_H := [(81, m3x0), (82, ms_r [(0, [(-1, 40)])]), (83, .inr (.inl (0, 8, [], []))), (85, .inr (.inl (0, 4, [], [])))]
def m3c10 : ak_C := (136, [.inl 81, .inr (false, [(0, 0)]), .inr (false, [(0, 3)]), .inr (false, [(0, 7)])], m3h29, [], [([], some (.inr (false, ar_t32)), [])])
theorem m3k10 : ai_chk [m3c8, m3c9] m3c10 (fun pc => sm_ch sm_t136 pc, sm_Kn 3 4 none, fun x => sm_lk sm_ca3 x, some .int) [] 4 0 [] [] 2000 [] = true := by decide +kernel
/-- MiceRegistersModel.likedBy -/
def m3c11 : ak_C := (145, [.inl 81, .inr (false, [(0, 3)])], m3h29, [], [([], some (.inr (false, [(0, 8)])), [])])
def m3h30 : aw_H := [(81, m3x7), (82, ms_r [(0, [(-1, 40)])]), (83, .inr (.inl (0, 8, [], []))), (85, .inr (.inl (0, 4, [], [])))]
def m3h31 : aw_H := [(81, m3x10), (82, ms_r [(0, [(-1, 40)])]), (83, .inr (.inl (0, 8, [], []))), (85, .inr (.inl (0, 4, [], [])))]
def m3h32 : aw_H := [(81, m3x13), (82, ms_r [(0, [(-1, 40)])]), (83, .inr (.inl (0, 8, [], []))), (85, .inr (.inl (0, 4, [], [])))]
def m3h33 : aw_H := [(81, m3x16), (82, ms_r [(0, [(-1, 40)])]), (83, .inr (.inl (0, 8, [], []))), (85, .inr (.inl (0, 4, [], [])))]
def m3h34 : aw_H := [(81, m3x19), (82, ms_r [(0, [(-1, 40)])]), (83, .inr (.inl (0, 8, [], []))), (85, .inr (.inl (0, 4, [], [])))]
def m3h35 : aw_H := [(81, m3x22), (82, ms_r [(0, [(-1, 40)])]), (83, .inr (.inl (0, 8, [], []))), (85, .inr (.inl (0, 4, [], [])))]
def m3h36 : aw_H := [(81, m3x25), (82, ms_r [(0, [(-1, 40)])]), (83, .inr (.inl (0, 8, [], []))), (85, .inr (.inl (0, 4, [], [])))]
theorem m3k11 : ai_chk [m3c10] m3c11 (fun pc => sm_ch sm_t145 pc, sm_Kn 3 4 none, fun x => sm_lk sm_ca3 x, some .int) [] 4 0 [4] [] 2000 [(4, [(0, .inl 81), (1, .inr (false, [(0, 3)])), (2, .inr (false, [(0, 0)])), (3, .inr (false, [(0, 0)]))], [], m3h29),
  (4, [(0, .inl 81), (1, .inr (false, [(0, 3)])), (2, .inr (false, [(0, 1)])), (3, .inr (false, [(1, 1)]))], [], m3h29),
  (4, [(0, .inl 81), (1, .inr (false, [(0, 3)])), (2, .inr (false, [(0, 2)])), (3, .inr (false, [(2, 2)]))], [], m3h30),
  (4, [(0, .inl 81), (1, .inr (false, [(0, 3)])), (2, .inr (false, [(0, 3)])), (3, .inr (false, [(3, 3)]))], [], m3h31),
  (4, [(0, .inl 81), (1, .inr (false, [(0, 3)])), (2, .inr (false, [(0, 4)])), (3, .inr (false, [(4, 4)]))], [], m3h32),
  (4, [(0, .inl 81), (1, .inr (false, [(0, 3)])), (2, .inr (false, [(0, 5)])), (3, .inr (false, [(5, 5)]))], [], m3h33),
  (4, [(0, .inl 81), (1, .inr (false, [(0, 3)])), (2, .inr (false, [(0, 6)])), (3, .inr (false, [(6, 6)]))], [], m3h34),
  (4, [(0, .inl 81), (1, .inr (false, [(0, 3)])), (2, .inr (false, [(0, 7)])), (3, .inr (false, [(7, 7)]))], [], m3h35),
  (4, [(0, .inl 81), (1, .inr (false, [(0, 3)])), (2, .inr (false, [(0, 8)])), (3, .inr (false, [(8, 8)]))], [], m3h36)] = true := by decide +kernel
/-- MiceRegistersModel.cheeses -/
def m3c12 : ak_C := (147, [.inl 81], m3h28, [], [([], some (.inr (false, ar_t32)), [])])
theorem m3k12 : ai_chk [] m3c12 (fun pc => sm_ch sm_t147 pc, sm_Kn 3 3 none, fun x => sm_lk sm_ca3 x, some .int) [] 3 0 [4] [] 2000 [(4, [(0, .inl 81), (1, .inr (false, [(0, 0)])), (2, .inr (false, [(0, 0)]))], [], m3h28),
  (4, [(0, .inl 81), (1, .inr (false, ar_t32)), (2, .inr (false, [(1, 1)]))], [], m3h28),
  (4, [(0, .inl 81), (1, .inr (false, ar_t32)), (2, .inr (false, [(2, 2)]))], [], m3h28),
  (4, [(0, .inl 81), (1, .inr (false, ar_t32)), (2, .inr (false, [(3, 3)]))], [], m3h28),
  (4, [(0, .inl 81), (1, .inr (false, ar_t32)), (2, .inr (false, [(4, 4)]))], [], m3h28),
  (4, [(0, .inl 81), (1, .inr (false, ar_t32)), (2, .inr (false, [(5, 5)]))], [], m3h28),
  (4, [(0, .inl 81), (1, .inr (false, ar_t32)), (2, .inr (false, [(6, 6)]))], [], m3h28),
  (4, [(0, .inl 81), (1, .inr (false, ar_t32)), (2, .inr (false, [(7, 7)]))], [], m3h28),
  (4, [(0, .inl 81), (1, .inr (false, ar_t32)), (2, .inr (false, [(8, 8)]))], [], m3h28)] = true := by decide +kernel
def m3x37 : aw_A := ms_o [(1, 8)] [(3, 3)] ar_t32 [(1, 5)] [(0, 180)] [(0, 60)] [(-1, 60)] [(0, 8)] [(0, 4)]
def m3h38 : aw_H := [(81, m3x37), (91, .inr (.inl (0, 6, [], [])))]
/-- MiceRegistersModel.find -/
def m3h39 : aw_H := [(81, m3x0), (91, .inr (.inl (0, 6, [], [])))]
def m3c13 : ak_C := (106, [.inl 81, .inr (false, [(1, 5)])], m3h39, [81, 91], [([], some (.inr (false, [(-3, -3)])), m3h38)])
theorem m3k13 : ai_chk [] m3c13 (fun pc => sm_ch sm_t106 pc, sm_Kn 3 2 none, fun x => sm_lk sm_ca3 x, some .int) [81, 91] 2 0 [] [] 2000 [] = true := by decide +kernel
/-- MiceRegistersModel.mark -/
def m3h40 : aw_H := [(81, m3x0), (82, ms_r [(0, [(-1, 40)])]), (83, .inr (.inl (0, 8, [], []))), (85, .inr (.inl (0, 4, [], []))), (86, m3x3), (91, .inr (.inl (0, 6, [], [])))]
def m3c14 : ak_C := (143, [.inl 81, .inr (false, ar_t32), .inr (false, ar_t32)], m3h40, [81, 91], [([[], [], []], some (.inr (false, [(-1, -1)])), m3h39), ([[], [(0, 2)], [(1, 5)]], some (.inr (false, ar_t32)), m3h39), ([[], [(0, 2)], [(1, 5)]], some (.inr (false, [(-3, -3)])), m3h38)])
theorem m3k14 : ai_chk [m3c3, m3c4, m3c5, m3c6, m3c7, m3c11, m3c12, m3c13] m3c14 (fun pc => sm_ch sm_t143 pc, sm_Kn 3 3 none, fun x => sm_lk sm_ca3 x, some .int) [81, 91] 3 3 [] [] 2000 [] = true := by decide +kernel
/-- MiceRegistersModel.in -/
def m3c15 : ak_C := (105, [.inr (true, ar_t32), .inr (true, [(0, 0)]), .inr (true, [(0, 7)])], [], [], [([[(0, 7)], [], []], some (.inr (false, [(1, 1)])), []), ([[(-2147483648, -1), (1, 2147483647)], [], []], some (.inr (false, [(0, 0)])), [])])
theorem m3k15 : ai_chk [] m3c15 (fun pc => sm_ch sm_t105 pc, sm_Kn 3 6 none, fun x => sm_lk sm_ca3 x, some .boolean) [] 6 6 [] [] 2000 [] = true := by decide +kernel
/-- MiceRegistersModel.isLine -/
def m3c16 : ak_C := (131, [.inl 81, .inr (false, ar_t32)], m3h1, [], [([[], [(-2147483648, -1), (1, 2147483647)]], some (.inr (false, [(0, 0)])), []), ([[], [(0, 7)]], some (.inr (false, [(1, 1)])), [])])
theorem m3k16 : ai_chk [m3c15] m3c16 (fun pc => sm_ch sm_t131 pc, sm_Kn 3 2 none, fun x => sm_lk sm_ca3 x, some .boolean) [] 2 2 [] [] 2000 [] = true := by decide +kernel
/-- MiceRegistersModel.in -/
def m3c17 : ak_C := (105, [.inr (true, ar_t32), .inr (true, [(0, 0)]), .inr (true, [(12, 12)])], [], [], [([[(0, 12)], [], []], some (.inr (false, [(1, 1)])), []), ([[(-2147483648, -1), (13, 2147483647)], [], []], some (.inr (false, [(0, 0)])), [])])
theorem m3k17 : ai_chk [] m3c17 (fun pc => sm_ch sm_t105 pc, sm_Kn 3 6 none, fun x => sm_lk sm_ca3 x, some .boolean) [] 6 6 [] [] 2000 [] = true := by decide +kernel
/-- MiceRegistersModel.has -/
def m3c18 : ak_C := (135, [.inr (false, [(0, 0)]), .inr (false, [(0, 0)])], [], [], [([], some (.inr (false, [(0, 0)])), [])])
theorem m3k18 : ai_chk [] m3c18 (fun pc => sm_ch sm_t135 pc, sm_Kn 3 2 none, fun x => sm_lk sm_ca3 x, some .boolean) [] 2 0 [] [] 2000 [] = true := by decide +kernel
/-- MiceRegistersModel.has -/
def m3c19 : ak_C := (135, [.inr (false, [(0, 0)]), .inr (false, [(1, 1)])], [], [], [([], some (.inr (false, [(0, 0)])), [])])
theorem m3k19 : ai_chk [] m3c19 (fun pc => sm_ch sm_t135 pc, sm_Kn 3 2 none, fun x => sm_lk sm_ca3 x, some .boolean) [] 2 0 [] [] 2000 [] = true := by decide +kernel
/-- MiceRegistersModel.has -/
def m3c20 : ak_C := (135, [.inr (false, [(0, 0)]), .inr (false, [(2, 2)])], [], [], [([], some (.inr (false, [(0, 0)])), [])])
theorem m3k20 : ai_chk [] m3c20 (fun pc => sm_ch sm_t135 pc, sm_Kn 3 2 none, fun x => sm_lk sm_ca3 x, some .boolean) [] 2 0 [] [] 2000 [] = true := by decide +kernel
/-- MiceRegistersModel.chancesOf -/
def m3c21 : ak_C := (185, [.inl 81, .inr (false, [(0, 0)]), .inr (false, [(0, 11)])], m3h1, [], [([], some (.inr (true, [(1, 1728)])), [])])
theorem m3k21 : ai_chk [m3c18, m3c19, m3c20] m3c21 (fun pc => sm_ch sm_t185 pc, sm_Kn 3 6 none, fun x => sm_lk sm_ca3 x, some .long) [] 6 0 [5] [] 2000 [(5, [(0, .inl 81), (1, .inr (false, [(0, 0)])), (2, .inr (false, [(0, 11)])), (3, .inr (true, [(1, 1)])), (5, .inr (false, [(0, 0)]))], [], m3h1),
  (5, [(0, .inl 81), (1, .inr (false, [(0, 0)])), (2, .inr (false, [(0, 11)])), (3, .inr (true, [(1, 12)])), (5, .inr (false, [(1, 1)]))], [], m3h1),
  (5, [(0, .inl 81), (1, .inr (false, [(0, 0)])), (2, .inr (false, [(0, 11)])), (3, .inr (true, [(1, 144)])), (5, .inr (false, [(2, 2)]))], [], m3h1),
  (5, [(0, .inl 81), (1, .inr (false, [(0, 0)])), (2, .inr (false, [(0, 11)])), (3, .inr (true, [(1, 1728)])), (5, .inr (false, [(3, 3)]))], [], m3h1)] = true := by decide +kernel
/-- MiceRegistersModel.wants -/
def m3b26 : sm_P := (fun pc => sm_ch sm_t134 pc, sm_Kn 3 9 none, fun x => sm_lk sm_ca3 x, some .int)
/-- MiceRegistersModel.passes -/
def m3h58 : aw_H := [(81, m3x0), (82, ms_r [(0, [(-1, 40)])]), (83, .inr (.inl (0, 8, [], []))), (85, .inr (.inl (0, 4, [], []))), (86, m3x3)]
/-- MiceRegistersModel.has -/
def m3c28 : ak_C := (135, [.inr (false, [(1, 1)]), .inr (false, [(0, 0)])], [], [], [([], some (.inr (false, [(1, 1)])), [])])
theorem m3k28 : ai_chk [] m3c28 (fun pc => sm_ch sm_t135 pc, sm_Kn 3 2 none, fun x => sm_lk sm_ca3 x, some .boolean) [] 2 0 [] [] 2000 [] = true := by decide +kernel
/-- MiceRegistersModel.has -/
def m3c29 : ak_C := (135, [.inr (false, [(1, 1)]), .inr (false, [(1, 1)])], [], [], [([], some (.inr (false, [(0, 0)])), [])])
theorem m3k29 : ai_chk [] m3c29 (fun pc => sm_ch sm_t135 pc, sm_Kn 3 2 none, fun x => sm_lk sm_ca3 x, some .boolean) [] 2 0 [] [] 2000 [] = true := by decide +kernel
/-- MiceRegistersModel.has -/
def m3c30 : ak_C := (135, [.inr (false, [(1, 1)]), .inr (false, [(2, 2)])], [], [], [([], some (.inr (false, [(0, 0)])), [])])
theorem m3k30 : ai_chk [] m3c30 (fun pc => sm_ch sm_t135 pc, sm_Kn 3 2 none, fun x => sm_lk sm_ca3 x, some .boolean) [] 2 0 [] [] 2000 [] = true := by decide +kernel
/-- MiceRegistersModel.chancesOf -/
def m3c31 : ak_C := (185, [.inl 81, .inr (false, [(1, 1)]), .inr (false, [(0, 11)])], m3h1, [], [([], some (.inr (true, [(0, 1584)])), [])])
theorem m3k31 : ai_chk [m3c28, m3c29, m3c30] m3c31 (fun pc => sm_ch sm_t185 pc, sm_Kn 3 6 none, fun x => sm_lk sm_ca3 x, some .long) [] 6 0 [5] [] 2000 [(5, [(0, .inl 81), (1, .inr (false, [(1, 1)])), (2, .inr (false, [(0, 11)])), (3, .inr (true, [(1, 1)])), (5, .inr (false, [(0, 0)]))], [], m3h1),
  (5, [(0, .inl 81), (1, .inr (false, [(1, 1)])), (2, .inr (false, [(0, 11)])), (3, .inr (true, [(0, 11)])), (5, .inr (false, [(1, 1)]))], [], m3h1),
  (5, [(0, .inl 81), (1, .inr (false, [(1, 1)])), (2, .inr (false, [(0, 11)])), (3, .inr (true, [(0, 132)])), (5, .inr (false, [(2, 2)]))], [], m3h1),
  (5, [(0, .inl 81), (1, .inr (false, [(1, 1)])), (2, .inr (false, [(0, 11)])), (3, .inr (true, [(0, 1584)])), (5, .inr (false, [(3, 3)]))], [], m3h1)] = true := by decide +kernel
/-- MiceRegistersModel.has -/
def m3c32 : ak_C := (135, [.inr (false, [(2, 2)]), .inr (false, [(0, 0)])], [], [], [([], some (.inr (false, [(0, 0)])), [])])
theorem m3k32 : ai_chk [] m3c32 (fun pc => sm_ch sm_t135 pc, sm_Kn 3 2 none, fun x => sm_lk sm_ca3 x, some .boolean) [] 2 0 [] [] 2000 [] = true := by decide +kernel
/-- MiceRegistersModel.has -/
def m3c33 : ak_C := (135, [.inr (false, [(2, 2)]), .inr (false, [(1, 1)])], [], [], [([], some (.inr (false, [(1, 1)])), [])])
theorem m3k33 : ai_chk [] m3c33 (fun pc => sm_ch sm_t135 pc, sm_Kn 3 2 none, fun x => sm_lk sm_ca3 x, some .boolean) [] 2 0 [] [] 2000 [] = true := by decide +kernel
/-- MiceRegistersModel.has -/
def m3c34 : ak_C := (135, [.inr (false, [(2, 2)]), .inr (false, [(2, 2)])], [], [], [([], some (.inr (false, [(0, 0)])), [])])
theorem m3k34 : ai_chk [] m3c34 (fun pc => sm_ch sm_t135 pc, sm_Kn 3 2 none, fun x => sm_lk sm_ca3 x, some .boolean) [] 2 0 [] [] 2000 [] = true := by decide +kernel
/-- MiceRegistersModel.chancesOf -/
def m3c35 : ak_C := (185, [.inl 81, .inr (false, [(2, 2)]), .inr (false, [(0, 11)])], m3h1, [], [([], some (.inr (true, [(0, 1584)])), [])])
theorem m3k35 : ai_chk [m3c32, m3c33, m3c34] m3c35 (fun pc => sm_ch sm_t185 pc, sm_Kn 3 6 none, fun x => sm_lk sm_ca3 x, some .long) [] 6 0 [5] [] 2000 [(5, [(0, .inl 81), (1, .inr (false, [(2, 2)])), (2, .inr (false, [(0, 11)])), (3, .inr (true, [(1, 1)])), (5, .inr (false, [(0, 0)]))], [], m3h1),
  (5, [(0, .inl 81), (1, .inr (false, [(2, 2)])), (2, .inr (false, [(0, 11)])), (3, .inr (true, [(1, 12)])), (5, .inr (false, [(1, 1)]))], [], m3h1),
  (5, [(0, .inl 81), (1, .inr (false, [(2, 2)])), (2, .inr (false, [(0, 11)])), (3, .inr (true, [(0, 132)])), (5, .inr (false, [(2, 2)]))], [], m3h1),
  (5, [(0, .inl 81), (1, .inr (false, [(2, 2)])), (2, .inr (false, [(0, 11)])), (3, .inr (true, [(0, 1584)])), (5, .inr (false, [(3, 3)]))], [], m3h1)] = true := by decide +kernel
/-- MiceRegistersModel.has -/
def m3c36 : ak_C := (135, [.inr (false, [(3, 3)]), .inr (false, [(0, 0)])], [], [], [([], some (.inr (false, [(1, 1)])), [])])
theorem m3k36 : ai_chk [] m3c36 (fun pc => sm_ch sm_t135 pc, sm_Kn 3 2 none, fun x => sm_lk sm_ca3 x, some .boolean) [] 2 0 [] [] 2000 [] = true := by decide +kernel
/-- MiceRegistersModel.has -/
def m3c37 : ak_C := (135, [.inr (false, [(3, 3)]), .inr (false, [(1, 1)])], [], [], [([], some (.inr (false, [(1, 1)])), [])])
theorem m3k37 : ai_chk [] m3c37 (fun pc => sm_ch sm_t135 pc, sm_Kn 3 2 none, fun x => sm_lk sm_ca3 x, some .boolean) [] 2 0 [] [] 2000 [] = true := by decide +kernel
/-- MiceRegistersModel.has -/
def m3c38 : ak_C := (135, [.inr (false, [(3, 3)]), .inr (false, [(2, 2)])], [], [], [([], some (.inr (false, [(0, 0)])), [])])
theorem m3k38 : ai_chk [] m3c38 (fun pc => sm_ch sm_t135 pc, sm_Kn 3 2 none, fun x => sm_lk sm_ca3 x, some .boolean) [] 2 0 [] [] 2000 [] = true := by decide +kernel
/-- MiceRegistersModel.chancesOf -/
def m3c39 : ak_C := (185, [.inl 81, .inr (false, [(3, 3)]), .inr (false, [(0, 11)])], m3h1, [], [([], some (.inr (true, [(0, 1452)])), [])])
theorem m3k39 : ai_chk [m3c36, m3c37, m3c38] m3c39 (fun pc => sm_ch sm_t185 pc, sm_Kn 3 6 none, fun x => sm_lk sm_ca3 x, some .long) [] 6 0 [5] [] 2000 [(5, [(0, .inl 81), (1, .inr (false, [(3, 3)])), (2, .inr (false, [(0, 11)])), (3, .inr (true, [(1, 1)])), (5, .inr (false, [(0, 0)]))], [], m3h1),
  (5, [(0, .inl 81), (1, .inr (false, [(3, 3)])), (2, .inr (false, [(0, 11)])), (3, .inr (true, [(0, 11)])), (5, .inr (false, [(1, 1)]))], [], m3h1),
  (5, [(0, .inl 81), (1, .inr (false, [(3, 3)])), (2, .inr (false, [(0, 11)])), (3, .inr (true, [(0, 121)])), (5, .inr (false, [(2, 2)]))], [], m3h1),
  (5, [(0, .inl 81), (1, .inr (false, [(3, 3)])), (2, .inr (false, [(0, 11)])), (3, .inr (true, [(0, 1452)])), (5, .inr (false, [(3, 3)]))], [], m3h1)] = true := by decide +kernel
/-- MiceRegistersModel.has -/
def m3c40 : ak_C := (135, [.inr (false, [(4, 4)]), .inr (false, [(0, 0)])], [], [], [([], some (.inr (false, [(0, 0)])), [])])
theorem m3k40 : ai_chk [] m3c40 (fun pc => sm_ch sm_t135 pc, sm_Kn 3 2 none, fun x => sm_lk sm_ca3 x, some .boolean) [] 2 0 [] [] 2000 [] = true := by decide +kernel
/-- MiceRegistersModel.has -/
def m3c41 : ak_C := (135, [.inr (false, [(4, 4)]), .inr (false, [(1, 1)])], [], [], [([], some (.inr (false, [(0, 0)])), [])])
theorem m3k41 : ai_chk [] m3c41 (fun pc => sm_ch sm_t135 pc, sm_Kn 3 2 none, fun x => sm_lk sm_ca3 x, some .boolean) [] 2 0 [] [] 2000 [] = true := by decide +kernel
/-- MiceRegistersModel.has -/
def m3c42 : ak_C := (135, [.inr (false, [(4, 4)]), .inr (false, [(2, 2)])], [], [], [([], some (.inr (false, [(1, 1)])), [])])
theorem m3k42 : ai_chk [] m3c42 (fun pc => sm_ch sm_t135 pc, sm_Kn 3 2 none, fun x => sm_lk sm_ca3 x, some .boolean) [] 2 0 [] [] 2000 [] = true := by decide +kernel
/-- MiceRegistersModel.chancesOf -/
def m3c43 : ak_C := (185, [.inl 81, .inr (false, [(4, 4)]), .inr (false, [(0, 11)])], m3h1, [], [([], some (.inr (true, [(0, 1584)])), [])])
theorem m3k43 : ai_chk [m3c40, m3c41, m3c42] m3c43 (fun pc => sm_ch sm_t185 pc, sm_Kn 3 6 none, fun x => sm_lk sm_ca3 x, some .long) [] 6 0 [5] [] 2000 [(5, [(0, .inl 81), (1, .inr (false, [(4, 4)])), (2, .inr (false, [(0, 11)])), (3, .inr (true, [(1, 1)])), (5, .inr (false, [(0, 0)]))], [], m3h1),
  (5, [(0, .inl 81), (1, .inr (false, [(4, 4)])), (2, .inr (false, [(0, 11)])), (3, .inr (true, [(1, 12)])), (5, .inr (false, [(1, 1)]))], [], m3h1),
  (5, [(0, .inl 81), (1, .inr (false, [(4, 4)])), (2, .inr (false, [(0, 11)])), (3, .inr (true, [(1, 144)])), (5, .inr (false, [(2, 2)]))], [], m3h1),
  (5, [(0, .inl 81), (1, .inr (false, [(4, 4)])), (2, .inr (false, [(0, 11)])), (3, .inr (true, [(0, 1584)])), (5, .inr (false, [(3, 3)]))], [], m3h1)] = true := by decide +kernel
/-- MiceRegistersModel.has -/
def m3c44 : ak_C := (135, [.inr (false, [(5, 5)]), .inr (false, [(0, 0)])], [], [], [([], some (.inr (false, [(1, 1)])), [])])
theorem m3k44 : ai_chk [] m3c44 (fun pc => sm_ch sm_t135 pc, sm_Kn 3 2 none, fun x => sm_lk sm_ca3 x, some .boolean) [] 2 0 [] [] 2000 [] = true := by decide +kernel
/-- MiceRegistersModel.has -/
def m3c45 : ak_C := (135, [.inr (false, [(5, 5)]), .inr (false, [(1, 1)])], [], [], [([], some (.inr (false, [(0, 0)])), [])])
theorem m3k45 : ai_chk [] m3c45 (fun pc => sm_ch sm_t135 pc, sm_Kn 3 2 none, fun x => sm_lk sm_ca3 x, some .boolean) [] 2 0 [] [] 2000 [] = true := by decide +kernel
/-- MiceRegistersModel.has -/
def m3c46 : ak_C := (135, [.inr (false, [(5, 5)]), .inr (false, [(2, 2)])], [], [], [([], some (.inr (false, [(1, 1)])), [])])
theorem m3k46 : ai_chk [] m3c46 (fun pc => sm_ch sm_t135 pc, sm_Kn 3 2 none, fun x => sm_lk sm_ca3 x, some .boolean) [] 2 0 [] [] 2000 [] = true := by decide +kernel
/-- MiceRegistersModel.chancesOf -/
def m3c47 : ak_C := (185, [.inl 81, .inr (false, [(5, 5)]), .inr (false, [(0, 11)])], m3h1, [], [([], some (.inr (true, [(0, 1452)])), [])])
theorem m3k47 : ai_chk [m3c44, m3c45, m3c46] m3c47 (fun pc => sm_ch sm_t185 pc, sm_Kn 3 6 none, fun x => sm_lk sm_ca3 x, some .long) [] 6 0 [5] [] 2000 [(5, [(0, .inl 81), (1, .inr (false, [(5, 5)])), (2, .inr (false, [(0, 11)])), (3, .inr (true, [(1, 1)])), (5, .inr (false, [(0, 0)]))], [], m3h1),
  (5, [(0, .inl 81), (1, .inr (false, [(5, 5)])), (2, .inr (false, [(0, 11)])), (3, .inr (true, [(0, 11)])), (5, .inr (false, [(1, 1)]))], [], m3h1),
  (5, [(0, .inl 81), (1, .inr (false, [(5, 5)])), (2, .inr (false, [(0, 11)])), (3, .inr (true, [(0, 132)])), (5, .inr (false, [(2, 2)]))], [], m3h1),
  (5, [(0, .inl 81), (1, .inr (false, [(5, 5)])), (2, .inr (false, [(0, 11)])), (3, .inr (true, [(0, 1452)])), (5, .inr (false, [(3, 3)]))], [], m3h1)] = true := by decide +kernel
/-- MiceRegistersModel.has -/
def m3c48 : ak_C := (135, [.inr (false, [(6, 6)]), .inr (false, [(0, 0)])], [], [], [([], some (.inr (false, [(0, 0)])), [])])
theorem m3k48 : ai_chk [] m3c48 (fun pc => sm_ch sm_t135 pc, sm_Kn 3 2 none, fun x => sm_lk sm_ca3 x, some .boolean) [] 2 0 [] [] 2000 [] = true := by decide +kernel
/-- MiceRegistersModel.has -/
def m3c49 : ak_C := (135, [.inr (false, [(6, 6)]), .inr (false, [(1, 1)])], [], [], [([], some (.inr (false, [(1, 1)])), [])])
theorem m3k49 : ai_chk [] m3c49 (fun pc => sm_ch sm_t135 pc, sm_Kn 3 2 none, fun x => sm_lk sm_ca3 x, some .boolean) [] 2 0 [] [] 2000 [] = true := by decide +kernel
/-- MiceRegistersModel.has -/
def m3c50 : ak_C := (135, [.inr (false, [(6, 6)]), .inr (false, [(2, 2)])], [], [], [([], some (.inr (false, [(1, 1)])), [])])
theorem m3k50 : ai_chk [] m3c50 (fun pc => sm_ch sm_t135 pc, sm_Kn 3 2 none, fun x => sm_lk sm_ca3 x, some .boolean) [] 2 0 [] [] 2000 [] = true := by decide +kernel
/-- MiceRegistersModel.chancesOf -/
def m3c51 : ak_C := (185, [.inl 81, .inr (false, [(6, 6)]), .inr (false, [(0, 11)])], m3h1, [], [([], some (.inr (true, [(0, 1452)])), [])])
theorem m3k51 : ai_chk [m3c48, m3c49, m3c50] m3c51 (fun pc => sm_ch sm_t185 pc, sm_Kn 3 6 none, fun x => sm_lk sm_ca3 x, some .long) [] 6 0 [5] [] 2000 [(5, [(0, .inl 81), (1, .inr (false, [(6, 6)])), (2, .inr (false, [(0, 11)])), (3, .inr (true, [(1, 1)])), (5, .inr (false, [(0, 0)]))], [], m3h1),
  (5, [(0, .inl 81), (1, .inr (false, [(6, 6)])), (2, .inr (false, [(0, 11)])), (3, .inr (true, [(1, 12)])), (5, .inr (false, [(1, 1)]))], [], m3h1),
  (5, [(0, .inl 81), (1, .inr (false, [(6, 6)])), (2, .inr (false, [(0, 11)])), (3, .inr (true, [(0, 132)])), (5, .inr (false, [(2, 2)]))], [], m3h1),
  (5, [(0, .inl 81), (1, .inr (false, [(6, 6)])), (2, .inr (false, [(0, 11)])), (3, .inr (true, [(0, 1452)])), (5, .inr (false, [(3, 3)]))], [], m3h1)] = true := by decide +kernel
/-- MiceRegistersModel.has -/
def m3c52 : ak_C := (135, [.inr (false, [(7, 7)]), .inr (false, [(0, 0)])], [], [], [([], some (.inr (false, [(1, 1)])), [])])
theorem m3k52 : ai_chk [] m3c52 (fun pc => sm_ch sm_t135 pc, sm_Kn 3 2 none, fun x => sm_lk sm_ca3 x, some .boolean) [] 2 0 [] [] 2000 [] = true := by decide +kernel
/-- MiceRegistersModel.has -/
def m3c53 : ak_C := (135, [.inr (false, [(7, 7)]), .inr (false, [(1, 1)])], [], [], [([], some (.inr (false, [(1, 1)])), [])])
theorem m3k53 : ai_chk [] m3c53 (fun pc => sm_ch sm_t135 pc, sm_Kn 3 2 none, fun x => sm_lk sm_ca3 x, some .boolean) [] 2 0 [] [] 2000 [] = true := by decide +kernel
/-- MiceRegistersModel.has -/
def m3c54 : ak_C := (135, [.inr (false, [(7, 7)]), .inr (false, [(2, 2)])], [], [], [([], some (.inr (false, [(1, 1)])), [])])
theorem m3k54 : ai_chk [] m3c54 (fun pc => sm_ch sm_t135 pc, sm_Kn 3 2 none, fun x => sm_lk sm_ca3 x, some .boolean) [] 2 0 [] [] 2000 [] = true := by decide +kernel
/-- MiceRegistersModel.chancesOf -/
def m3c55 : ak_C := (185, [.inl 81, .inr (false, [(7, 7)]), .inr (false, [(0, 11)])], m3h1, [], [([], some (.inr (true, [(0, 1331)])), [])])
theorem m3k55 : ai_chk [m3c52, m3c53, m3c54] m3c55 (fun pc => sm_ch sm_t185 pc, sm_Kn 3 6 none, fun x => sm_lk sm_ca3 x, some .long) [] 6 0 [5] [] 2000 [(5, [(0, .inl 81), (1, .inr (false, [(7, 7)])), (2, .inr (false, [(0, 11)])), (3, .inr (true, [(1, 1)])), (5, .inr (false, [(0, 0)]))], [], m3h1),
  (5, [(0, .inl 81), (1, .inr (false, [(7, 7)])), (2, .inr (false, [(0, 11)])), (3, .inr (true, [(0, 11)])), (5, .inr (false, [(1, 1)]))], [], m3h1),
  (5, [(0, .inl 81), (1, .inr (false, [(7, 7)])), (2, .inr (false, [(0, 11)])), (3, .inr (true, [(0, 121)])), (5, .inr (false, [(2, 2)]))], [], m3h1),
  (5, [(0, .inl 81), (1, .inr (false, [(7, 7)])), (2, .inr (false, [(0, 11)])), (3, .inr (true, [(0, 1331)])), (5, .inr (false, [(3, 3)]))], [], m3h1)] = true := by decide +kernel
/-- MiceRegistersModel.tellParts -/
def m3c56 : ak_C := (186, [.inl 81, .inr (true, [(-72057594037927936, 72057594037927936)]), .inr (true, [(1, 1099511627776)])], m3h1, [81], [([], none, m3h1)])
/-- MiceRegistersModel.chancesOf -/
def m3c57 : ak_C := (185, [.inl 81, .inr (false, [(0, 0)]), .inr (false, [(12, 12)])], m3h1, [], [([], some (.inr (true, [(0, 0)])), [])])
theorem m3k57 : ai_chk [m3c18, m3c19, m3c20] m3c57 (fun pc => sm_ch sm_t185 pc, sm_Kn 3 6 none, fun x => sm_lk sm_ca3 x, some .long) [] 6 0 [5] [] 2000 [(5, [(0, .inl 81), (1, .inr (false, [(0, 0)])), (2, .inr (false, [(12, 12)])), (3, .inr (true, [(1, 1)])), (5, .inr (false, [(0, 0)]))], [], m3h1),
  (5, [(0, .inl 81), (1, .inr (false, [(0, 0)])), (2, .inr (false, [(12, 12)])), (3, .inr (true, [(0, 0)])), (5, .inr (false, [(1, 1)]))], [], m3h1),
  (5, [(0, .inl 81), (1, .inr (false, [(0, 0)])), (2, .inr (false, [(12, 12)])), (3, .inr (true, [(0, 0)])), (5, .inr (false, [(2, 2)]))], [], m3h1),
  (5, [(0, .inl 81), (1, .inr (false, [(0, 0)])), (2, .inr (false, [(12, 12)])), (3, .inr (true, [(0, 0)])), (5, .inr (false, [(3, 3)]))], [], m3h1)] = true := by decide +kernel
/-- MiceRegistersModel.chancesOf -/
def m3c58 : ak_C := (185, [.inl 81, .inr (false, [(1, 1)]), .inr (false, [(12, 12)])], m3h1, [], [([], some (.inr (true, [(0, 0)])), [])])
theorem m3k58 : ai_chk [m3c28, m3c29, m3c30] m3c58 (fun pc => sm_ch sm_t185 pc, sm_Kn 3 6 none, fun x => sm_lk sm_ca3 x, some .long) [] 6 0 [5] [] 2000 [(5, [(0, .inl 81), (1, .inr (false, [(1, 1)])), (2, .inr (false, [(12, 12)])), (3, .inr (true, [(1, 1)])), (5, .inr (false, [(0, 0)]))], [], m3h1),
  (5, [(0, .inl 81), (1, .inr (false, [(1, 1)])), (2, .inr (false, [(12, 12)])), (3, .inr (true, [(12, 12)])), (5, .inr (false, [(1, 1)]))], [], m3h1),
  (5, [(0, .inl 81), (1, .inr (false, [(1, 1)])), (2, .inr (false, [(12, 12)])), (3, .inr (true, [(0, 0)])), (5, .inr (false, [(2, 2)]))], [], m3h1),
  (5, [(0, .inl 81), (1, .inr (false, [(1, 1)])), (2, .inr (false, [(12, 12)])), (3, .inr (true, [(0, 0)])), (5, .inr (false, [(3, 3)]))], [], m3h1)] = true := by decide +kernel
/-- MiceRegistersModel.chancesOf -/
def m3c59 : ak_C := (185, [.inl 81, .inr (false, [(2, 2)]), .inr (false, [(12, 12)])], m3h1, [], [([], some (.inr (true, [(0, 0)])), [])])
theorem m3k59 : ai_chk [m3c32, m3c33, m3c34] m3c59 (fun pc => sm_ch sm_t185 pc, sm_Kn 3 6 none, fun x => sm_lk sm_ca3 x, some .long) [] 6 0 [5] [] 2000 [(5, [(0, .inl 81), (1, .inr (false, [(2, 2)])), (2, .inr (false, [(12, 12)])), (3, .inr (true, [(1, 1)])), (5, .inr (false, [(0, 0)]))], [], m3h1),
  (5, [(0, .inl 81), (1, .inr (false, [(2, 2)])), (2, .inr (false, [(12, 12)])), (3, .inr (true, [(0, 0)])), (5, .inr (false, [(1, 1)]))], [], m3h1),
  (5, [(0, .inl 81), (1, .inr (false, [(2, 2)])), (2, .inr (false, [(12, 12)])), (3, .inr (true, [(0, 0)])), (5, .inr (false, [(2, 2)]))], [], m3h1),
  (5, [(0, .inl 81), (1, .inr (false, [(2, 2)])), (2, .inr (false, [(12, 12)])), (3, .inr (true, [(0, 0)])), (5, .inr (false, [(3, 3)]))], [], m3h1)] = true := by decide +kernel
/-- MiceRegistersModel.chancesOf -/
def m3c60 : ak_C := (185, [.inl 81, .inr (false, [(3, 3)]), .inr (false, [(12, 12)])], m3h1, [], [([], some (.inr (true, [(0, 0)])), [])])
theorem m3k60 : ai_chk [m3c36, m3c37, m3c38] m3c60 (fun pc => sm_ch sm_t185 pc, sm_Kn 3 6 none, fun x => sm_lk sm_ca3 x, some .long) [] 6 0 [5] [] 2000 [(5, [(0, .inl 81), (1, .inr (false, [(3, 3)])), (2, .inr (false, [(12, 12)])), (3, .inr (true, [(1, 1)])), (5, .inr (false, [(0, 0)]))], [], m3h1),
  (5, [(0, .inl 81), (1, .inr (false, [(3, 3)])), (2, .inr (false, [(12, 12)])), (3, .inr (true, [(12, 12)])), (5, .inr (false, [(1, 1)]))], [], m3h1),
  (5, [(0, .inl 81), (1, .inr (false, [(3, 3)])), (2, .inr (false, [(12, 12)])), (3, .inr (true, [(144, 144)])), (5, .inr (false, [(2, 2)]))], [], m3h1),
  (5, [(0, .inl 81), (1, .inr (false, [(3, 3)])), (2, .inr (false, [(12, 12)])), (3, .inr (true, [(0, 0)])), (5, .inr (false, [(3, 3)]))], [], m3h1)] = true := by decide +kernel
/-- MiceRegistersModel.chancesOf -/
def m3c61 : ak_C := (185, [.inl 81, .inr (false, [(4, 4)]), .inr (false, [(12, 12)])], m3h1, [], [([], some (.inr (true, [(0, 0)])), [])])
theorem m3k61 : ai_chk [m3c40, m3c41, m3c42] m3c61 (fun pc => sm_ch sm_t185 pc, sm_Kn 3 6 none, fun x => sm_lk sm_ca3 x, some .long) [] 6 0 [5] [] 2000 [(5, [(0, .inl 81), (1, .inr (false, [(4, 4)])), (2, .inr (false, [(12, 12)])), (3, .inr (true, [(1, 1)])), (5, .inr (false, [(0, 0)]))], [], m3h1),
  (5, [(0, .inl 81), (1, .inr (false, [(4, 4)])), (2, .inr (false, [(12, 12)])), (3, .inr (true, [(0, 0)])), (5, .inr (false, [(1, 1)]))], [], m3h1),
  (5, [(0, .inl 81), (1, .inr (false, [(4, 4)])), (2, .inr (false, [(12, 12)])), (3, .inr (true, [(0, 0)])), (5, .inr (false, [(2, 2)]))], [], m3h1),
  (5, [(0, .inl 81), (1, .inr (false, [(4, 4)])), (2, .inr (false, [(12, 12)])), (3, .inr (true, [(0, 0)])), (5, .inr (false, [(3, 3)]))], [], m3h1)] = true := by decide +kernel
/-- MiceRegistersModel.chancesOf -/
def m3c62 : ak_C := (185, [.inl 81, .inr (false, [(5, 5)]), .inr (false, [(12, 12)])], m3h1, [], [([], some (.inr (true, [(0, 0)])), [])])
theorem m3k62 : ai_chk [m3c44, m3c45, m3c46] m3c62 (fun pc => sm_ch sm_t185 pc, sm_Kn 3 6 none, fun x => sm_lk sm_ca3 x, some .long) [] 6 0 [5] [] 2000 [(5, [(0, .inl 81), (1, .inr (false, [(5, 5)])), (2, .inr (false, [(12, 12)])), (3, .inr (true, [(1, 1)])), (5, .inr (false, [(0, 0)]))], [], m3h1),
  (5, [(0, .inl 81), (1, .inr (false, [(5, 5)])), (2, .inr (false, [(12, 12)])), (3, .inr (true, [(12, 12)])), (5, .inr (false, [(1, 1)]))], [], m3h1),
  (5, [(0, .inl 81), (1, .inr (false, [(5, 5)])), (2, .inr (false, [(12, 12)])), (3, .inr (true, [(0, 0)])), (5, .inr (false, [(2, 2)]))], [], m3h1),
  (5, [(0, .inl 81), (1, .inr (false, [(5, 5)])), (2, .inr (false, [(12, 12)])), (3, .inr (true, [(0, 0)])), (5, .inr (false, [(3, 3)]))], [], m3h1)] = true := by decide +kernel
/-- MiceRegistersModel.chancesOf -/
def m3c63 : ak_C := (185, [.inl 81, .inr (false, [(6, 6)]), .inr (false, [(12, 12)])], m3h1, [], [([], some (.inr (true, [(0, 0)])), [])])
theorem m3k63 : ai_chk [m3c48, m3c49, m3c50] m3c63 (fun pc => sm_ch sm_t185 pc, sm_Kn 3 6 none, fun x => sm_lk sm_ca3 x, some .long) [] 6 0 [5] [] 2000 [(5, [(0, .inl 81), (1, .inr (false, [(6, 6)])), (2, .inr (false, [(12, 12)])), (3, .inr (true, [(1, 1)])), (5, .inr (false, [(0, 0)]))], [], m3h1),
  (5, [(0, .inl 81), (1, .inr (false, [(6, 6)])), (2, .inr (false, [(12, 12)])), (3, .inr (true, [(0, 0)])), (5, .inr (false, [(1, 1)]))], [], m3h1),
  (5, [(0, .inl 81), (1, .inr (false, [(6, 6)])), (2, .inr (false, [(12, 12)])), (3, .inr (true, [(0, 0)])), (5, .inr (false, [(2, 2)]))], [], m3h1),
  (5, [(0, .inl 81), (1, .inr (false, [(6, 6)])), (2, .inr (false, [(12, 12)])), (3, .inr (true, [(0, 0)])), (5, .inr (false, [(3, 3)]))], [], m3h1)] = true := by decide +kernel
/-- MiceRegistersModel.chancesOf -/
def m3c64 : ak_C := (185, [.inl 81, .inr (false, [(7, 7)]), .inr (false, [(12, 12)])], m3h1, [], [([], some (.inr (true, [(1728, 1728)])), [])])
theorem m3k64 : ai_chk [m3c52, m3c53, m3c54] m3c64 (fun pc => sm_ch sm_t185 pc, sm_Kn 3 6 none, fun x => sm_lk sm_ca3 x, some .long) [] 6 0 [5] [] 2000 [(5, [(0, .inl 81), (1, .inr (false, [(7, 7)])), (2, .inr (false, [(12, 12)])), (3, .inr (true, [(1, 1)])), (5, .inr (false, [(0, 0)]))], [], m3h1),
  (5, [(0, .inl 81), (1, .inr (false, [(7, 7)])), (2, .inr (false, [(12, 12)])), (3, .inr (true, [(12, 12)])), (5, .inr (false, [(1, 1)]))], [], m3h1),
  (5, [(0, .inl 81), (1, .inr (false, [(7, 7)])), (2, .inr (false, [(12, 12)])), (3, .inr (true, [(144, 144)])), (5, .inr (false, [(2, 2)]))], [], m3h1),
  (5, [(0, .inl 81), (1, .inr (false, [(7, 7)])), (2, .inr (false, [(12, 12)])), (3, .inr (true, [(1728, 1728)])), (5, .inr (false, [(3, 3)]))], [], m3h1)] = true := by decide +kernel
def m3h74 : aw_H := [(81, m3x0), (82, ms_r [(0, [(-1, 40)]), (3788, ar_t32)])]
/-- MiceRegistersModel.odds -/
def m3c65 : ak_C := (184, [.inl 81, .inr (false, ar_t32), .inr (false, ar_t32)], m3h58, [81, 82], [([[], [], []], some (.inr (false, [(-1, -1)])), m3h28), ([[], [(0, 7)], [(0, 12)]], some (.inr (false, [(1, 1)])), m3h74)])
def czm3s65x0 : aw_A := ms_o [(1, 8)] [(3, 3)] ar_t32 ar_t32 [(0, 180)] [(0, 60)] [(-1, 60)] [(0, 8)] [(0, 4)]
def czm3s65x1 : aw_A := .inr (.inl (0, 4, [(0, 2, [(1, 9)])], []))
def czm3s65h2 : aw_H := [(81, czm3s65x0), (82, ms_r [(0, [(-1, 40)])]), (83, .inr (.inl (0, 8, [], []))), (85, .inr (.inl (0, 4, [], []))), (86, czm3s65x1)]
set_option maxRecDepth 100000 in
theorem m3k65 : ai_ch2 [m3c16, m3c17, m3c21, mgc6368, mgc6372, m3c31, m3c35, m3c39, m3c43, m3c47, m3c51, m3c55, m3c56, m3c57, m3c58, m3c59, m3c60, m3c61, m3c62, m3c63, m3c64] m3c65 (fun pc => sm_ch sm_t184 pc, sm_Kn 3 10 none, fun x => sm_lk sm_ca3 x, some .int) [81, 82] 10 3 [30] [(22, some (0, 2, 0), 12, 1)] 2000 [.inl (30, [(0, .inl 81), (1, .inr (false, [(0, 7)])), (2, .inr (false, [(0, 11)])), (3, .inr (true, [(0, 0)])), (5, .inr (true, [(0, 0)])), (7, .inr (false, [(0, 0)]))], [], czm3s65h2),
  .inl (30, [(0, .inl 81), (1, .inr (false, [(0, 7)])), (2, .inr (false, [(0, 11)])), (3, .inr (true, [(0, 1728)])), (5, .inr (true, [(1, 1728)])), (7, .inr (false, [(1, 1)])), (8, .inr (true, [(1, 1728)]))], [], czm3s65h2),
  .inl (30, [(0, .inl 81), (1, .inr (false, [(0, 7)])), (2, .inr (false, [(0, 11)])), (3, .inr (true, [(0, 3312)])), (5, .inr (true, [(1, 3312)])), (7, .inr (false, [(2, 2)])), (8, .inr (true, [(0, 1584)]))], [], czm3s65h2),
  .inl (30, [(0, .inl 81), (1, .inr (false, [(0, 7)])), (2, .inr (false, [(0, 11)])), (3, .inr (true, [(0, 4896)])), (5, .inr (true, [(1, 4896)])), (7, .inr (false, [(3, 3)])), (8, .inr (true, [(0, 1584)]))], [], czm3s65h2),
  .inl (30, [(0, .inl 81), (1, .inr (false, [(0, 7)])), (2, .inr (false, [(0, 11)])), (3, .inr (true, [(0, 6348)])), (5, .inr (true, [(1, 6348)])), (7, .inr (false, [(4, 4)])), (8, .inr (true, [(0, 1452)]))], [], czm3s65h2),
  .inl (30, [(0, .inl 81), (1, .inr (false, [(0, 7)])), (2, .inr (false, [(0, 11)])), (3, .inr (true, [(0, 7932)])), (5, .inr (true, [(1, 7932)])), (7, .inr (false, [(5, 5)])), (8, .inr (true, [(0, 1584)]))], [], czm3s65h2),
  .inl (30, [(0, .inl 81), (1, .inr (false, [(0, 7)])), (2, .inr (false, [(0, 11)])), (3, .inr (true, [(0, 9384)])), (5, .inr (true, [(1, 9384)])), (7, .inr (false, [(6, 6)])), (8, .inr (true, [(0, 1452)]))], [], czm3s65h2),
  .inl (30, [(0, .inl 81), (1, .inr (false, [(0, 7)])), (2, .inr (false, [(0, 11)])), (3, .inr (true, [(0, 10836)])), (5, .inr (true, [(1, 10836)])), (7, .inr (false, [(7, 7)])), (8, .inr (true, [(0, 1452)]))], [], czm3s65h2),
  .inl (30, [(0, .inl 81), (1, .inr (false, [(0, 7)])), (2, .inr (false, [(0, 11)])), (3, .inr (true, [(0, 12167)])), (5, .inr (true, [(1, 12167)])), (7, .inr (false, [(8, 8)])), (8, .inr (true, [(0, 1331)]))], [], czm3s65h2),
  .inl (30, [(0, .inl 81), (1, .inr (false, [(0, 7)])), (2, .inr (false, [(12, 12)])), (3, .inr (true, [(0, 0)])), (5, .inr (true, [(0, 0)])), (7, .inr (false, [(0, 0)]))], [], czm3s65h2),
  .inl (30, [(0, .inl 81), (1, .inr (false, [(0, 7)])), (2, .inr (false, [(12, 12)])), (3, .inr (true, [(0, 0)])), (5, .inr (true, [(0, 0)])), (7, .inr (false, [(1, 1)])), (8, .inr (true, [(0, 0)]))], [], czm3s65h2),
  .inl (30, [(0, .inl 81), (1, .inr (false, [(0, 7)])), (2, .inr (false, [(12, 12)])), (3, .inr (true, [(0, 0)])), (5, .inr (true, [(0, 0)])), (7, .inr (false, [(2, 2)])), (8, .inr (true, [(0, 0)]))], [], czm3s65h2),
  .inl (30, [(0, .inl 81), (1, .inr (false, [(0, 7)])), (2, .inr (false, [(12, 12)])), (3, .inr (true, [(0, 0)])), (5, .inr (true, [(0, 0)])), (7, .inr (false, [(3, 3)])), (8, .inr (true, [(0, 0)]))], [], czm3s65h2),
  .inl (30, [(0, .inl 81), (1, .inr (false, [(0, 7)])), (2, .inr (false, [(12, 12)])), (3, .inr (true, [(0, 0)])), (5, .inr (true, [(0, 0)])), (7, .inr (false, [(4, 4)])), (8, .inr (true, [(0, 0)]))], [], czm3s65h2),
  .inl (30, [(0, .inl 81), (1, .inr (false, [(0, 7)])), (2, .inr (false, [(12, 12)])), (3, .inr (true, [(0, 0)])), (5, .inr (true, [(0, 0)])), (7, .inr (false, [(5, 5)])), (8, .inr (true, [(0, 0)]))], [], czm3s65h2),
  .inl (30, [(0, .inl 81), (1, .inr (false, [(0, 7)])), (2, .inr (false, [(12, 12)])), (3, .inr (true, [(0, 0)])), (5, .inr (true, [(0, 0)])), (7, .inr (false, [(6, 6)])), (8, .inr (true, [(0, 0)]))], [], czm3s65h2),
  .inl (30, [(0, .inl 81), (1, .inr (false, [(0, 7)])), (2, .inr (false, [(12, 12)])), (3, .inr (true, [(0, 0)])), (5, .inr (true, [(0, 0)])), (7, .inr (false, [(7, 7)])), (8, .inr (true, [(0, 0)]))], [], czm3s65h2),
  .inl (30, [(0, .inl 81), (1, .inr (false, [(0, 7)])), (2, .inr (false, [(12, 12)])), (3, .inr (true, [(0, 0), (1728, 1728)])), (5, .inr (true, [(1728, 1728)])), (7, .inr (false, [(8, 8)])), (8, .inr (true, [(1728, 1728)]))], [], czm3s65h2)] = true := by decide +kernel

