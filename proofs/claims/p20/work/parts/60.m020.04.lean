/-- MiceRegistersModel.chancesOf -/
def m1c27 : ak_C := (185, [.inl 81, .inr (false, [(1, 1)]), .inr (false, [(0, 11)])], m1h1, [], [([], some (.inr (true, [(0, 11)])), [])])
theorem m1k27 : ai_chk [m1c26] m1c27 (fun pc => sm_ch sm_t185 pc, sm_Kn 3 6 none, fun x => sm_lk sm_ca3 x, some .long) [] 6 0 [5] [] 2000 [(5, [(0, .inl 81), (1, .inr (false, [(1, 1)])), (2, .inr (false, [(0, 11)])), (3, .inr (true, [(1, 1)])), (5, .inr (false, [(0, 0)]))], [], m1h1),
  (5, [(0, .inl 81), (1, .inr (false, [(1, 1)])), (2, .inr (false, [(0, 11)])), (3, .inr (true, [(0, 11)])), (5, .inr (false, [(1, 1)]))], [], m1h1)] = true := by decide +kernel
/-- MiceRegistersModel.tellParts -/
def m1c28 : ak_C := (186, [.inl 81, .inr (true, [(-72057594037927936, 72057594037927936)]), .inr (true, [(1, 1099511627776)])], m1h1, [81], [([], none, m1h1)])
/-- MiceRegistersModel.chancesOf -/
def m1c29 : ak_C := (185, [.inl 81, .inr (false, [(0, 0)]), .inr (false, [(12, 12)])], m1h1, [], [([], some (.inr (true, [(0, 0)])), [])])
theorem m1k29 : ai_chk [m1c18] m1c29 (fun pc => sm_ch sm_t185 pc, sm_Kn 3 6 none, fun x => sm_lk sm_ca3 x, some .long) [] 6 0 [5] [] 2000 [(5, [(0, .inl 81), (1, .inr (false, [(0, 0)])), (2, .inr (false, [(12, 12)])), (3, .inr (true, [(1, 1)])), (5, .inr (false, [(0, 0)]))], [], m1h1),
  (5, [(0, .inl 81), (1, .inr (false, [(0, 0)])), (2, .inr (false, [(12, 12)])), (3, .inr (true, [(0, 0)])), (5, .inr (false, [(1, 1)]))], [], m1h1)] = true := by decide +kernel
/-- MiceRegistersModel.chancesOf -/
def m1c30 : ak_C := (185, [.inl 81, .inr (false, [(1, 1)]), .inr (false, [(12, 12)])], m1h1, [], [([], some (.inr (true, [(12, 12)])), [])])
theorem m1k30 : ai_chk [m1c26] m1c30 (fun pc => sm_ch sm_t185 pc, sm_Kn 3 6 none, fun x => sm_lk sm_ca3 x, some .long) [] 6 0 [5] [] 2000 [(5, [(0, .inl 81), (1, .inr (false, [(1, 1)])), (2, .inr (false, [(12, 12)])), (3, .inr (true, [(1, 1)])), (5, .inr (false, [(0, 0)]))], [], m1h1),
  (5, [(0, .inl 81), (1, .inr (false, [(1, 1)])), (2, .inr (false, [(12, 12)])), (3, .inr (true, [(12, 12)])), (5, .inr (false, [(1, 1)]))], [], m1h1)] = true := by decide +kernel
def m1h74 : aw_H := [(81, m1x0), (82, ms_r [(0, [(-1, 40)]), (3788, ar_t32)])]
/-- MiceRegistersModel.odds -/
def m1c31 : ak_C := (184, [.inl 81, .inr (false, ar_t32), .inr (false, ar_t32)], m1h58, [81, 82], [([[], [], []], some (.inr (false, [(-1, -1)])), m1h28), ([[], [(0, 7)], [(0, 12)]], some (.inr (false, [(1, 1)])), m1h74)])
def czm1s31x0 : aw_A := ms_o [(1, 8)] [(1, 1)] ar_t32 ar_t32 [(0, 180)] [(0, 60)] [(-1, 60)] [(0, 8)] [(0, 4)]
def czm1s31x1 : aw_A := .inr (.inl (0, 4, [(0, 0, [(1, 9)])], []))
def czm1s31h2 : aw_H := [(81, czm1s31x0), (82, ms_r [(0, [(-1, 40)])]), (83, .inr (.inl (0, 8, [], []))), (85, .inr (.inl (0, 4, [], []))), (86, czm1s31x1)]
set_option maxRecDepth 100000 in
theorem m1k31 : ai_ch2 [m1c16, m1c17, m1c19, mgc6368, mgc6372, m1c27, m1c28, m1c29, m1c30] m1c31 (fun pc => sm_ch sm_t184 pc, sm_Kn 3 10 none, fun x => sm_lk sm_ca3 x, some .int) [81, 82] 10 3 [30] [(22, some (0, 2, 0), 12, 1)] 2000 [.inl (30, [(0, .inl 81), (1, .inr (false, [(0, 7)])), (2, .inr (false, [(0, 11)])), (3, .inr (true, [(0, 0)])), (5, .inr (true, [(0, 0)])), (7, .inr (false, [(0, 0)]))], [], czm1s31h2),
  .inl (30, [(0, .inl 81), (1, .inr (false, [(0, 7)])), (2, .inr (false, [(0, 11)])), (3, .inr (true, [(0, 12)])), (5, .inr (true, [(1, 12)])), (7, .inr (false, [(1, 1)])), (8, .inr (true, [(1, 12)]))], [], czm1s31h2),
  .inl (30, [(0, .inl 81), (1, .inr (false, [(0, 7)])), (2, .inr (false, [(0, 11)])), (3, .inr (true, [(0, 23)])), (5, .inr (true, [(1, 23)])), (7, .inr (false, [(2, 2)])), (8, .inr (true, [(0, 11)]))], [], czm1s31h2),
  .inl (30, [(0, .inl 81), (1, .inr (false, [(0, 7)])), (2, .inr (false, [(12, 12)])), (3, .inr (true, [(0, 0)])), (5, .inr (true, [(0, 0)])), (7, .inr (false, [(0, 0)]))], [], czm1s31h2),
  .inl (30, [(0, .inl 81), (1, .inr (false, [(0, 7)])), (2, .inr (false, [(12, 12)])), (3, .inr (true, [(0, 0)])), (5, .inr (true, [(0, 0)])), (7, .inr (false, [(1, 1)])), (8, .inr (true, [(0, 0)]))], [], czm1s31h2),
  .inl (30, [(0, .inl 81), (1, .inr (false, [(0, 7)])), (2, .inr (false, [(12, 12)])), (3, .inr (true, [(0, 0), (12, 12)])), (5, .inr (true, [(12, 12)])), (7, .inr (false, [(2, 2)])), (8, .inr (true, [(12, 12)]))], [], czm1s31h2)] = true := by decide +kernel
/-- MiceRegistersModel.leftIn -/
def m1c32 : ak_C := (168, [.inl 81, .inr (false, [(3776, 3776)])], m1h28, [], [([], some (.inr (false, ar_t32)), [])])
def m1h76 : aw_H := [(81, m1x7), (82, ms_r [(0, [(-1, 40)])])]
def m1h77 : aw_H := [(81, m1x10), (82, ms_r [(0, [(-1, 40)])])]
def m1h78 : aw_H := [(81, m1x13), (82, ms_r [(0, [(-1, 40)])])]
def m1h79 : aw_H := [(81, m1x16), (82, ms_r [(0, [(-1, 40)])])]
def m1h80 : aw_H := [(81, m1x19), (82, ms_r [(0, [(-1, 40)])])]
def m1h81 : aw_H := [(81, m1x22), (82, ms_r [(0, [(-1, 40)])])]
def m1h82 : aw_H := [(81, m1x25), (82, ms_r [(0, [(-1, 40)])])]
theorem m1k32 : ai_chk [] m1c32 (fun pc => sm_ch sm_t168 pc, sm_Kn 3 4 none, fun x => sm_lk sm_ca3 x, some .int) [] 4 0 [4] [] 2000 [(4, [(0, .inl 81), (1, .inr (false, [(3776, 3776)])), (2, .inr (false, [(0, 0)])), (3, .inr (false, [(0, 0)]))], [], m1h28),
  (4, [(0, .inl 81), (1, .inr (false, [(3776, 3776)])), (2, .inr (false, ar_t32)), (3, .inr (false, [(1, 1)]))], [], m1h28),
  (4, [(0, .inl 81), (1, .inr (false, [(3776, 3776)])), (2, .inr (false, ar_t32)), (3, .inr (false, [(2, 2)]))], [], m1h76),
  (4, [(0, .inl 81), (1, .inr (false, [(3776, 3776)])), (2, .inr (false, ar_t32)), (3, .inr (false, [(3, 3)]))], [], m1h77),
  (4, [(0, .inl 81), (1, .inr (false, [(3776, 3776)])), (2, .inr (false, ar_t32)), (3, .inr (false, [(4, 4)]))], [], m1h78),
  (4, [(0, .inl 81), (1, .inr (false, [(3776, 3776)])), (2, .inr (false, ar_t32)), (3, .inr (false, [(5, 5)]))], [], m1h79),
  (4, [(0, .inl 81), (1, .inr (false, [(3776, 3776)])), (2, .inr (false, ar_t32)), (3, .inr (false, [(6, 6)]))], [], m1h80),
  (4, [(0, .inl 81), (1, .inr (false, [(3776, 3776)])), (2, .inr (false, ar_t32)), (3, .inr (false, [(7, 7)]))], [], m1h81),
  (4, [(0, .inl 81), (1, .inr (false, [(3776, 3776)])), (2, .inr (false, ar_t32)), (3, .inr (false, [(8, 8)]))], [], m1h82)] = true := by decide +kernel
