/-- MiceRegistersModel.chancesOf -/
def m2c40 : ak_C := (185, [.inl 81, .inr (false, [(3, 3)]), .inr (false, [(12, 12)])], m2h1, [], [([], some (.inr (true, [(144, 144)])), [])])
theorem m2k40 : ai_chk [m2c33, m2c34] m2c40 (fun pc => sm_ch sm_t185 pc, sm_Kn 3 6 none, fun x => sm_lk sm_ca3 x, some .long) [] 6 0 [5] [] 2000 [(5, [(0, .inl 81), (1, .inr (false, [(3, 3)])), (2, .inr (false, [(12, 12)])), (3, .inr (true, [(1, 1)])), (5, .inr (false, [(0, 0)]))], [], m2h1),
  (5, [(0, .inl 81), (1, .inr (false, [(3, 3)])), (2, .inr (false, [(12, 12)])), (3, .inr (true, [(12, 12)])), (5, .inr (false, [(1, 1)]))], [], m2h1),
  (5, [(0, .inl 81), (1, .inr (false, [(3, 3)])), (2, .inr (false, [(12, 12)])), (3, .inr (true, [(144, 144)])), (5, .inr (false, [(2, 2)]))], [], m2h1)] = true := by decide +kernel
def m2h74 : aw_H := [(81, m2x0), (82, ms_r [(0, [(-1, 40)]), (3788, ar_t32)])]
/-- MiceRegistersModel.odds -/
def m2c41 : ak_C := (184, [.inl 81, .inr (false, ar_t32), .inr (false, ar_t32)], m2h58, [81, 82], [([[], [], []], some (.inr (false, [(-1, -1)])), m2h28), ([[], [(0, 7)], [(0, 12)]], some (.inr (false, [(1, 1)])), m2h74)])
def czm2s41x0 : aw_A := ms_o [(1, 8)] [(2, 2)] ar_t32 ar_t32 [(0, 180)] [(0, 60)] [(-1, 60)] [(0, 8)] [(0, 4)]
def czm2s41x1 : aw_A := .inr (.inl (0, 4, [(0, 1, [(1, 9)])], []))
def czm2s41h2 : aw_H := [(81, czm2s41x0), (82, ms_r [(0, [(-1, 40)])]), (83, .inr (.inl (0, 8, [], []))), (85, .inr (.inl (0, 4, [], []))), (86, czm2s41x1)]
set_option maxRecDepth 100000 in
theorem m2k41 : ai_ch2 [m2c16, m2c17, m2c20, mgc6368, mgc6372, m2c29, m2c32, m2c35, m2c36, m2c37, m2c38, m2c39, m2c40] m2c41 (fun pc => sm_ch sm_t184 pc, sm_Kn 3 10 none, fun x => sm_lk sm_ca3 x, some .int) [81, 82] 10 3 [30] [(22, some (0, 2, 0), 12, 1)] 2000 [.inl (30, [(0, .inl 81), (1, .inr (false, [(0, 7)])), (2, .inr (false, [(0, 11)])), (3, .inr (true, [(0, 0)])), (5, .inr (true, [(0, 0)])), (7, .inr (false, [(0, 0)]))], [], czm2s41h2),
  .inl (30, [(0, .inl 81), (1, .inr (false, [(0, 7)])), (2, .inr (false, [(0, 11)])), (3, .inr (true, [(0, 144)])), (5, .inr (true, [(1, 144)])), (7, .inr (false, [(1, 1)])), (8, .inr (true, [(1, 144)]))], [], czm2s41h2),
  .inl (30, [(0, .inl 81), (1, .inr (false, [(0, 7)])), (2, .inr (false, [(0, 11)])), (3, .inr (true, [(0, 276)])), (5, .inr (true, [(1, 276)])), (7, .inr (false, [(2, 2)])), (8, .inr (true, [(0, 132)]))], [], czm2s41h2),
  .inl (30, [(0, .inl 81), (1, .inr (false, [(0, 7)])), (2, .inr (false, [(0, 11)])), (3, .inr (true, [(0, 408)])), (5, .inr (true, [(1, 408)])), (7, .inr (false, [(3, 3)])), (8, .inr (true, [(0, 132)]))], [], czm2s41h2),
  .inl (30, [(0, .inl 81), (1, .inr (false, [(0, 7)])), (2, .inr (false, [(0, 11)])), (3, .inr (true, [(0, 529)])), (5, .inr (true, [(1, 529)])), (7, .inr (false, [(4, 4)])), (8, .inr (true, [(0, 121)]))], [], czm2s41h2),
  .inl (30, [(0, .inl 81), (1, .inr (false, [(0, 7)])), (2, .inr (false, [(12, 12)])), (3, .inr (true, [(0, 0)])), (5, .inr (true, [(0, 0)])), (7, .inr (false, [(0, 0)]))], [], czm2s41h2),
  .inl (30, [(0, .inl 81), (1, .inr (false, [(0, 7)])), (2, .inr (false, [(12, 12)])), (3, .inr (true, [(0, 0)])), (5, .inr (true, [(0, 0)])), (7, .inr (false, [(1, 1)])), (8, .inr (true, [(0, 0)]))], [], czm2s41h2),
  .inl (30, [(0, .inl 81), (1, .inr (false, [(0, 7)])), (2, .inr (false, [(12, 12)])), (3, .inr (true, [(0, 0)])), (5, .inr (true, [(0, 0)])), (7, .inr (false, [(2, 2)])), (8, .inr (true, [(0, 0)]))], [], czm2s41h2),
  .inl (30, [(0, .inl 81), (1, .inr (false, [(0, 7)])), (2, .inr (false, [(12, 12)])), (3, .inr (true, [(0, 0)])), (5, .inr (true, [(0, 0)])), (7, .inr (false, [(3, 3)])), (8, .inr (true, [(0, 0)]))], [], czm2s41h2),
  .inl (30, [(0, .inl 81), (1, .inr (false, [(0, 7)])), (2, .inr (false, [(12, 12)])), (3, .inr (true, [(0, 0), (144, 144)])), (5, .inr (true, [(144, 144)])), (7, .inr (false, [(4, 4)])), (8, .inr (true, [(144, 144)]))], [], czm2s41h2)] = true := by decide +kernel
/-- MiceRegistersModel.leftIn -/
def m2c42 : ak_C := (168, [.inl 81, .inr (false, [(3776, 3776)])], m2h28, [], [([], some (.inr (false, ar_t32)), [])])
def m2h76 : aw_H := [(81, m2x7), (82, ms_r [(0, [(-1, 40)])])]
def m2h77 : aw_H := [(81, m2x10), (82, ms_r [(0, [(-1, 40)])])]
def m2h78 : aw_H := [(81, m2x13), (82, ms_r [(0, [(-1, 40)])])]
def m2h79 : aw_H := [(81, m2x16), (82, ms_r [(0, [(-1, 40)])])]
def m2h80 : aw_H := [(81, m2x19), (82, ms_r [(0, [(-1, 40)])])]
def m2h81 : aw_H := [(81, m2x22), (82, ms_r [(0, [(-1, 40)])])]
def m2h82 : aw_H := [(81, m2x25), (82, ms_r [(0, [(-1, 40)])])]
theorem m2k42 : ai_chk [] m2c42 (fun pc => sm_ch sm_t168 pc, sm_Kn 3 4 none, fun x => sm_lk sm_ca3 x, some .int) [] 4 0 [4] [] 2000 [(4, [(0, .inl 81), (1, .inr (false, [(3776, 3776)])), (2, .inr (false, [(0, 0)])), (3, .inr (false, [(0, 0)]))], [], m2h28),
  (4, [(0, .inl 81), (1, .inr (false, [(3776, 3776)])), (2, .inr (false, ar_t32)), (3, .inr (false, [(1, 1)]))], [], m2h28),
  (4, [(0, .inl 81), (1, .inr (false, [(3776, 3776)])), (2, .inr (false, ar_t32)), (3, .inr (false, [(2, 2)]))], [], m2h76),
  (4, [(0, .inl 81), (1, .inr (false, [(3776, 3776)])), (2, .inr (false, ar_t32)), (3, .inr (false, [(3, 3)]))], [], m2h77),
  (4, [(0, .inl 81), (1, .inr (false, [(3776, 3776)])), (2, .inr (false, ar_t32)), (3, .inr (false, [(4, 4)]))], [], m2h78),
  (4, [(0, .inl 81), (1, .inr (false, [(3776, 3776)])), (2, .inr (false, ar_t32)), (3, .inr (false, [(5, 5)]))], [], m2h79),
  (4, [(0, .inl 81), (1, .inr (false, [(3776, 3776)])), (2, .inr (false, ar_t32)), (3, .inr (false, [(6, 6)]))], [], m2h80),
  (4, [(0, .inl 81), (1, .inr (false, [(3776, 3776)])), (2, .inr (false, ar_t32)), (3, .inr (false, [(7, 7)]))], [], m2h81),
  (4, [(0, .inl 81), (1, .inr (false, [(3776, 3776)])), (2, .inr (false, ar_t32)), (3, .inr (false, [(8, 8)]))], [], m2h82)] = true := by decide +kernel
/-- MiceRegistersModel.mid -/
def m2c43 : ak_C := (187, [.inl 81, .inr (false, ar_t32)], m2h58, [81, 82], [([[], [(-2147483648, -1), (13, 2147483647)]], some (.inr (false, [(-1, -1)])), m2h28), ([[], [(0, 12)]], some (.inr (false, [(1, 1)])), m2h74)])
def czm2s43x0 : aw_A := ms_o [(1, 8)] [(2, 2)] ar_t32 ar_t32 [(0, 180)] [(0, 60)] [(-1, 60)] [(0, 8)] [(0, 4)]
def czm2s43x1 : aw_A := .inr (.inl (0, 4, [(0, 1, [(1, 9)])], []))
def czm2s43h2 : aw_H := [(81, czm2s43x0), (82, ms_r [(0, [(-1, 40)])]), (83, .inr (.inl (0, 8, [], []))), (85, .inr (.inl (0, 4, [], []))), (86, czm2s43x1)]
