/-- MiceRegistersModel.chancesOf -/
def m3c63 : ak_C := (185, [.inl 81, .inr (false, [(6, 6)]), .inr (false, [(12, 12)])], m3h1, [], [([], some (.inr (true, [(0, 0)])), [])])
theorem m3k63 : ai_chk [m3c48, m3c49, m3c50] m3c63 (fun pc => sm_ch sm_t185 pc, sm_Kn 3 6 none, fun x => sm_lk sm_ca3 x, some .long) [] 6 0 [5] [] 2000 [(5, [(0, .inl 81), (1, .inr (false, [(6, 6)])), (2, .inr (false, [(12, 12)])), (3, .inr (true, [(1, 1)])), (5, .inr (false, [(0, 0)]))], [], m3h1),
  (5, [(0, .inl 81), (1, .inr (false, [(6, 6)])), (2, .inr (false, [(12, 12)])), (3, .inr (true, [(0, 0)])), (5, .inr (false, [(1, 1)]))], [], m3h1),
  (5, [(0, .inl 81), (1, .inr (false, [(6, 6)])), (2, .inr (false, [(12, 12)])), (3, .inr (true, [(0, 0)])), (5, .inr (false, [(2, 2)]))], [], m3h1),
  (5, [(0, .inl 81), (1, .inr (false, [(6, 6)])), (2, .inr (false, [(12, 12)])), (3, .inr (true, [(0, 0)])), (5, .inr (false, [(3, 3)]))], [], m3h1)] = true := by decide +kernel
/-- MiceRegistersModel.chancesOf -/
def m3c64 : ak_C := (185, [.inl 81, .inr (false, [(7, 7)]), .inr (false, [(12, 12)])], m3h1, [], [([], some (.inr (true, [(1728, 1728)])), [])])
theorem m3k64 : ai_chk [m3c52, m3c53, m3c54] m3c64 (fun pc => sm_ch sm_t185 pc, sm_Kn 3 6 none, fun x => sm_lk sm_ca3 x, some .long) [] 6 0 [5] [] 2000 [(5, [(0, .inl 81), (1, .inr (false, [(7, 7)])), (2, .inr (false, [(12, 12)])), (3, .inr (true, [(1, 1)])), (5, .inr (false, [(0, 0)]))], [], m3h1),
  (5, [(0, .inl 81), (1, .inr (false, [(7, 7)])), (2, .inr (false, [(12, 12)])), (3, .inr (true, [(12, 12)])), (5, .inr (false, [(1, 1)]))], [], m3h1),
  (5, [(0, .inl 81), (1, .inr (false, [(7, 7)])), (2, .inr (false, [(12, 12)])), (3, .inr (true, [(144, 144)])), (5, .inr (false, [(2, 2)]))], [], m3h1),
  (5, [(0, .inl 81), (1, .inr (false, [(7, 7)])), (2, .inr (false, [(12, 12)])), (3, .inr (true, [(1728, 1728)])), (5, .inr (false, [(3, 3)]))], [], m3h1)] = true := by decide +kernel
def m3h74 : aw_H := [(81, m3x0), (82, ms_r [(0, [(-1, 40)]), (3788, ar_t32)])]
/-- MiceRegistersModel.odds -/
def m3c65 : ak_C := (184, [.inl 81, .inr (false, ar_t32), .inr (false, ar_t32)], m3h58, [81, 82], [([[], [], []], some (.inr (false, [(-1, -1)])), m3h28), ([[], [(0, 7)], [(0, 12)]], some (.inr (false, [(1, 1)])), m3h74)])
def czm3s65x0 : aw_A := ms_o [(1, 8)] [(3, 3)] ar_t32 ar_t32 [(0, 180)] [(0, 60)] [(-1, 60)] [(0, 8)] [(0, 4)]
def czm3s65x1 : aw_A := .inr (.inl (0, 4, [(0, 2, [(1, 9)])], []))
def czm3s65h2 : aw_H := [(81, czm3s65x0), (82, ms_r [(0, [(-1, 40)])]), (83, .inr (.inl (0, 8, [], []))), (85, .inr (.inl (0, 4, [], []))), (86, czm3s65x1)]
set_option maxRecDepth 100000 in
theorem m3k65 : ai_ch2 [m3c16, m3c17, m3c21, mgc6368, mgc6372, m3c31, m3c35, m3c39, m3c43, m3c47, m3c51, m3c55, m3c56, m3c57, m3c58, m3c59, m3c60, m3c61, m3c62, m3c63, m3c64] m3c65 (fun pc => sm_ch sm_t184 pc, sm_Kn 3 10 none, fun x => sm_lk sm_ca3 x, some .int) [81, 82] 10 3 [30] [(22, some (0, 2, 0), 12, 1)] 2000 [.inl (30, [(0, .inl 81), (1, .inr (false, [(0, 7)])), (2, .inr (false, [(0, 11)])), (3, .inr (true, [(0, 0)])), (5, .inr (true, [(0, 0)])), (7, .inr (false, [(0, 0)]))], [], czm3s65h2),
  .inl (30, [(0, .inl 81), (1, .inr (false, [(0, 7)])), (2, .inr (false, [(0, 11)])), (3, .inr (true, [(0, 1728)])), (5, .inr (true, [(1, 1728)])), (7, .inr (false, [(1, 1)])), (8, .inr (true, [(1, 1728)]))], [], czm3s65h2),
  .inl (30, [(0, .inl 81), (1, .inr (false, [(0, 7)])), (2, .inr (false, [(0, 11)])), (3, .inr (true, [(0, 3312)])), (5, .inr (true, [(1, 3312)])), (7, .inr (false, [(2, 2)])), (8, .inr (true, [(0, 1584)]))], [], czm3s65h2),
  .inl (30, [(0, .inl 81), (1, .inr (false, [(0, 7)])), (2, .inr (false, [(0, 11)])), (3, .inr (true, [(0, 4896)])), (5, .inr (true, [(1, 4896)])), (7, .inr (false, [(3, 3)])), (8, .inr (true, [(0, 1584)]))], [], czm3s65h2),
  .inl (30, [(0, .inl 81), (1, .inr (false, [(0, 7)])), (2, .inr (false, [(0, 11)])), (3, .inr (true, [(0, 6348)])), (5, .inr (true, [(1, 6348)])), (7, .inr (false, [(4, 4)])), (8, .inr (true, [(0, 1452)]))], [], czm3s65h2),
  .inl (30, [(0, .inl 81), (1, .inr (false, [(0, 7)])), (2, .inr (false, [(0, 11)])), (3, .inr (true, [(0, 7932)])), (5, .inr (true, [(1, 7932)])), (7, .inr (false, [(5, 5)])), (8, .inr (true, [(0, 1584)]))], [], czm3s65h2),
  .inl (30, [(0, .inl 81), (1, .inr (false, [(0, 7)])), (2, .inr (false, [(0, 11)])), (3, .inr (true, [(0, 9384)])), (5, .inr (true, [(1, 9384)])), (7, .inr (false, [(6, 6)])), (8, .inr (true, [(0, 1452)]))], [], czm3s65h2),
  .inl (30, [(0, .inl 81), (1, .inr (false, [(0, 7)])), (2, .inr (false, [(0, 11)])), (3, .inr (true, [(0, 10836)])), (5, .inr (true, [(1, 10836)])), (7, .inr (false, [(7, 7)])), (8, .inr (true, [(0, 1452)]))], [], czm3s65h2),
  .inl (30, [(0, .inl 81), (1, .inr (false, [(0, 7)])), (2, .inr (false, [(0, 11)])), (3, .inr (true, [(0, 12167)])), (5, .inr (true, [(1, 12167)])), (7, .inr (false, [(8, 8)])), (8, .inr (true, [(0, 1331)]))], [], czm3s65h2),
  .inl (30, [(0, .inl 81), (1, .inr (false, [(0, 7)])), (2, .inr (false, [(12, 12)])), (3, .inr (true, [(0, 0)])), (5, .inr (true, [(0, 0)])), (7, .inr (false, [(0, 0)]))], [], czm3s65h2),
  .inl (30, [(0, .inl 81), (1, .inr (false, [(0, 7)])), (2, .inr (false, [(12, 12)])), (3, .inr (true, [(0, 0)])), (5, .inr (true, [(0, 0)])), (7, .inr (false, [(1, 1)])), (8, .inr (true, [(0, 0)]))], [], czm3s65h2),
  .inl (30, [(0, .inl 81), (1, .inr (false, [(0, 7)])), (2, .inr (false, [(12, 12)])), (3, .inr (true, [(0, 0)])), (5, .inr (true, [(0, 0)])), (7, .inr (false, [(2, 2)])), (8, .inr (true, [(0, 0)]))], [], czm3s65h2),
  .inl (30, [(0, .inl 81), (1, .inr (false, [(0, 7)])), (2, .inr (false, [(12, 12)])), (3, .inr (true, [(0, 0)])), (5, .inr (true, [(0, 0)])), (7, .inr (false, [(3, 3)])), (8, .inr (true, [(0, 0)]))], [], czm3s65h2),
  .inl (30, [(0, .inl 81), (1, .inr (false, [(0, 7)])), (2, .inr (false, [(12, 12)])), (3, .inr (true, [(0, 0)])), (5, .inr (true, [(0, 0)])), (7, .inr (false, [(4, 4)])), (8, .inr (true, [(0, 0)]))], [], czm3s65h2),
  .inl (30, [(0, .inl 81), (1, .inr (false, [(0, 7)])), (2, .inr (false, [(12, 12)])), (3, .inr (true, [(0, 0)])), (5, .inr (true, [(0, 0)])), (7, .inr (false, [(5, 5)])), (8, .inr (true, [(0, 0)]))], [], czm3s65h2),
  .inl (30, [(0, .inl 81), (1, .inr (false, [(0, 7)])), (2, .inr (false, [(12, 12)])), (3, .inr (true, [(0, 0)])), (5, .inr (true, [(0, 0)])), (7, .inr (false, [(6, 6)])), (8, .inr (true, [(0, 0)]))], [], czm3s65h2),
  .inl (30, [(0, .inl 81), (1, .inr (false, [(0, 7)])), (2, .inr (false, [(12, 12)])), (3, .inr (true, [(0, 0)])), (5, .inr (true, [(0, 0)])), (7, .inr (false, [(7, 7)])), (8, .inr (true, [(0, 0)]))], [], czm3s65h2),
  .inl (30, [(0, .inl 81), (1, .inr (false, [(0, 7)])), (2, .inr (false, [(12, 12)])), (3, .inr (true, [(0, 0), (1728, 1728)])), (5, .inr (true, [(1728, 1728)])), (7, .inr (false, [(8, 8)])), (8, .inr (true, [(1728, 1728)]))], [], czm3s65h2)] = true := by decide +kernel


