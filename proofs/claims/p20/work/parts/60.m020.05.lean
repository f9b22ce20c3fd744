/-- MiceRegistersModel.mid -/
def m1c33 : ak_C := (187, [.inl 81, .inr (false, ar_t32)], m1h58, [81, 82], [([[], [(-2147483648, -1), (13, 2147483647)]], some (.inr (false, [(-1, -1)])), m1h28), ([[], [(0, 12)]], some (.inr (false, [(1, 1)])), m1h74)])
def czm1s33x0 : aw_A := ms_o [(1, 8)] [(1, 1)] ar_t32 ar_t32 [(0, 180)] [(0, 60)] [(-1, 60)] [(0, 8)] [(0, 4)]
def czm1s33x1 : aw_A := .inr (.inl (0, 4, [(0, 0, [(1, 9)])], []))
def czm1s33h2 : aw_H := [(81, czm1s33x0), (82, ms_r [(0, [(-1, 40)])]), (83, .inr (.inl (0, 8, [], []))), (85, .inr (.inl (0, 4, [], []))), (86, czm1s33x1)]
set_option maxRecDepth 100000 in
theorem m1k33 : ai_ch2 [m1c17, m1c19, mgc6368, mgc6372, m1c32, m1c27, m1c28, m1c29, m1c30] m1c33 (fun pc => sm_ch sm_t187 pc, sm_Kn 3 9 none, fun x => sm_lk sm_ca3 x, some .int) [81, 82] 9 2 [32] [(24, some (0, 1, 0), 12, 1)] 2000 [.inl (32, [(0, .inl 81), (1, .inr (false, [(0, 11)])), (2, .inr (true, [(0, 0)])), (4, .inr (true, [(0, 0)])), (6, .inr (false, [(0, 0)]))], [], czm1s33h2),
  .inl (32, [(0, .inl 81), (1, .inr (false, [(0, 11)])), (2, .inr (true, [(-25769803776, 25769803764)])), (4, .inr (true, [(1, 12)])), (6, .inr (false, [(1, 1)])), (7, .inr (true, [(1, 12)]))], [], czm1s33h2),
  .inl (32, [(0, .inl 81), (1, .inr (false, [(0, 11)])), (2, .inr (true, [(-49392123904, 49392123881)])), (4, .inr (true, [(1, 23)])), (6, .inr (false, [(2, 2)])), (7, .inr (true, [(0, 11)]))], [], czm1s33h2),
  .inl (32, [(0, .inl 81), (1, .inr (false, [(12, 12)])), (2, .inr (true, [(0, 0)])), (4, .inr (true, [(0, 0)])), (6, .inr (false, [(0, 0)]))], [], czm1s33h2),
  .inl (32, [(0, .inl 81), (1, .inr (false, [(12, 12)])), (2, .inr (true, [(0, 0)])), (4, .inr (true, [(0, 0)])), (6, .inr (false, [(1, 1)])), (7, .inr (true, [(0, 0)]))], [], czm1s33h2),
  .inl (32, [(0, .inl 81), (1, .inr (false, [(12, 12)])), (2, .inr (true, [(-25769803776, 25769803764)])), (4, .inr (true, [(12, 12)])), (6, .inr (false, [(2, 2)])), (7, .inr (true, [(12, 12)]))], [], czm1s33h2)] = true := by decide +kernel
/-- MiceRegistersModel.in -/
def m2c2 : ak_C := (105, [.inr (true, ar_t32), .inr (true, [(0, 0)]), .inr (true, [(1, 1)])], [], [], [([[(0, 1)], [], []], some (.inr (false, [(1, 1)])), []), ([[(-2147483648, -1), (2, 2147483647)], [], []], some (.inr (false, [(0, 0)])), [])])
theorem m2k2 : ai_chk [] m2c2 (fun pc => sm_ch sm_t105 pc, sm_Kn 3 6 none, fun x => sm_lk sm_ca3 x, some .boolean) [] 6 6 [] [] 2000 [] = true := by decide +kernel
/-- MiceRegistersModel.isMouse -/
def m2x0 : aw_A := ms_o [(1, 8)] [(2, 2)] ar_t32 ar_t32 [(0, 180)] [(0, 60)] [(-1, 60)] [(0, 8)] [(0, 4)]
def m2h1 : aw_H := [(81, m2x0)]
def m2c3 : ak_C := (140, [.inl 81, .inr (false, ar_t32)], m2h1, [], [([[], [(-2147483648, -1), (2, 2147483647)]], some (.inr (false, [(0, 0)])), []), ([[], [(0, 1)]], some (.inr (false, [(1, 1)])), [])])
theorem m2k3 : ai_chk [m2c2] m2c3 (fun pc => sm_ch sm_t140 pc, sm_Kn 3 2 none, fun x => sm_lk sm_ca3 x, some .boolean) [] 2 2 [] [] 2000 [] = true := by decide +kernel
/-- MiceRegistersModel.in -/
def m2c4 : ak_C := (105, [.inr (true, ar_t32), .inr (true, [(1, 1)]), .inr (true, [(5, 5)])], [], [], [([[(1, 5)], [], []], some (.inr (false, [(1, 1)])), []), ([[(-2147483648, 0), (6, 2147483647)], [], []], some (.inr (false, [(0, 0)])), [])])
theorem m2k4 : ai_chk [] m2c4 (fun pc => sm_ch sm_t105 pc, sm_Kn 3 6 none, fun x => sm_lk sm_ca3 x, some .boolean) [] 6 6 [] [] 2000 [] = true := by decide +kernel
/-- MiceRegistersModel.isOf -/
def m2h2 : aw_H := [(81, m2x0), (85, .inr (.inl (0, 4, [], [])))]
def m2c5 : ak_C := (144, [.inl 81, .inr (false, [(0, 3)]), .inr (false, ar_t32)], m2h2, [], [([], some (.inr (false, [(0, 0)])), []), ([], some (.inr (false, [(1, 1)])), [])])
theorem m2k5 : ai_chk [] m2c5 (fun pc => sm_ch sm_t144 pc, sm_Kn 3 4 none, fun x => sm_lk sm_ca3 x, some .boolean) [] 4 0 [] [] 2000 [] = true := by decide +kernel
/-- MiceRegistersModel.eatsOf -/
def m2x3 : aw_A := .inr (.inl (0, 4, [(0, 1, [(1, 9)])], []))
def m2h4 : aw_H := [(81, m2x0), (85, .inr (.inl (0, 4, [], []))), (86, m2x3)]
def m2c6 : ak_C := (142, [.inl 81, .inr (false, [(0, 1)])], m2h4, [], [([], some (.inr (false, [(1, 18)])), [])])
theorem m2k6 : ai_chk [] m2c6 (fun pc => sm_ch sm_t142 pc, sm_Kn 3 2 none, fun x => sm_lk sm_ca3 x, some .int) [] 2 0 [] [] 2000 [] = true := by decide +kernel
/-- MiceRegistersModel.littleWrong -/
def m2h5 : aw_H := [(81, m2x0), (83, .inr (.inl (0, 8, [], [])))]
def m2c7 : ak_C := (146, [.inl 81], m2h5, [], [([], some (.inr (false, [(0, 8)])), [])])
def m2h6 : aw_H := [(81, m2x0), (83, .inr (.inl (0, 8, [], [(0, ar_t32)])))]
def m2x7 : aw_A := ms_o [(2, 8)] [(2, 2)] ar_t32 ar_t32 [(0, 180)] [(0, 60)] [(-1, 60)] [(0, 8)] [(0, 4)]
def m2x8 : aw_A := .inr (.inl (0, 8, [], [(0, ar_t32), (1, ar_t32)]))
def m2h9 : aw_H := [(81, m2x7), (83, m2x8)]
def m2x10 : aw_A := ms_o [(3, 8)] [(2, 2)] ar_t32 ar_t32 [(0, 180)] [(0, 60)] [(-1, 60)] [(0, 8)] [(0, 4)]
def m2x11 : aw_A := .inr (.inl (0, 8, [], [(0, ar_t32), (1, ar_t32), (2, ar_t32)]))
def m2h12 : aw_H := [(81, m2x10), (83, m2x11)]
