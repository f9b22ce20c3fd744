/-- MiceRegistersModel.in -/
def mgc6329 : ak_C := (105, [.inr (true, ar_t32), .inr (true, [(0, 0)]), .inr (true, [(-1, 7)])], [], [], [([[(0, 7)], [], [(0, 7)]], some (.inr (false, [(1, 1)])), []), ([[], [], []], some (.inr (false, [(0, 0)])), [])])
theorem mgk6329 : ai_chk [] mgc6329 (fun pc => sm_ch sm_t105 pc, sm_Kn 3 6 none, fun x => sm_lk sm_ca3 x, some .boolean) [] 6 6 [] [] 2000 [] = true := by decide +kernel
/-- MiceRegistersModel.isLine -/
def mgc6330 : ak_C := (131, [.inl 81, .inr (false, ar_t32)], mgh10, [], [([[], []], some (.inr (false, [(0, 0)])), []), ([[], [(0, 7)]], some (.inr (false, [(1, 1)])), [])])
theorem mgk6330 : ai_chk [mgc6329] mgc6330 (fun pc => sm_ch sm_t131 pc, sm_Kn 3 2 none, fun x => sm_lk sm_ca3 x, some .boolean) [] 2 2 [] [] 2000 [] = true := by decide +kernel
/-- MiceRegistersModel.has -/
def mgc6331 : ak_C := (135, [.inr (false, ar_t32), .inr (false, ar_t32)], [], [], [([], some (.inr (false, [(1, 1)])), []), ([], some (.inr (false, [(0, 0)])), [])])
theorem mgk6331 : ai_chk [] mgc6331 (fun pc => sm_ch sm_t135 pc, sm_Kn 3 2 none, fun x => sm_lk sm_ca3 x, some .boolean) [] 2 0 [] [] 2000 [] = true := by decide +kernel
/-- MiceRegistersModel.farOf -/
def mgh20389 : aw_H := [(81, mgx2), (82, ms_r [(0, [(-1, 40)])])]
def mgc6332 : ak_C := (137, [.inl 81, .inr (false, [(0, 0)]), .inr (false, [(0, 3)]), .inr (false, [(0, 7)])], mgh20389, [], [([], some (.inr (false, [(0, 7)])), [])])
theorem mgk6332 : ai_chk [] mgc6332 (fun pc => sm_ch sm_t137 pc, sm_Kn 3 5 none, fun x => sm_lk sm_ca3 x, some .int) [] 5 0 [] [] 2000 [] = true := by decide +kernel
/-- MiceRegistersModel.likesBy -/
def mgc6333 : ak_C := (138, [.inr (false, ar_t32), .inr (false, ar_t32), .inr (false, ar_t32), .inr (false, ar_t32)], [], [], [([], some (.inr (false, ar_t32)), [])])
theorem mgk6333 : ai_chk [] mgc6333 (fun pc => sm_ch sm_t138 pc, sm_Kn 3 4 none, fun x => sm_lk sm_ca3 x, some .int) [] 4 0 [] [] 2000 [] = true := by decide +kernel
/-- MiceRegistersModel.likesIn -/
def mgh20390 : aw_H := [(81, mgx2), (82, ms_r [(0, [(-1, 40)])]), (83, .inr (.inl (0, 8, [], []))), (85, .inr (.inl (0, 4, [], [])))]
def mgc6334 : ak_C := (136, [.inl 81, .inr (false, [(0, 0)]), .inr (false, [(0, 3)]), .inr (false, [(0, 7)])], mgh20390, [], [([], some (.inr (false, ar_t32)), [])])
theorem mgk6334 : ai_chk [mgc6332, mgc6333] mgc6334 (fun pc => sm_ch sm_t136 pc, sm_Kn 3 4 none, fun x => sm_lk sm_ca3 x, some .int) [] 4 0 [] [] 2000 [] = true := by decide +kernel
/-- MiceRegistersModel.wants -/
def mgc6335 : ak_C := (134, [.inl 81, .inr (false, [(0, 0)]), .inr (false, [(0, 3)])], mgh20390, [], [([], some (.inr (false, [(-9, -9)])), []), ([], some (.inr (false, [(-9, -9), (0, 7)])), [])])
def mgx20391 : aw_A := ms_o [(1, 8)] [(0, 4)] ar_t32 ar_t32 [(0, 180)] [(0, 60)] [(-1, 60)] [(0, 8)] [(0, 4)]
def mgx20393 : aw_A := ms_o [(2, 8)] [(0, 4)] ar_t32 ar_t32 [(0, 180)] [(0, 60)] [(-1, 60)] [(0, 8)] [(0, 4)]
def mgx20394 : aw_A := ms_r [(0, [(-1, 40)]), (4, ar_t32), (5, ar_t32)]
def mgx20396 : aw_A := ms_o [(3, 8)] [(0, 4)] ar_t32 ar_t32 [(0, 180)] [(0, 60)] [(-1, 60)] [(0, 8)] [(0, 4)]
def mgx20397 : aw_A := ms_r [(0, [(-1, 40)]), (4, ar_t32), (5, ar_t32), (6, ar_t32)]
def mgx20399 : aw_A := ms_o [(4, 8)] [(0, 4)] ar_t32 ar_t32 [(0, 180)] [(0, 60)] [(-1, 60)] [(0, 8)] [(0, 4)]
def mgx20400 : aw_A := ms_r [(0, [(-1, 40)]), (4, ar_t32), (5, ar_t32), (6, ar_t32), (7, ar_t32)]
def mgx20402 : aw_A := ms_o [(5, 8)] [(0, 4)] ar_t32 ar_t32 [(0, 180)] [(0, 60)] [(-1, 60)] [(0, 8)] [(0, 4)]
def mgx20403 : aw_A := ms_r [(0, [(-1, 40)]), (4, ar_t32), (5, ar_t32), (6, ar_t32), (7, ar_t32), (8, ar_t32)]
def mgx20405 : aw_A := ms_o [(6, 8)] [(0, 4)] ar_t32 ar_t32 [(0, 180)] [(0, 60)] [(-1, 60)] [(0, 8)] [(0, 4)]
def mgx20406 : aw_A := ms_r [(0, [(-1, 40)]), (4, ar_t32), (5, ar_t32), (6, ar_t32), (7, ar_t32), (8, ar_t32), (9, ar_t32)]
def mgx20408 : aw_A := ms_o [(7, 8)] [(0, 4)] ar_t32 ar_t32 [(0, 180)] [(0, 60)] [(-1, 60)] [(0, 8)] [(0, 4)]
def mgx20409 : aw_A := ms_r [(0, [(-1, 40)]), (4, ar_t32), (5, ar_t32), (6, ar_t32), (7, ar_t32), (8, ar_t32), (9, ar_t32), (10, ar_t32)]
def mgx20411 : aw_A := ms_o [(8, 8)] [(0, 4)] ar_t32 ar_t32 [(0, 180)] [(0, 60)] [(-1, 60)] [(0, 8)] [(0, 4)]
def mgx20412 : aw_A := ms_r [(0, [(-1, 40)]), (4, ar_t32), (5, ar_t32), (6, ar_t32), (7, ar_t32), (8, ar_t32), (9, ar_t32), (10, ar_t32), (11, ar_t32)]
def mgb6335 : sm_P := (fun pc => sm_ch sm_t134 pc, sm_Kn 3 9 none, fun x => sm_lk sm_ca3 x, some .int)
def czmg6335x0 : aw_A := ms_o [(0, 8)] [(0, 4)] ar_t32 ar_t32 [(0, 180)] [(0, 60)] [(-1, 60)] [(0, 8)] [(0, 4)]
def czmg6335h1 : aw_H := [(81, czmg6335x0), (82, ms_r [(0, [(-1, 40)])]), (83, .inr (.inl (0, 8, [], []))), (85, .inr (.inl (0, 4, [], [])))]
set_option maxRecDepth 100000 in
theorem mgk6335 : ai_ch2 [mgc6331, mgc6334, mgc6332] mgc6335 mgb6335 [] 9 0 [9] [] 2000 [.inr (5, false, [((9, [(0, .inl 81), (1, .inr (false, [(0, 0)])), (2, .inr (false, [(0, 3)])), (3, .inr (false, [(-9, -9), (0, 7)])), (4, .inr (false, [(0, 2147483647)])), (5, .inr (false, [(0, 8)]))], [], czmg6335h1), none)])] = true := by decide +kernel
/-- MiceRegistersModel.wantedBy -/
def mgc6336 : ak_C := (133, [.inl 81, .inr (false, ar_t32)], mgh20390, [], [([], some (.inr (false, [(0, 0)])), []), ([], some (.inr (false, ar_t32)), [])])
def mgx20414 : aw_A := ms_o [(0, 8)] [(1, 4)] ar_t32 ar_t32 [(0, 180)] [(0, 60)] [(-1, 60)] [(0, 8)] [(0, 4)]
def mgh20415 : aw_H := [(81, mgx20414), (82, ms_r [(0, [(-1, 40)])]), (83, .inr (.inl (0, 8, [], []))), (85, .inr (.inl (0, 4, [], [])))]
def mgx20416 : aw_A := ms_o [(0, 8)] [(2, 4)] ar_t32 ar_t32 [(0, 180)] [(0, 60)] [(-1, 60)] [(0, 8)] [(0, 4)]
def mgh20417 : aw_H := [(81, mgx20416), (82, ms_r [(0, [(-1, 40)])]), (83, .inr (.inl (0, 8, [], []))), (85, .inr (.inl (0, 4, [], [])))]
def mgx20418 : aw_A := ms_o [(0, 8)] [(3, 4)] ar_t32 ar_t32 [(0, 180)] [(0, 60)] [(-1, 60)] [(0, 8)] [(0, 4)]
def mgh20419 : aw_H := [(81, mgx20418), (82, ms_r [(0, [(-1, 40)])]), (83, .inr (.inl (0, 8, [], []))), (85, .inr (.inl (0, 4, [], [])))]
def mgx20420 : aw_A := ms_o [(0, 8)] [(4, 4)] ar_t32 ar_t32 [(0, 180)] [(0, 60)] [(-1, 60)] [(0, 8)] [(0, 4)]
def mgh20421 : aw_H := [(81, mgx20420), (82, ms_r [(0, [(-1, 40)])]), (83, .inr (.inl (0, 8, [], []))), (85, .inr (.inl (0, 4, [], [])))]
theorem mgk6336 : ai_chk [mgc6335] mgc6336 (fun pc => sm_ch sm_t133 pc, sm_Kn 3 4 none, fun x => sm_lk sm_ca3 x, some .int) [] 4 0 [4] [] 2000 [(4, [(0, .inl 81), (1, .inr (false, ar_t32)), (2, .inr (false, [(0, 0)])), (3, .inr (false, [(0, 0)]))], [], mgh20390),
  (4, [(0, .inl 81), (1, .inr (false, ar_t32)), (2, .inr (false, [(0, 1)])), (3, .inr (false, [(1, 1)]))], [], mgh20415),
  (4, [(0, .inl 81), (1, .inr (false, ar_t32)), (2, .inr (false, ar_t32)), (3, .inr (false, [(2, 2)]))], [], mgh20417),
  (4, [(0, .inl 81), (1, .inr (false, ar_t32)), (2, .inr (false, ar_t32)), (3, .inr (false, [(3, 3)]))], [], mgh20419),
  (4, [(0, .inl 81), (1, .inr (false, ar_t32)), (2, .inr (false, ar_t32)), (3, .inr (false, [(4, 4)]))], [], mgh20421)] = true := by decide +kernel
/-- MiceRegistersModel.lineTold -/
def mgh20422 : aw_H := [(81, mgx2), (82, ms_r [(0, [(-1, 40)])]), (83, .inr (.inl (0, 8, [], []))), (84, .inr (.inl (0, 8, [], []))), (85, .inr (.inl (0, 4, [], [])))]
def mgc6337 : ak_C := (132, [.inl 81, .inr (false, [(0, 7)]), .inr (false, ar_t32)], mgh20422, [], [([[], [], []], some (.inr (false, ar_t32)), []), ([[], [], [(-2147483648, -1), (5, 2147483647)]], some (.inr (false, [(0, 0)])), [])])
theorem mgk6337 : ai_chk [mgc6336] mgc6337 (fun pc => sm_ch sm_t132 pc, sm_Kn 3 3 none, fun x => sm_lk sm_ca3 x, some .int) [] 3 3 [] [] 2000 [] = true := by decide +kernel
/-- MiceRegistersModel.line -/
def mgc6338 : ak_C := (130, [.inl 81, .inr (false, ar_t32), .inr (false, ar_t32)], mgh20422, [81], [([[], [], []], some (.inr (false, [(-1, -1)])), mgh10), ([[], [(0, 7)], [(0, 5)]], some (.inr (false, [(1, 1)])), mgh10)])
theorem mgk6338 : ai_chk [mgc6330, mgc2, mgc6337, mgc9] mgc6338 (fun pc => sm_ch sm_t130 pc, sm_Kn 3 3 none, fun x => sm_lk sm_ca3 x, some .int) [81] 3 3 [] [] 2000 [] = true := by decide +kernel
/-- MiceRegistersModel.in -/
def mgc6339 : ak_C := (105, [.inr (true, ar_t32), .inr (true, [(0, 0)]), .inr (true, [(-1, 3)])], [], [], [([[(0, 3)], [], [(0, 3)]], some (.inr (false, [(1, 1)])), []), ([[], [], []], some (.inr (false, [(0, 0)])), [])])
theorem mgk6339 : ai_chk [] mgc6339 (fun pc => sm_ch sm_t105 pc, sm_Kn 3 6 none, fun x => sm_lk sm_ca3 x, some .boolean) [] 6 6 [] [] 2000 [] = true := by decide +kernel
/-- MiceRegistersModel.isMouse -/
def mgc6340 : ak_C := (140, [.inl 81, .inr (false, ar_t32)], mgh10, [], [([[], []], some (.inr (false, [(0, 0)])), []), ([[], [(0, 3)]], some (.inr (false, [(1, 1)])), [])])
theorem mgk6340 : ai_chk [mgc6339] mgc6340 (fun pc => sm_ch sm_t140 pc, sm_Kn 3 2 none, fun x => sm_lk sm_ca3 x, some .boolean) [] 2 2 [] [] 2000 [] = true := by decide +kernel
/-- MiceRegistersModel.in -/
def mgc6341 : ak_C := (105, [.inr (true, ar_t32), .inr (true, [(0, 0)]), .inr (true, [(4, 4)])], [], [], [([[(0, 4)], [], []], some (.inr (false, [(1, 1)])), []), ([[(-2147483648, -1), (5, 2147483647)], [], []], some (.inr (false, [(0, 0)])), [])])
theorem mgk6341 : ai_chk [] mgc6341 (fun pc => sm_ch sm_t105 pc, sm_Kn 3 6 none, fun x => sm_lk sm_ca3 x, some .boolean) [] 6 6 [] [] 2000 [] = true := by decide +kernel
/-- MiceRegistersModel.eatsOf -/
def mgh20423 : aw_H := [(81, mgx2), (85, .inr (.inl (0, 4, [], []))), (86, .inr (.inl (0, 4, [], [])))]
def mgc6342 : ak_C := (142, [.inl 81, .inr (false, [(0, 3)])], mgh20423, [], [([], some (.inr (false, ar_t32)), [])])
theorem mgk6342 : ai_chk [] mgc6342 (fun pc => sm_ch sm_t142 pc, sm_Kn 3 2 none, fun x => sm_lk sm_ca3 x, some .int) [] 2 0 [] [] 2000 [] = true := by decide +kernel
/-- MiceRegistersModel.mouseTold -/
def mgh20424 : aw_H := [(81, mgx2), (82, ms_r [(0, [(-1, 40)])]), (83, .inr (.inl (0, 8, [], []))), (85, .inr (.inl (0, 4, [], []))), (86, .inr (.inl (0, 4, [], [])))]
def mgc6343 : ak_C := (141, [.inl 81, .inr (false, [(0, 3)]), .inr (false, ar_t32)], mgh20424, [], [([[], [], []], some (.inr (false, ar_t32)), []), ([[], [], [(-2147483648, -1), (4, 2147483647)]], some (.inr (false, [(-9, -9)])), [])])
theorem mgk6343 : ai_chk [mgc6342, mgc6335] mgc6343 (fun pc => sm_ch sm_t141 pc, sm_Kn 3 3 none, fun x => sm_lk sm_ca3 x, some .int) [] 3 3 [] [] 2000 [] = true := by decide +kernel
/-- MiceRegistersModel.mouse -/
def mgc6344 : ak_C := (139, [.inl 81, .inr (false, ar_t32), .inr (false, ar_t32)], mgh20424, [81], [([[], [], []], some (.inr (false, [(-1, -1)])), mgh10), ([[], [(0, 3)], [(0, 4)]], some (.inr (false, [(1, 1)])), mgh10)])
theorem mgk6344 : ai_chk [mgc6340, mgc6341, mgc6343, mgc9] mgc6344 (fun pc => sm_ch sm_t139 pc, sm_Kn 3 3 none, fun x => sm_lk sm_ca3 x, some .int) [81] 3 3 [] [] 2000 [] = true := by decide +kernel
def mgh20425 : aw_H := [(82, ms_r [(0, [(0, 40)])])]
/-- MiceRegistersModel.keepPast -/
def mgh20426 : aw_H := [(81, mgx2), (82, ms_r [(0, [(-1, 39)])])]
def mgc6345 : ak_C := (149, [.inl 81], mgh20426, [82], [([], none, mgh20425)])
def mgh20427 : aw_H := [(82, ms_r [(0, [(-1, 40)])])]
/-- MiceRegistersModel.passes -/
def mgc6346 : ak_C := (150, [.inl 81, .inr (false, [(0, 0)]), .inr (false, ar_t32)], mgh20424, [82], [([], some (.inr (false, ar_t32)), mgh20427)])
def czmg6346x0 : aw_A := ms_o [(0, 8)] [(0, 4)] ar_t32 ar_t32 [(0, 180)] [(0, 60)] [(-1, 60)] [(0, 8)] [(0, 4)]
def czmg6346h1 : aw_H := [(81, czmg6346x0), (82, ms_r [(0, [(-1, 40)])]), (83, .inr (.inl (0, 8, [], []))), (85, .inr (.inl (0, 4, [], []))), (86, .inr (.inl (0, 4, [], [])))]
set_option maxRecDepth 100000 in
theorem mgk6346 : ai_ch2 [mgc6331, mgc6335, mgc6342] mgc6346 (fun pc => sm_ch sm_t150 pc, sm_Kn 3 7 none, fun x => sm_lk sm_ca3 x, some .int) [82] 7 0 [5, 130] [] 2000 [.inr (4, false, [((5, [(0, .inl 81), (1, .inr (false, [(0, 0)])), (2, .inr (false, ar_t32)), (3, .inr (false, ar_t32)), (4, .inr (false, [(0, 4)]))], [], czmg6346h1), none)]),
  .inr (4, false, [((130, [(0, .inl 81), (1, .inr (false, [(0, 0)])), (2, .inr (false, ar_t32)), (3, .inr (false, ar_t32)), (4, .inr (false, [(0, 8)]))], [], czmg6346h1), none)])] = true := by decide +kernel
def mgh20447 : aw_H := [(82, ms_r [(0, [(40, 40)])])]
/-- MiceRegistersModel.year -/
def mgc6347 : ak_C := (148, [.inl 81], mgh20424, [82], [([], some (.inr (false, [(-4, -4)])), mgh20427), ([], some (.inr (false, [(-2, -2)])), mgh20447), ([], some (.inr (false, ar_t32)), mgh20427)])
theorem mgk6347 : ai_chk [mgc6345, mgc6346] mgc6347 (fun pc => sm_ch sm_t148 pc, sm_Kn 3 1 none, fun x => sm_lk sm_ca3 x, some .int) [82] 1 0 [] [] 2000 [] = true := by decide +kernel
/-- MiceRegistersModel.in -/
def mgc6348 : ak_C := (105, [.inr (true, ar_t32), .inr (true, [(1, 1)]), .inr (true, [(9, 9)])], [], [], [([[(1, 9)], [], []], some (.inr (false, [(1, 1)])), []), ([[(-2147483648, 0), (10, 2147483647)], [], []], some (.inr (false, [(0, 0)])), [])])
theorem mgk6348 : ai_chk [] mgc6348 (fun pc => sm_ch sm_t105 pc, sm_Kn 3 6 none, fun x => sm_lk sm_ca3 x, some .boolean) [] 6 6 [] [] 2000 [] = true := by decide +kernel
/-- MiceRegistersModel.cheese -/
def mgc6349 : ak_C := (151, [.inl 81, .inr (false, ar_t32), .inr (false, ar_t32)], mgh20389, [82], [([[], [], []], some (.inr (false, [(-1, -1)])), mgh20427), ([[], [(0, 7)], [(1, 9)]], some (.inr (false, [(-4, -4)])), mgh20427), ([[], [(0, 7)], [(1, 9)]], some (.inr (false, [(-2, -2)])), mgh20447), ([[], [(0, 7)], [(1, 9)]], some (.inr (false, ar_t32)), mgh20425)])
theorem mgk6349 : ai_chk [mgc6330, mgc6348, mgc6345] mgc6349 (fun pc => sm_ch sm_t151 pc, sm_Kn 3 3 none, fun x => sm_lk sm_ca3 x, some .int) [82] 3 3 [] [] 2000 [] = true := by decide +kernel
/-- MiceRegistersModel.cat -/
def mgc6350 : ak_C := (152, [.inl 81, .inr (false, ar_t32)], mgh20389, [82], [([[], [(-9, -9), (0, 7)]], some (.inr (false, [(-4, -4)])), mgh20427), ([[], [(-9, -9), (0, 7)]], some (.inr (false, [(-2, -2)])), mgh20447), ([[], [(-9, -9), (0, 7)]], some (.inr (false, ar_t32)), mgh20425), ([[], []], some (.inr (false, [(-1, -1)])), mgh20427)])
theorem mgk6350 : ai_chk [mgc6330, mgc6345] mgc6350 (fun pc => sm_ch sm_t152 pc, sm_Kn 3 3 none, fun x => sm_lk sm_ca3 x, some .int) [82] 3 2 [] [] 2000 [] = true := by decide +kernel
/-- MiceRegistersModel.wax -/
def mgc6351 : ak_C := (153, [.inl 81, .inr (false, ar_t32)], mgh20389, [82], [([[], [(0, 7)]], some (.inr (false, [(-2, -2)])), mgh20447), ([[], [(0, 7)]], some (.inr (false, [(0, 1)])), mgh20425), ([[], []], some (.inr (false, [(-1, -1)])), mgh20427)])
theorem mgk6351 : ai_chk [mgc6330, mgc6345] mgc6351 (fun pc => sm_ch sm_t153 pc, sm_Kn 3 2 none, fun x => sm_lk sm_ca3 x, some .int) [82] 2 2 [] [] 2000 [] = true := by decide +kernel
