/-! Contracts over ranges of the reference, and their checks; printed by a program of mine. -/
/-- MiceRegistersModel.in -/
def mgc6354 : ak_C := (105, [.inr (true, ar_t32), .inr (true, [(0, 0)]), .inr (true, [(2, 2)])], [], [], [([[(0, 2)], [], []], some (.inr (false, [(1, 1)])), []), ([[(-2147483648, -1), (3, 2147483647)], [], []], some (.inr (false, [(0, 0)])), [])])
theorem mgk6354 : ai_chk [] mgc6354 (fun pc => sm_ch sm_t105 pc, sm_Kn 3 6 none, fun x => sm_lk sm_ca3 x, some .boolean) [] 6 6 [] [] 2000 [] = true := by decide +kernel
/-- MiceRegistersModel.copyRegister -/
def mgc6355 : ak_C := (156, [.inl 81, .inr (false, [(0, 0)]), .inr (false, [(2832, 2832)])], mgh20389, [82], [([], none, mgh20427)])
/-- MiceRegistersModel.copyRegister -/
def mgc6356 : ak_C := (156, [.inl 81, .inr (false, [(0, 0)]), .inr (false, [(1888, 1888)])], mgh20389, [82], [([], none, mgh20427)])
/-- MiceRegistersModel.copyRegister -/
def mgc6357 : ak_C := (156, [.inl 81, .inr (false, [(0, 0)]), .inr (false, [(944, 944)])], mgh20389, [82], [([], none, mgh20427)])
/-- MiceRegistersModel.keep -/
def mgc6358 : ak_C := (155, [.inl 81, .inr (false, ar_t32)], mgh20389, [82], [([[], [(-2147483648, -1), (3, 2147483647)]], some (.inr (false, [(-1, -1)])), mgh20427), ([[], [(0, 2)]], some (.inr (false, [(-4, -4)])), mgh20427), ([[], [(0, 2)]], some (.inr (false, [(-1, 40)])), mgh20427)])
theorem mgk6358 : ai_chk [mgc6354, mgc6355, mgc6356, mgc6357] mgc6358 (fun pc => sm_ch sm_t155 pc, sm_Kn 3 2 none, fun x => sm_lk sm_ca3 x, some .int) [82] 2 2 [] [(24, some (0, 1, 0), 0, 3)] 2000 [] = true := by decide +kernel
/-- MiceRegistersModel.copyRegister -/
def mgc6359 : ak_C := (156, [.inl 81, .inr (false, [(2832, 2832)]), .inr (false, [(0, 0)])], mgh20389, [82], [([], none, mgh20427)])
/-- MiceRegistersModel.copyRegister -/
def mgc6360 : ak_C := (156, [.inl 81, .inr (false, [(1888, 1888)]), .inr (false, [(0, 0)])], mgh20389, [82], [([], none, mgh20427)])
/-- MiceRegistersModel.copyRegister -/
def mgc6361 : ak_C := (156, [.inl 81, .inr (false, [(944, 944)]), .inr (false, [(0, 0)])], mgh20389, [82], [([], none, mgh20427)])
def mgh20448 : aw_H := [(81, mgx2), (82, ms_r [(0, [(-1, 40)])]), (91, .inr (.inl (0, 6, [], [])))]
def mgh20449 : aw_H := [(81, mgx0), (82, ms_r [(0, [(-1, 40)])]), (91, .inr (.inl (0, 6, [], [])))]
/-- MiceRegistersModel.on -/
def mgc6362 : ak_C := (157, [.inl 81, .inr (false, ar_t32)], mgh20448, [81, 82, 91], [([[], [(-2147483648, -1), (3, 2147483647)]], some (.inr (false, [(-1, -1)])), mgh20448), ([[], [(0, 2)]], some (.inr (false, [(-3, -3)])), mgh20449), ([[], [(0, 2)]], some (.inr (false, [(-1, 40)])), mgh20448)])
theorem mgk6362 : ai_chk [mgc6354, mgc4, mgc6359, mgc6360, mgc6361] mgc6362 (fun pc => sm_ch sm_t157 pc, sm_Kn 3 2 none, fun x => sm_lk sm_ca3 x, some .int) [81, 82, 91] 2 2 [] [(14, some (0, 1, 0), 0, 3)] 2000 [] = true := by decide +kernel
/-- MiceRegistersModel.in -/
def mgc6363 : ak_C := (105, [.inr (true, ar_t32), .inr (true, [(0, 0)]), .inr (true, [(9, 9)])], [], [], [([[(0, 9)], [], []], some (.inr (false, [(1, 1)])), []), ([[(-2147483648, -1), (10, 2147483647)], [], []], some (.inr (false, [(0, 0)])), [])])
theorem mgk6363 : ai_chk [] mgc6363 (fun pc => sm_ch sm_t105 pc, sm_Kn 3 6 none, fun x => sm_lk sm_ca3 x, some .boolean) [] 6 6 [] [] 2000 [] = true := by decide +kernel
/-- MiceRegistersModel.in -/
def mgc6364 : ak_C := (105, [.inr (true, ar_t32), .inr (true, [(0, 0)]), .inr (true, [(20, 20)])], [], [], [([[(0, 20)], [], []], some (.inr (false, [(1, 1)])), []), ([[(-2147483648, -1), (21, 2147483647)], [], []], some (.inr (false, [(0, 0)])), [])])
theorem mgk6364 : ai_chk [] mgc6364 (fun pc => sm_ch sm_t105 pc, sm_Kn 3 6 none, fun x => sm_lk sm_ca3 x, some .boolean) [] 6 6 [] [] 2000 [] = true := by decide +kernel
/-- MiceRegistersModel.in -/
def mgc6365 : ak_C := (105, [.inr (true, ar_t32), .inr (true, [(0, 0)]), .inr (true, [(7, 7)])], [], [], [([[(0, 7)], [], []], some (.inr (false, [(1, 1)])), []), ([[(-2147483648, -1), (8, 2147483647)], [], []], some (.inr (false, [(0, 0)])), [])])
theorem mgk6365 : ai_chk [] mgc6365 (fun pc => sm_ch sm_t105 pc, sm_Kn 3 6 none, fun x => sm_lk sm_ca3 x, some .boolean) [] 6 6 [] [] 2000 [] = true := by decide +kernel
/-- MiceRegistersModel.likes -/
def mgh20450 : aw_H := [(81, mgx2), (85, .inr (.inl (0, 4, [], [])))]
def mgc6366 : ak_C := (158, [.inl 81, .inr (false, ar_t32), .inr (false, ar_t32), .inr (false, ar_t32), .inr (false, ar_t32)], mgh20450, [81], [([[], [], [], [], []], some (.inr (false, [(-1, -1)])), mgh10), ([[], [(0, 3)], [(0, 9)], [(0, 20)], [(0, 7)]], some (.inr (false, [(1, 1)])), mgh10)])
theorem mgk6366 : ai_chk [mgc6340, mgc6363, mgc6364, mgc6365, mgc6333, mgc9] mgc6366 (fun pc => sm_ch sm_t158 pc, sm_Kn 3 5 none, fun x => sm_lk sm_ca3 x, some .int) [81] 5 5 [] [] 2000 [] = true := by decide +kernel
/-- MiceRegistersModel.in -/
def mgc6367 : ak_C := (105, [.inr (true, ar_t32), .inr (true, [(0, 0)]), .inr (true, [(40, 40)])], [], [], [([[(0, 40)], [], []], some (.inr (false, [(1, 1)])), []), ([[(-2147483648, -1), (41, 2147483647)], [], []], some (.inr (false, [(0, 0)])), [])])
theorem mgk6367 : ai_chk [] mgc6367 (fun pc => sm_ch sm_t105 pc, sm_Kn 3 6 none, fun x => sm_lk sm_ca3 x, some .boolean) [] 6 6 [] [] 2000 [] = true := by decide +kernel
/-- MiceRegistersModel.layTried -/
def mgc6368 : ak_C := (160, [.inl 81], mgh20389, [82], [([], none, mgh20427)])
theorem mgk6368 : ai_chk [] mgc6368 (fun pc => sm_ch sm_t160 pc, sm_Kn 3 2 none, fun x => sm_lk sm_ca3 x, none) [82] 2 0 [2] [] 2000 [(2, [(0, .inl 81), (1, .inr (false, [(0, 0)]))], [], mgh20389),
  (2, [(0, .inl 81), (1, .inr (false, [(1, 1)]))], [], mgh20389),
  (2, [(0, .inl 81), (1, .inr (false, [(2, 2)]))], [], mgh20389),
  (2, [(0, .inl 81), (1, .inr (false, [(3, 3)]))], [], mgh20389),
  (2, [(0, .inl 81), (1, .inr (false, [(4, 4)]))], [], mgh20389),
  (2, [(0, .inl 81), (1, .inr (false, [(5, 5)]))], [], mgh20389),
  (2, [(0, .inl 81), (1, .inr (false, [(6, 6)]))], [], mgh20389),
  (2, [(0, .inl 81), (1, .inr (false, [(7, 7)]))], [], mgh20389),
  (2, [(0, .inl 81), (1, .inr (false, [(8, 8)]))], [], mgh20389),
  (2, [(0, .inl 81), (1, .inr (false, [(9, 9)]))], [], mgh20389),
  (2, [(0, .inl 81), (1, .inr (false, [(10, 10)]))], [], mgh20389),
  (2, [(0, .inl 81), (1, .inr (false, [(11, 11)]))], [], mgh20389),
  (2, [(0, .inl 81), (1, .inr (false, [(12, 12)]))], [], mgh20389),
  (2, [(0, .inl 81), (1, .inr (false, [(13, 13)]))], [], mgh20389),
  (2, [(0, .inl 81), (1, .inr (false, [(14, 14)]))], [], mgh20389),
  (2, [(0, .inl 81), (1, .inr (false, [(15, 15)]))], [], mgh20389),
  (2, [(0, .inl 81), (1, .inr (false, [(16, 16)]))], [], mgh20389),
  (2, [(0, .inl 81), (1, .inr (false, [(17, 17)]))], [], mgh20389),
  (2, [(0, .inl 81), (1, .inr (false, [(18, 18)]))], [], mgh20389),
  (2, [(0, .inl 81), (1, .inr (false, [(19, 19)]))], [], mgh20389),
  (2, [(0, .inl 81), (1, .inr (false, [(20, 20)]))], [], mgh20389),
  (2, [(0, .inl 81), (1, .inr (false, [(21, 21)]))], [], mgh20389),
  (2, [(0, .inl 81), (1, .inr (false, [(22, 22)]))], [], mgh20389),
  (2, [(0, .inl 81), (1, .inr (false, [(23, 23)]))], [], mgh20389),
  (2, [(0, .inl 81), (1, .inr (false, [(24, 24)]))], [], mgh20389)] = true := by decide +kernel
/-- MiceRegistersModel.farOf -/
def mgc6369 : ak_C := (137, [.inl 81, .inr (false, [(3776, 3776)]), .inr (false, [(0, 3)]), .inr (false, [(0, 7)])], mgh20389, [], [([], some (.inr (false, [(0, 7)])), [])])
theorem mgk6369 : ai_chk [] mgc6369 (fun pc => sm_ch sm_t137 pc, sm_Kn 3 5 none, fun x => sm_lk sm_ca3 x, some .int) [] 5 0 [] [] 2000 [] = true := by decide +kernel
/-- MiceRegistersModel.likesIn -/
def mgc6370 : ak_C := (136, [.inl 81, .inr (false, [(3776, 3776)]), .inr (false, [(0, 3)]), .inr (false, [(0, 7)])], mgh20390, [], [([], some (.inr (false, ar_t32)), [])])
theorem mgk6370 : ai_chk [mgc6369, mgc6333] mgc6370 (fun pc => sm_ch sm_t136 pc, sm_Kn 3 4 none, fun x => sm_lk sm_ca3 x, some .int) [] 4 0 [] [] 2000 [] = true := by decide +kernel
/-- MiceRegistersModel.wants -/
def mgc6371 : ak_C := (134, [.inl 81, .inr (false, [(3776, 3776)]), .inr (false, [(0, 3)])], mgh20390, [], [([], some (.inr (false, [(-9, -9)])), []), ([], some (.inr (false, [(-9, -9), (0, 7)])), [])])
def mgx20452 : aw_A := ms_r [(0, [(-1, 40)]), (3780, ar_t32), (3781, ar_t32)]
def mgx20454 : aw_A := ms_r [(0, [(-1, 40)]), (3780, ar_t32), (3781, ar_t32), (3782, ar_t32)]
def mgx20456 : aw_A := ms_r [(0, [(-1, 40)]), (3780, ar_t32), (3781, ar_t32), (3782, ar_t32), (3783, ar_t32)]
def mgx20458 : aw_A := ms_r [(0, [(-1, 40)]), (3780, ar_t32), (3781, ar_t32), (3782, ar_t32), (3783, ar_t32), (3784, ar_t32)]
def mgx20460 : aw_A := ms_r [(0, [(-1, 40)]), (3780, ar_t32), (3781, ar_t32), (3782, ar_t32), (3783, ar_t32), (3784, ar_t32), (3785, ar_t32)]
def mgx20462 : aw_A := ms_r [(0, [(-1, 40)]), (3780, ar_t32), (3781, ar_t32), (3782, ar_t32), (3783, ar_t32), (3784, ar_t32), (3785, ar_t32), (3786, ar_t32)]
def mgx20464 : aw_A := ms_r [(0, [(-1, 40)]), (3780, ar_t32), (3781, ar_t32), (3782, ar_t32), (3783, ar_t32), (3784, ar_t32), (3785, ar_t32), (3786, ar_t32), (3787, ar_t32)]
def mgb6371 : sm_P := (fun pc => sm_ch sm_t134 pc, sm_Kn 3 9 none, fun x => sm_lk sm_ca3 x, some .int)
def czmg6371x0 : aw_A := ms_o [(0, 8)] [(0, 4)] ar_t32 ar_t32 [(0, 180)] [(0, 60)] [(-1, 60)] [(0, 8)] [(0, 4)]
def czmg6371h1 : aw_H := [(81, czmg6371x0), (82, ms_r [(0, [(-1, 40)])]), (83, .inr (.inl (0, 8, [], []))), (85, .inr (.inl (0, 4, [], [])))]
set_option maxRecDepth 100000 in
theorem mgk6371 : ai_ch2 [mgc6331, mgc6370, mgc6369] mgc6371 mgb6371 [] 9 0 [9] [] 2000 [.inr (5, false, [((9, [(0, .inl 81), (1, .inr (false, [(3776, 3776)])), (2, .inr (false, [(0, 3)])), (3, .inr (false, [(-9, -9), (0, 7)])), (4, .inr (false, [(0, 2147483647)])), (5, .inr (false, [(0, 8)]))], [], czmg6371h1), none)])] = true := by decide +kernel
/-- MiceRegistersModel.passes -/
def mgc6372 : ak_C := (150, [.inl 81, .inr (false, [(3776, 3776)]), .inr (false, ar_t32)], mgh20424, [82], [([], some (.inr (false, ar_t32)), mgh20427)])
def czmg6372x0 : aw_A := ms_o [(0, 8)] [(0, 4)] ar_t32 ar_t32 [(0, 180)] [(0, 60)] [(-1, 60)] [(0, 8)] [(0, 4)]
def czmg6372h1 : aw_H := [(81, czmg6372x0), (82, ms_r [(0, [(-1, 40)])]), (83, .inr (.inl (0, 8, [], []))), (85, .inr (.inl (0, 4, [], []))), (86, .inr (.inl (0, 4, [], [])))]
set_option maxRecDepth 100000 in
theorem mgk6372 : ai_ch2 [mgc6331, mgc6371, mgc6342] mgc6372 (fun pc => sm_ch sm_t150 pc, sm_Kn 3 7 none, fun x => sm_lk sm_ca3 x, some .int) [82] 7 0 [5, 130] [] 2000 [.inr (4, false, [((5, [(0, .inl 81), (1, .inr (false, [(3776, 3776)])), (2, .inr (false, ar_t32)), (3, .inr (false, ar_t32)), (4, .inr (false, [(0, 4)]))], [], czmg6372h1), none)]),
  .inr (4, false, [((130, [(0, .inl 81), (1, .inr (false, [(3776, 3776)])), (2, .inr (false, ar_t32)), (3, .inr (false, ar_t32)), (4, .inr (false, [(0, 8)]))], [], czmg6372h1), none)])] = true := by decide +kernel
/-- MiceRegistersModel.passTried -/
def mgc6373 : ak_C := (161, [.inl 81, .inr (false, [(0, 40)])], mgh20424, [82], [([], none, mgh20427)])
def czmg6373x0 : aw_A := ms_o [(0, 8)] [(0, 4)] ar_t32 ar_t32 [(0, 180)] [(0, 60)] [(-1, 60)] [(0, 8)] [(0, 4)]
def czmg6373h1 : aw_H := [(81, czmg6373x0), (82, ms_r [(0, [(-1, 40)])]), (83, .inr (.inl (0, 8, [], []))), (85, .inr (.inl (0, 4, [], []))), (86, .inr (.inl (0, 4, [], [])))]
set_option maxRecDepth 100000 in
theorem mgk6373 : ai_ch2 [mgc6372] mgc6373 (fun pc => sm_ch sm_t161 pc, sm_Kn 3 3 none, fun x => sm_lk sm_ca3 x, none) [82] 3 0 [2] [] 2000 [.inr (2, false, [((2, [(0, .inl 81), (1, .inr (false, [(0, 40)])), (2, .inr (false, [(0, 40)]))], [], czmg6373h1), none)])] = true := by decide +kernel
/-- MiceRegistersModel.left -/
def mgc6374 : ak_C := (159, [.inl 81, .inr (false, ar_t32), .inr (false, ar_t32)], mgh20424, [82], [([[], [], []], some (.inr (false, [(-1, -1)])), mgh20427), ([[], [(0, 7)], [(0, 40)]], some (.inr (false, ar_t32)), mgh20427)])
theorem mgk6374 : ai_chk [mgc6330, mgc6367, mgc6368, mgc6373] mgc6374 (fun pc => sm_ch sm_t159 pc, sm_Kn 3 3 none, fun x => sm_lk sm_ca3 x, some .int) [82] 3 3 [] [] 2000 [] = true := by decide +kernel
/-- MiceRegistersModel.eatenAt -/
def mgc6375 : ak_C := (163, [.inl 81, .inr (false, [(3776, 3776)])], mgh20389, [], [([], some (.inr (false, [(0, 0)])), []), ([], some (.inr (false, ar_t32)), [])])
def mgh20481 : aw_H := [(81, mgx20391), (82, ms_r [(0, [(-1, 40)]), (3780, ar_t32)])]
def mgh20482 : aw_H := [(81, mgx20393), (82, mgx20452)]
def mgh20483 : aw_H := [(81, mgx20396), (82, mgx20454)]
def mgh20484 : aw_H := [(81, mgx20399), (82, mgx20456)]
def mgh20485 : aw_H := [(81, mgx20402), (82, mgx20458)]
def mgh20486 : aw_H := [(81, mgx20405), (82, mgx20460)]
def mgh20487 : aw_H := [(81, mgx20408), (82, mgx20462)]
def mgh20488 : aw_H := [(81, mgx20411), (82, mgx20464)]
theorem mgk6375 : ai_chk [] mgc6375 (fun pc => sm_ch sm_t163 pc, sm_Kn 3 4 none, fun x => sm_lk sm_ca3 x, some .int) [] 4 0 [4] [] 2000 [(4, [(0, .inl 81), (1, .inr (false, [(3776, 3776)])), (2, .inr (false, [(0, 0)])), (3, .inr (false, [(0, 0)]))], [], mgh20389),
  (4, [(0, .inl 81), (1, .inr (false, [(3776, 3776)])), (2, .inr (false, [(0, 1)])), (3, .inr (false, [(1, 1)]))], [], mgh20481),
  (4, [(0, .inl 81), (1, .inr (false, [(3776, 3776)])), (2, .inr (false, ar_t32)), (3, .inr (false, [(2, 2)]))], [], mgh20482),
  (4, [(0, .inl 81), (1, .inr (false, [(3776, 3776)])), (2, .inr (false, ar_t32)), (3, .inr (false, [(3, 3)]))], [], mgh20483),
  (4, [(0, .inl 81), (1, .inr (false, [(3776, 3776)])), (2, .inr (false, ar_t32)), (3, .inr (false, [(4, 4)]))], [], mgh20484),
  (4, [(0, .inl 81), (1, .inr (false, [(3776, 3776)])), (2, .inr (false, ar_t32)), (3, .inr (false, [(5, 5)]))], [], mgh20485),
  (4, [(0, .inl 81), (1, .inr (false, [(3776, 3776)])), (2, .inr (false, ar_t32)), (3, .inr (false, [(6, 6)]))], [], mgh20486),
  (4, [(0, .inl 81), (1, .inr (false, [(3776, 3776)])), (2, .inr (false, ar_t32)), (3, .inr (false, [(7, 7)]))], [], mgh20487),
  (4, [(0, .inl 81), (1, .inr (false, [(3776, 3776)])), (2, .inr (false, ar_t32)), (3, .inr (false, [(8, 8)]))], [], mgh20488)] = true := by decide +kernel
/-- MiceRegistersModel.eaten -/
def mgc6376 : ak_C := (162, [.inl 81, .inr (false, ar_t32)], mgh20424, [82], [([[], [(-2147483648, -1), (41, 2147483647)]], some (.inr (false, [(-1, -1)])), mgh20427), ([[], [(0, 40)]], some (.inr (false, [(-4, -4)])), mgh20427), ([[], [(0, 40)]], some (.inr (false, ar_t32)), mgh20427), ([[], [(0, 40)]], some (.inr (false, [(0, 0)])), mgh20427)])
theorem mgk6376 : ai_chk [mgc6367, mgc6368, mgc6373, mgc6375] mgc6376 (fun pc => sm_ch sm_t162 pc, sm_Kn 3 2 none, fun x => sm_lk sm_ca3 x, some .int) [82] 2 2 [] [] 2000 [] = true := by decide +kernel
/-- MiceRegistersModel.when -/
def czmg6377x0 : aw_A := ms_o [(0, 8)] [(0, 4)] ar_t32 ar_t32 [(0, 180)] [(0, 60)] [(-1, 60)] [(0, 8)] [(0, 4)]
def czmg6377h1 : aw_H := [(81, czmg6377x0), (82, ms_r [(0, [(-1, 40)])]), (83, .inr (.inl (0, 8, [], []))), (85, .inr (.inl (0, 4, [], []))), (86, .inr (.inl (0, 4, [], [])))]
def czmg6377h2 : aw_H := [(82, ms_r [(0, [(-1, 40)])])]
def mgc6377 : ak_C := (164, [.inl 81, .inr (false, ar_t32)], mgh20424, [82], [([[], []], some (.inr (false, [(-1, -1)])), czmg6377h2), ([[], []], some (.inr (false, [(0, 40)])), czmg6377h2), ([[], []], some (.inr (false, [(-9, -9)])), czmg6377h2)])
set_option maxRecDepth 100000 in
theorem mgk6377 : ai_ch2 [mgc6330, mgc6368, mgc6373] mgc6377 (fun pc => sm_ch sm_t164 pc, sm_Kn 3 3 none, fun x => sm_lk sm_ca3 x, some .int) [82] 3 2 [16] [] 2000 [.inr (2, false, [((16, [(0, .inl 81), (1, .inr (false, [(0, 7)])), (2, .inr (false, [(0, 41)]))], [], czmg6377h1), none)])] = true := by decide +kernel
/-- MiceRegistersModel.in -/
def mgc6378 : ak_C := (105, [.inr (true, ar_t32), .inr (true, [(1, 1)]), .inr (true, [(20, 20)])], [], [], [([[(1, 20)], [], []], some (.inr (false, [(1, 1)])), []), ([[(-2147483648, 0), (21, 2147483647)], [], []], some (.inr (false, [(0, 0)])), [])])
theorem mgk6378 : ai_chk [] mgc6378 (fun pc => sm_ch sm_t105 pc, sm_Kn 3 6 none, fun x => sm_lk sm_ca3 x, some .boolean) [] 6 6 [] [] 2000 [] = true := by decide +kernel
/-- MiceRegistersModel.isSaved -/
def mgc6379 : ak_C := (166, [.inl 81, .inr (false, [(0, 7)]), .inr (false, [(0, 20)]), .inr (false, [(0, 7)]), .inr (false, [(0, 20)])], mgh20424, [82], [([], some (.inr (false, [(1, 1)])), mgh20427), ([], some (.inr (false, [(0, 0)])), mgh20427)])
theorem mgk6379 : ai_chk [mgc6368, mgc6373] mgc6379 (fun pc => sm_ch sm_t166 pc, sm_Kn 3 5 none, fun x => sm_lk sm_ca3 x, some .boolean) [82] 5 0 [] [] 2000 [] = true := by decide +kernel
def mgx20489 : aw_A := ms_o [(0, 8)] [(0, 4)] [(-9, -9)] ar_t32 [(0, 180)] [(0, 60)] [(-1, 60)] [(0, 8)] [(0, 4)]
def mgh20490 : aw_H := [(81, mgx20489), (82, ms_r [(0, [(-1, 40)])])]
def mgx20491 : aw_A := ms_o [(1, 8)] [(0, 4)] [(0, 7)] ar_t32 [(0, 180)] [(0, 60)] [(-1, 60)] [(0, 8)] [(0, 4)]
def mgh20492 : aw_H := [(81, mgx20491), (82, ms_r [(0, [(-1, 40)])])]
/-- MiceRegistersModel.save -/
def mgc6380 : ak_C := (165, [.inl 81, .inr (false, ar_t32), .inr (false, ar_t32)], mgh20424, [81, 82], [([[], [], []], some (.inr (false, [(-1, -1)])), mgh20389), ([[], [(0, 7)], [(1, 20)]], some (.inr (false, [(0, 0)])), mgh20490), ([[], [(0, 7)], [(1, 20)]], some (.inr (false, [(1, 20)])), mgh20492), ([[], [(0, 7)], [(1, 20)]], some (.inr (false, [(-9, -9)])), mgh20389)])
def mgx20515 : aw_A := ms_o [(0, 0)] [(0, 4)] ar_t32 ar_t32 [(0, 180)] [(0, 60)] [(-1, 60)] [(0, 8)] [(0, 4)]
def mgb6380 : sm_P := (fun pc => sm_ch sm_t165 pc, sm_Kn 3 5 none, fun x => sm_lk sm_ca3 x, some .int)
def czmg6380x0 : aw_A := ms_o [(0, 8)] [(0, 4)] ar_t32 ar_t32 [(0, 180)] [(0, 60)] [(-1, 60)] [(0, 8)] [(0, 4)]
def czmg6380h1 : aw_H := [(81, czmg6380x0), (82, ms_r [(0, [(-1, 40)])]), (83, .inr (.inl (0, 8, [], []))), (85, .inr (.inl (0, 4, [], []))), (86, .inr (.inl (0, 4, [], [])))]
set_option maxRecDepth 100000 in
theorem mgk6380 : ai_ch2 [mgc6330, mgc6378, mgc6379] mgc6380 mgb6380 [81, 82] 5 3 [43, 52] [] 2000 [.inr (3, false, [((43, [(0, .inl 81), (1, .inr (false, [(0, 7)])), (2, .inr (false, [(1, 20)])), (3, .inr (false, [(1, 21)]))], [], czmg6380h1), none), ((52, [(0, .inl 81), (1, .inr (false, [(0, 7)])), (2, .inr (false, [(1, 20)])), (3, .inr (false, [(1, 20)])), (4, .inr (false, [(0, 8)]))], [], czmg6380h1), some 4)])] = true := by decide +kernel

