/-! Contracts over ranges of the reference, and their checks; printed by a program of mine. -/
/-- MiceRegistersModel.leftIn -/
def mgc6381 : ak_C := (168, [.inl 81, .inr (false, [(3776, 3776)])], mgh20389, [], [([], some (.inr (false, [(0, 0)])), []), ([], some (.inr (false, ar_t32)), [])])
def mgh20517 : aw_H := [(81, mgx20391), (82, ms_r [(0, [(-1, 40)])])]
def mgh20518 : aw_H := [(81, mgx20393), (82, ms_r [(0, [(-1, 40)])])]
def mgh20519 : aw_H := [(81, mgx20396), (82, ms_r [(0, [(-1, 40)])])]
def mgh20520 : aw_H := [(81, mgx20399), (82, ms_r [(0, [(-1, 40)])])]
def mgh20521 : aw_H := [(81, mgx20402), (82, ms_r [(0, [(-1, 40)])])]
def mgh20522 : aw_H := [(81, mgx20405), (82, ms_r [(0, [(-1, 40)])])]
def mgh20523 : aw_H := [(81, mgx20408), (82, ms_r [(0, [(-1, 40)])])]
def mgh20524 : aw_H := [(81, mgx20411), (82, ms_r [(0, [(-1, 40)])])]
theorem mgk6381 : ai_chk [] mgc6381 (fun pc => sm_ch sm_t168 pc, sm_Kn 3 4 none, fun x => sm_lk sm_ca3 x, some .int) [] 4 0 [4] [] 2000 [(4, [(0, .inl 81), (1, .inr (false, [(3776, 3776)])), (2, .inr (false, [(0, 0)])), (3, .inr (false, [(0, 0)]))], [], mgh20389),
  (4, [(0, .inl 81), (1, .inr (false, [(3776, 3776)])), (2, .inr (false, ar_t32)), (3, .inr (false, [(1, 1)]))], [], mgh20517),
  (4, [(0, .inl 81), (1, .inr (false, [(3776, 3776)])), (2, .inr (false, ar_t32)), (3, .inr (false, [(2, 2)]))], [], mgh20518),
  (4, [(0, .inl 81), (1, .inr (false, [(3776, 3776)])), (2, .inr (false, ar_t32)), (3, .inr (false, [(3, 3)]))], [], mgh20519),
  (4, [(0, .inl 81), (1, .inr (false, [(3776, 3776)])), (2, .inr (false, ar_t32)), (3, .inr (false, [(4, 4)]))], [], mgh20520),
  (4, [(0, .inl 81), (1, .inr (false, [(3776, 3776)])), (2, .inr (false, ar_t32)), (3, .inr (false, [(5, 5)]))], [], mgh20521),
  (4, [(0, .inl 81), (1, .inr (false, [(3776, 3776)])), (2, .inr (false, ar_t32)), (3, .inr (false, [(6, 6)]))], [], mgh20522),
  (4, [(0, .inl 81), (1, .inr (false, [(3776, 3776)])), (2, .inr (false, ar_t32)), (3, .inr (false, [(7, 7)]))], [], mgh20523),
  (4, [(0, .inl 81), (1, .inr (false, [(3776, 3776)])), (2, .inr (false, ar_t32)), (3, .inr (false, [(8, 8)]))], [], mgh20524)] = true := by decide +kernel
/-- MiceRegistersModel.guard -/
def czmg6382x0 : aw_A := ms_o [(0, 8)] [(1, 4)] ar_t32 ar_t32 [(0, 180)] [(0, 60)] [(-1, 60)] [(0, 8)] [(0, 4)]
def czmg6382h1 : aw_H := [(81, czmg6382x0), (82, ms_r [(0, [(-1, 40)])]), (83, .inr (.inl (0, 8, [], []))), (85, .inr (.inl (0, 4, [], []))), (86, .inr (.inl (0, 4, [], [])))]
def czmg6382x2 : aw_A := ms_o [(0, 8)] [(0, 4)] ar_t32 ar_t32 [(0, 180)] [(0, 60)] [(-1, 60)] [(0, 8)] [(0, 4)]
def czmg6382h3 : aw_H := [(81, czmg6382x2), (82, ms_r [(0, [(-1, 40)])])]
def czmg6382x4 : aw_A := ms_o [(0, 8)] [(0, 0)] ar_t32 ar_t32 [(0, 180)] [(0, 60)] [(-1, 60)] [(0, 8)] [(0, 4)]
def czmg6382h5 : aw_H := [(81, czmg6382x4), (82, ms_r [(0, [(-1, 40)])])]
def czmg6382h6 : aw_H := [(81, czmg6382x0), (82, ms_r [(0, [(-1, 40)])])]
def mgc6382 : ak_C := (167, [.inl 81, .inr (false, ar_t32)], mgh20424, [81, 82], [([[], []], some (.inr (false, [(-1, -1)])), czmg6382h3), ([[], []], some (.inr (false, [(-4, -4)])), czmg6382h5), ([[], []], some (.inr (false, [(-9, -9), (0, 7)])), czmg6382h6)])
set_option maxRecDepth 100000 in
theorem mgk6382 : ai_ch2 [mgc6378, mgc6368, mgc6373, mgc6381] mgc6382 (fun pc => sm_ch sm_t167 pc, sm_Kn 3 5 none, fun x => sm_lk sm_ca3 x, some .int) [81, 82] 5 2 [32] [] 2000 [.inr (4, false, [((32, [(0, .inl 81), (1, .inr (false, [(1, 20)])), (2, .inr (false, [(-9, -9), (0, 7)])), (3, .inr (false, ar_t32)), (4, .inr (false, [(0, 8)]))], [], czmg6382h1), none)])] = true := by decide +kernel
/-- MiceRegistersModel.in -/
def mgc6383 : ak_C := (105, [.inr (true, ar_t32), .inr (true, [(1, 1)]), .inr (true, [(10, 10)])], [], [], [([[(1, 10)], [], []], some (.inr (false, [(1, 1)])), []), ([[(-2147483648, 0), (11, 2147483647)], [], []], some (.inr (false, [(0, 0)])), [])])
theorem mgk6383 : ai_chk [] mgc6383 (fun pc => sm_ch sm_t105 pc, sm_Kn 3 6 none, fun x => sm_lk sm_ca3 x, some .boolean) [] 6 6 [] [] 2000 [] = true := by decide +kernel
/-- MiceRegistersModel.noRow -/
def mgc6384 : ak_C := (170, [.inl 81, .inr (false, [(0, 5)])], mgh7, [81, 91], [([], some (.inr (false, [(-3, -3)])), mgh1), ([], some (.inr (false, [(0, 0)])), mgh3)])
def czmg6384x0 : aw_A := ms_o [(0, 8)] [(0, 4)] ar_t32 ar_t32 [(0, 180)] [(0, 60)] [(-1, 60)] [(0, 8)] [(0, 4)]
def czmg6384x1 : aw_A := .inr (.inl (0, 6, [(0, 5, [(-1, 40)])], []))
def czmg6384h2 : aw_H := [(81, czmg6384x0), (87, czmg6384x1), (88, .inr (.inl (0, 240, [], []))), (91, .inr (.inl (0, 6, [], [])))]
set_option maxRecDepth 100000 in
theorem mgk6384 : ai_ch2 [mgc4, mgc6383, mgc6330] mgc6384 (fun pc => sm_ch sm_t170 pc, sm_Kn 3 4 none, fun x => sm_lk sm_ca3 x, some .int) [81, 91] 4 0 [42] [] 2000 [.inr (3, false, [((42, [(0, .inl 81), (1, .inr (false, [(0, 5)])), (2, .inr (false, [(0, 1)])), (3, .inr (false, [(0, 40)]))], [], czmg6384h2), none)])] = true := by decide +kernel
/-- MiceRegistersModel.isSo -/
def mgh20546 : aw_H := [(81, mgx2), (82, ms_r [(0, [(-1, 40)])]), (83, .inr (.inl (0, 8, [], []))), (85, .inr (.inl (0, 4, [], []))), (86, .inr (.inl (0, 4, [], []))), (87, mgx4), (88, .inr (.inl (0, 240, [], [])))]
def mgc6385 : ak_C := (171, [.inl 81, .inr (false, [(0, 3)]), .inr (false, [(0, 5)])], mgh20546, [82], [([], some (.inr (false, [(1, 1)])), mgh20427), ([], some (.inr (false, [(0, 1)])), mgh20427)])
def czmg6385x0 : aw_A := ms_o [(0, 8)] [(0, 4)] ar_t32 ar_t32 [(0, 180)] [(0, 60)] [(-1, 60)] [(0, 8)] [(0, 4)]
def czmg6385x1 : aw_A := .inr (.inl (0, 6, [(0, 5, [(-1, 40)])], []))
def czmg6385h2 : aw_H := [(81, czmg6385x0), (82, ms_r [(0, [(-1, 40)])]), (83, .inr (.inl (0, 8, [], []))), (85, .inr (.inl (0, 4, [], []))), (86, .inr (.inl (0, 4, [], []))), (87, czmg6385x1), (88, .inr (.inl (0, 240, [], [])))]
set_option maxRecDepth 100000 in
theorem mgk6385 : ai_ch2 [mgc6373] mgc6385 (fun pc => sm_ch sm_t171 pc, sm_Kn 3 5 none, fun x => sm_lk sm_ca3 x, some .boolean) [82] 5 0 [5] [] 2000 [.inr (4, false, [((5, [(0, .inl 81), (1, .inr (false, [(0, 3)])), (2, .inr (false, [(0, 5)])), (3, .inr (false, [(0, 1)])), (4, .inr (false, [(0, 40)]))], [], czmg6385h2), none)])] = true := by decide +kernel
def mgh20547 : aw_H := [(81, mgx20515), (82, ms_r [(0, [(-1, 40)])]), (91, .inr (.inl (0, 6, [], [])))]
def mgh20548 : aw_H := [(81, mgx20391), (82, ms_r [(0, [(-1, 40)])]), (91, .inr (.inl (0, 6, [], [])))]
/-- MiceRegistersModel.places -/
def mgh20549 : aw_H := [(81, mgx2), (82, ms_r [(0, [(-1, 40)])]), (83, .inr (.inl (0, 8, [], []))), (85, .inr (.inl (0, 4, [], []))), (86, .inr (.inl (0, 4, [], []))), (87, mgx4), (88, .inr (.inl (0, 240, [], []))), (91, .inr (.inl (0, 6, [], [])))]
def mgc6386 : ak_C := (169, [.inl 81, .inr (false, ar_t32), .inr (false, ar_t32)], mgh20549, [81, 82, 91], [([[], [(0, 3)], [(0, 5)]], some (.inr (false, [(-3, -3)])), mgh20449), ([[], [], []], some (.inr (false, [(-1, -1)])), mgh20448), ([[], [(0, 3)], [(0, 5)]], some (.inr (false, [(0, 0)])), mgh20547), ([[], [(0, 3)], [(0, 5)]], some (.inr (false, ar_t32)), mgh20548)])
def mgh20550 : aw_H := [(81, mgx20391), (82, ms_r [(0, [(-1, 40)])]), (83, .inr (.inl (0, 8, [], []))), (85, .inr (.inl (0, 4, [], []))), (86, .inr (.inl (0, 4, [], []))), (87, mgx4), (88, .inr (.inl (0, 240, [], []))), (91, .inr (.inl (0, 6, [], [])))]
def mgh20551 : aw_H := [(81, mgx20393), (82, ms_r [(0, [(-1, 40)])]), (83, .inr (.inl (0, 8, [], []))), (85, .inr (.inl (0, 4, [], []))), (86, .inr (.inl (0, 4, [], []))), (87, mgx4), (88, .inr (.inl (0, 240, [], []))), (91, .inr (.inl (0, 6, [], [])))]
def mgh20552 : aw_H := [(81, mgx20396), (82, ms_r [(0, [(-1, 40)])]), (83, .inr (.inl (0, 8, [], []))), (85, .inr (.inl (0, 4, [], []))), (86, .inr (.inl (0, 4, [], []))), (87, mgx4), (88, .inr (.inl (0, 240, [], []))), (91, .inr (.inl (0, 6, [], [])))]
def mgh20553 : aw_H := [(81, mgx20399), (82, ms_r [(0, [(-1, 40)])]), (83, .inr (.inl (0, 8, [], []))), (85, .inr (.inl (0, 4, [], []))), (86, .inr (.inl (0, 4, [], []))), (87, mgx4), (88, .inr (.inl (0, 240, [], []))), (91, .inr (.inl (0, 6, [], [])))]
def mgh20554 : aw_H := [(81, mgx20402), (82, ms_r [(0, [(-1, 40)])]), (83, .inr (.inl (0, 8, [], []))), (85, .inr (.inl (0, 4, [], []))), (86, .inr (.inl (0, 4, [], []))), (87, mgx4), (88, .inr (.inl (0, 240, [], []))), (91, .inr (.inl (0, 6, [], [])))]
def mgh20555 : aw_H := [(81, mgx20405), (82, ms_r [(0, [(-1, 40)])]), (83, .inr (.inl (0, 8, [], []))), (85, .inr (.inl (0, 4, [], []))), (86, .inr (.inl (0, 4, [], []))), (87, mgx4), (88, .inr (.inl (0, 240, [], []))), (91, .inr (.inl (0, 6, [], [])))]
def mgh20556 : aw_H := [(81, mgx20408), (82, ms_r [(0, [(-1, 40)])]), (83, .inr (.inl (0, 8, [], []))), (85, .inr (.inl (0, 4, [], []))), (86, .inr (.inl (0, 4, [], []))), (87, mgx4), (88, .inr (.inl (0, 240, [], []))), (91, .inr (.inl (0, 6, [], [])))]
def mgh20557 : aw_H := [(81, mgx20411), (82, ms_r [(0, [(-1, 40)])]), (83, .inr (.inl (0, 8, [], []))), (85, .inr (.inl (0, 4, [], []))), (86, .inr (.inl (0, 4, [], []))), (87, mgx4), (88, .inr (.inl (0, 240, [], []))), (91, .inr (.inl (0, 6, [], [])))]
theorem mgk6386 : ai_chk [mgc6340, mgc3, mgc6384, mgc6368, mgc6385] mgc6386 (fun pc => sm_ch sm_t169 pc, sm_Kn 3 6 none, fun x => sm_lk sm_ca3 x, some .int) [81, 82, 91] 6 3 [35] [] 2000 [(35, [(0, .inl 81), (1, .inr (false, [(0, 3)])), (2, .inr (false, [(0, 5)])), (3, .inr (false, [(0, 0)])), (4, .inr (false, [(0, 0)])), (5, .inr (false, [(0, 0)]))], [], mgh20549),
  (35, [(0, .inl 81), (1, .inr (false, [(0, 3)])), (2, .inr (false, [(0, 5)])), (3, .inr (false, [(0, 0)])), (4, .inr (false, [(0, 1)])), (5, .inr (false, [(1, 1)]))], [], mgh20550),
  (35, [(0, .inl 81), (1, .inr (false, [(0, 3)])), (2, .inr (false, [(0, 5)])), (3, .inr (false, [(0, 0)])), (4, .inr (false, ar_t32)), (5, .inr (false, [(2, 2)]))], [], mgh20551),
  (35, [(0, .inl 81), (1, .inr (false, [(0, 3)])), (2, .inr (false, [(0, 5)])), (3, .inr (false, [(0, 0)])), (4, .inr (false, ar_t32)), (5, .inr (false, [(3, 3)]))], [], mgh20552),
  (35, [(0, .inl 81), (1, .inr (false, [(0, 3)])), (2, .inr (false, [(0, 5)])), (3, .inr (false, [(0, 0)])), (4, .inr (false, ar_t32)), (5, .inr (false, [(4, 4)]))], [], mgh20553),
  (35, [(0, .inl 81), (1, .inr (false, [(0, 3)])), (2, .inr (false, [(0, 5)])), (3, .inr (false, [(0, 0)])), (4, .inr (false, ar_t32)), (5, .inr (false, [(5, 5)]))], [], mgh20554),
  (35, [(0, .inl 81), (1, .inr (false, [(0, 3)])), (2, .inr (false, [(0, 5)])), (3, .inr (false, [(0, 0)])), (4, .inr (false, ar_t32)), (5, .inr (false, [(6, 6)]))], [], mgh20555),
  (35, [(0, .inl 81), (1, .inr (false, [(0, 3)])), (2, .inr (false, [(0, 5)])), (3, .inr (false, [(0, 0)])), (4, .inr (false, ar_t32)), (5, .inr (false, [(7, 7)]))], [], mgh20556),
  (35, [(0, .inl 81), (1, .inr (false, [(0, 3)])), (2, .inr (false, [(0, 5)])), (3, .inr (false, [(0, 0)])), (4, .inr (false, ar_t32)), (5, .inr (false, [(8, 8)]))], [], mgh20557)] = true := by decide +kernel
def mgh20558 : aw_H := [(82, ms_r [(0, [(-1, 40)])]), (85, .inr (.inl (0, 4, [], [])))]
/-- MiceRegistersModel.kindsBy -/
def mgc6387 : ak_C := (173, [.inl 81, .inr (false, [(0, 3)]), .inr (false, [(0, 5)])], mgh20546, [82, 85], [([], some (.inr (false, ar_t32)), mgh20558)])
theorem mgk6387 : ai_chk [mgc6368, mgc6385] mgc6387 (fun pc => sm_ch sm_t173 pc, sm_Kn 3 6 none, fun x => sm_lk sm_ca3 x, some .int) [82, 85] 6 0 [13] [] 2000 [(13, [(0, .inl 81), (1, .inr (false, [(0, 3)])), (2, .inr (false, [(0, 5)])), (3, .inr (false, ar_t32)), (4, .inr (false, [(0, 0)])), (5, .inr (false, [(0, 0)]))], [], mgh20546),
  (13, [(0, .inl 81), (1, .inr (false, [(0, 3)])), (2, .inr (false, [(0, 5)])), (3, .inr (false, ar_t32)), (4, .inr (false, [(0, 1)])), (5, .inr (false, [(1, 1)]))], [], mgh20546),
  (13, [(0, .inl 81), (1, .inr (false, [(0, 3)])), (2, .inr (false, [(0, 5)])), (3, .inr (false, ar_t32)), (4, .inr (false, ar_t32)), (5, .inr (false, [(2, 2)]))], [], mgh20546),
  (13, [(0, .inl 81), (1, .inr (false, [(0, 3)])), (2, .inr (false, [(0, 5)])), (3, .inr (false, ar_t32)), (4, .inr (false, ar_t32)), (5, .inr (false, [(3, 3)]))], [], mgh20546),
  (13, [(0, .inl 81), (1, .inr (false, [(0, 3)])), (2, .inr (false, [(0, 5)])), (3, .inr (false, ar_t32)), (4, .inr (false, ar_t32)), (5, .inr (false, [(4, 4)]))], [], mgh20546),
  (13, [(0, .inl 81), (1, .inr (false, [(0, 3)])), (2, .inr (false, [(0, 5)])), (3, .inr (false, ar_t32)), (4, .inr (false, ar_t32)), (5, .inr (false, [(5, 5)]))], [], mgh20546),
  (13, [(0, .inl 81), (1, .inr (false, [(0, 3)])), (2, .inr (false, [(0, 5)])), (3, .inr (false, ar_t32)), (4, .inr (false, ar_t32)), (5, .inr (false, [(6, 6)]))], [], mgh20546)] = true := by decide +kernel
def mgh20559 : aw_H := [(81, mgx2), (82, ms_r [(0, [(-1, 40)])]), (85, .inr (.inl (0, 4, [], []))), (91, .inr (.inl (0, 6, [], [])))]
def mgh20560 : aw_H := [(81, mgx0), (82, ms_r [(0, [(-1, 40)])]), (85, .inr (.inl (0, 4, [], []))), (91, .inr (.inl (0, 6, [], [])))]
/-- MiceRegistersModel.kinds -/
def mgc6388 : ak_C := (172, [.inl 81, .inr (false, ar_t32), .inr (false, ar_t32)], mgh20549, [81, 82, 85, 91], [([[], [(0, 3)], [(0, 5)]], some (.inr (false, ar_t32)), mgh20559), ([[], [(0, 3)], [(0, 5)]], some (.inr (false, [(-3, -3)])), mgh20560), ([[], [], []], some (.inr (false, [(-1, -1)])), mgh20559)])
theorem mgk6388 : ai_chk [mgc6340, mgc3, mgc6384, mgc6387] mgc6388 (fun pc => sm_ch sm_t172 pc, sm_Kn 3 4 none, fun x => sm_lk sm_ca3 x, some .int) [81, 82, 85, 91] 4 3 [] [] 2000 [] = true := by decide +kernel
def mgh20561 : aw_H := [(82, ms_r [(0, [(-1, 40)])]), (85, .inr (.inl (0, 4, [], []))), (95, .inr (.inl (0, 168, [], [])))]
/-- MiceRegistersModel.layParts -/
def mgh20562 : aw_H := [(81, mgx2), (82, ms_r [(0, [(-1, 40)])]), (83, .inr (.inl (0, 8, [], []))), (85, .inr (.inl (0, 4, [], []))), (86, .inr (.inl (0, 4, [], []))), (95, .inr (.inl (0, 168, [], [])))]
def mgc6389 : ak_C := (175, [.inl 81, .inr (false, [(0, 3)]), .inr (false, ar_t32)], mgh20562, [82, 85, 95], [([], none, mgh20561)])
def mgb6389 : sm_P := (fun pc => sm_ch sm_t175 pc, sm_Kn 3 6 none, fun x => sm_lk sm_ca3 x, none)
def czmg6389x0 : aw_A := ms_o [(0, 8)] [(0, 4)] ar_t32 ar_t32 [(0, 180)] [(0, 60)] [(-1, 60)] [(0, 8)] [(0, 4)]
def czmg6389h1 : aw_H := [(81, czmg6389x0), (82, ms_r [(0, [(-1, 40)])]), (83, .inr (.inl (0, 8, [], []))), (85, .inr (.inl (0, 4, [], []))), (86, .inr (.inl (0, 4, [], []))), (95, .inr (.inl (0, 168, [], [])))]
set_option maxRecDepth 100000 in
theorem mgk6389 : ai_ch2 [mgc6331, mgc6368, mgc6373] mgc6389 mgb6389 [82, 85, 95] 6 0 [10, 35, 66] [] 2000 [.inr (4, false, [((10, [(0, .inl 81), (1, .inr (false, [(0, 3)])), (2, .inr (false, ar_t32)), (3, .inr (false, ar_t32)), (4, .inr (false, [(0, 168)]))], [], czmg6389h1), none)]),
  .inr (4, false, [((35, [(0, .inl 81), (1, .inr (false, [(0, 3)])), (2, .inr (false, ar_t32)), (3, .inr (false, ar_t32)), (4, .inr (false, [(0, 6)]))], [], czmg6389h1), none), ((66, [(0, .inl 81), (1, .inr (false, [(0, 3)])), (2, .inr (false, ar_t32)), (3, .inr (false, ar_t32)), (4, .inr (false, [(0, 5)])), (5, .inr (false, [(1, 21)]))], [], czmg6389h1), some 5)])] = true := by decide +kernel

