/-! Contracts over ranges of the reference, and their checks; printed by a program of mine. -/
/-- MiceRegistersModel.look -/
def mgh20568 : aw_H := [(81, mgx2), (82, ms_r [(0, [(-1, 40)])]), (83, .inr (.inl (0, 8, [], []))), (85, .inr (.inl (0, 4, [], []))), (86, .inr (.inl (0, 4, [], []))), (87, mgx4), (88, .inr (.inl (0, 240, [], []))), (91, .inr (.inl (0, 6, [], []))), (95, .inr (.inl (0, 168, [], [])))]
def czmg6390x0 : aw_A := ms_o [(0, 8)] [(0, 4)] ar_t32 ar_t32 [(0, 180)] [(0, 60)] [(-1, 60)] [(0, 8)] [(0, 4)]
def czmg6390x1 : aw_A := .inr (.inl (0, 6, [(0, 5, [(-1, 40)])], []))
def czmg6390h2 : aw_H := [(81, czmg6390x0), (82, ms_r [(0, [(-1, 40)])]), (83, .inr (.inl (0, 8, [], []))), (85, .inr (.inl (0, 4, [], []))), (86, .inr (.inl (0, 4, [], []))), (87, czmg6390x1), (88, .inr (.inl (0, 240, [], []))), (91, .inr (.inl (0, 6, [], []))), (95, .inr (.inl (0, 168, [], [])))]
def czmg6390h3 : aw_H := [(81, czmg6390x0), (82, ms_r [(0, [(-1, 40)])]), (85, .inr (.inl (0, 4, [], []))), (91, .inr (.inl (0, 6, [], []))), (95, .inr (.inl (0, 168, [], [])))]
def czmg6390x4 : aw_A := ms_o [(0, 8)] [(0, 4)] ar_t32 [(1, 5)] [(0, 180)] [(0, 60)] [(-1, 60)] [(0, 8)] [(0, 4)]
def czmg6390h5 : aw_H := [(81, czmg6390x4), (82, ms_r [(0, [(-1, 40)])]), (85, .inr (.inl (0, 4, [], []))), (91, .inr (.inl (0, 6, [], []))), (95, .inr (.inl (0, 168, [], [])))]
def czmg6390x6 : aw_A := ms_o [(0, 8)] [(0, 4)] [(-2147483648, 99999)] ar_t32 [(0, 180)] [(0, 60)] [(-1, 60)] [(0, 8)] [(0, 4)]
def czmg6390h7 : aw_H := [(81, czmg6390x6), (82, ms_r [(0, [(-1, 40)])]), (85, .inr (.inl (0, 4, [], []))), (91, .inr (.inl (0, 6, [], []))), (95, .inr (.inl (0, 168, [], [])))]
def mgc6390 : ak_C := (174, [.inl 81, .inr (false, ar_t32), .inr (false, ar_t32)], mgh20568, [81, 82, 85, 91, 95], [([[], [], []], some (.inr (false, [(-9, -9)])), czmg6390h3), ([[], [], []], some (.inr (false, [(-3, -3)])), czmg6390h5), ([[], [], []], some (.inr (false, [(-1, -1)])), czmg6390h3), ([[], [], []], some (.inr (false, ar_t32)), czmg6390h7)])
def mgb6390 : sm_P := (fun pc => sm_ch sm_t174 pc, sm_Kn 3 10 none, fun x => sm_lk sm_ca3 x, some .int)
set_option maxRecDepth 100000 in
theorem mgk6390 : ai_ch2 [mgc6340, mgc3, mgc6384, mgc6387, mgc6389] mgc6390 mgb6390 [81, 82, 85, 91, 95] 10 3 [63, 76] [] 2000 [.inr (7, false, [((63, [(0, .inl 81), (1, .inr (false, [(0, 3)])), (2, .inr (false, [(0, 5)])), (3, .inr (false, [(0, 0)])), (4, .inr (false, ar_t32)), (5, .inr (false, ar_t32)), (6, .inr (false, [(-2147483648, 99999)])), (7, .inr (false, [(1, 21)]))], [], czmg6390h2), none), ((76, [(0, .inl 81), (1, .inr (false, [(0, 3)])), (2, .inr (false, [(0, 5)])), (3, .inr (false, [(0, 0)])), (4, .inr (false, ar_t32)), (5, .inr (false, ar_t32)), (6, .inr (false, [(-2147483648, 99999)])), (7, .inr (false, [(1, 20)])), (8, .inr (false, ar_t32)), (9, .inr (false, [(0, 8)]))], [], czmg6390h2), some 9)])] = true := by decide +kernel
/-- MiceRegistersModel.in -/
def mgc6391 : ak_C := (105, [.inr (true, ar_t32), .inr (true, [(0, 0)]), .inr (true, [(320, 320)])], [], [], [([[(0, 320)], [], []], some (.inr (false, [(1, 1)])), []), ([[(-2147483648, -1), (321, 2147483647)], [], []], some (.inr (false, [(0, 0)])), [])])
theorem mgk6391 : ai_chk [] mgc6391 (fun pc => sm_ch sm_t105 pc, sm_Kn 3 6 none, fun x => sm_lk sm_ca3 x, some .boolean) [] 6 6 [] [] 2000 [] = true := by decide +kernel
/-- MiceRegistersModel.noSets -/
def mgc6392 : ak_C := (177, [.inl 81, .inr (false, ar_t32)], mgh10, [], [([[], [(-2147483648, -1), (321, 2147483647)]], some (.inr (false, [(-1, -1)])), []), ([[], [(0, 320)]], some (.inr (false, [(-4, -4)])), []), ([[], [(0, 320)]], some (.inr (false, [(0, 0)])), [])])
theorem mgk6392 : ai_chk [mgc6391] mgc6392 (fun pc => sm_ch sm_t177 pc, sm_Kn 3 2 none, fun x => sm_lk sm_ca3 x, some .int) [] 2 2 [] [] 2000 [] = true := by decide +kernel
/-- MiceRegistersModel.leftOf -/
def mgc6393 : ak_C := (178, [.inl 81, .inr (false, ar_t32)], mgh20389, [], [([], some (.inr (false, [(0, 0)])), []), ([], some (.inr (false, ar_t32)), [])])
theorem mgk6393 : ai_chk [mgc6331] mgc6393 (fun pc => sm_ch sm_t178 pc, sm_Kn 3 4 none, fun x => sm_lk sm_ca3 x, some .int) [] 4 0 [4] [] 2000 [(4, [(0, .inl 81), (1, .inr (false, ar_t32)), (2, .inr (false, [(0, 0)])), (3, .inr (false, [(0, 0)]))], [], mgh20389),
  (4, [(0, .inl 81), (1, .inr (false, ar_t32)), (2, .inr (false, ar_t32)), (3, .inr (false, [(1, 1)]))], [], mgh20517),
  (4, [(0, .inl 81), (1, .inr (false, ar_t32)), (2, .inr (false, ar_t32)), (3, .inr (false, [(2, 2)]))], [], mgh20518),
  (4, [(0, .inl 81), (1, .inr (false, ar_t32)), (2, .inr (false, ar_t32)), (3, .inr (false, [(3, 3)]))], [], mgh20519),
  (4, [(0, .inl 81), (1, .inr (false, ar_t32)), (2, .inr (false, ar_t32)), (3, .inr (false, [(4, 4)]))], [], mgh20520),
  (4, [(0, .inl 81), (1, .inr (false, ar_t32)), (2, .inr (false, ar_t32)), (3, .inr (false, [(5, 5)]))], [], mgh20521),
  (4, [(0, .inl 81), (1, .inr (false, ar_t32)), (2, .inr (false, ar_t32)), (3, .inr (false, [(6, 6)]))], [], mgh20522),
  (4, [(0, .inl 81), (1, .inr (false, ar_t32)), (2, .inr (false, ar_t32)), (3, .inr (false, [(7, 7)]))], [], mgh20523),
  (4, [(0, .inl 81), (1, .inr (false, ar_t32)), (2, .inr (false, ar_t32)), (3, .inr (false, [(8, 8)]))], [], mgh20524)] = true := by decide +kernel
/-- MiceRegistersModel.sets -/
def czmg6394x0 : aw_A := ms_o [(0, 8)] [(0, 4)] [(-9, 255)] ar_t32 [(0, 180)] [(0, 60)] [(-1, 60)] [(0, 8)] [(0, 4)]
def czmg6394h1 : aw_H := [(81, czmg6394x0), (82, ms_r [(0, [(-1, 40)])])]
def czmg6394x2 : aw_A := ms_o [(0, 8)] [(0, 4)] ar_t32 ar_t32 [(0, 180)] [(0, 60)] [(-1, 60)] [(0, 8)] [(0, 4)]
def czmg6394h3 : aw_H := [(81, czmg6394x2)]
def czmg6394x4 : aw_A := .inl (3, [.inl 82, .inr (false, [(0, 8)]), .inl 83, .inl 84, .inr (false, [(0, 4)]), .inl 85, .inl 86, .inl 87, .inl 88, .inl 89, .inl 90, .inr (false, [(-9, 255)]), .inr (true, ar_t32), .inr (true, [(1, 1)]), .inr (false, ar_t32), .inl 91, .inr (false, [(0, 180)]), .inr (false, [(0, 60)]), .inr (false, [(-1, 60)]), .inr (false, [(0, 8)]), .inl 92, .inl 93, .inr (false, [(0, 4)]), .inl 94, .inl 95, .inl 96, .inl 97])
def czmg6394h5 : aw_H := [(81, czmg6394x4)]
def mgc6394 : ak_C := (176, [.inl 81, .inr (false, ar_t32)], mgh20389, [81], [([[], []], some (.inr (false, [(-4, -4)])), czmg6394h3), ([[], []], some (.inr (false, [(-1, -1)])), czmg6394h3), ([[], []], some (.inr (false, [(1, 1)])), czmg6394h5)])
def mgb6394 : sm_P := (fun pc => sm_ch sm_t176 pc, sm_Kn 3 6 none, fun x => sm_lk sm_ca3 x, some .int)
set_option maxRecDepth 100000 in
theorem mgk6394 : ai_ch2 [mgc6392, mgc6393] mgc6394 mgb6394 [81] 6 2 [30] [(14, some (1, 81, 1), 0, 9)] 2000 [.inr (4, true, [((30, [(0, .inl 81), (1, .inr (false, [(0, 320)])), (2, .inr (false, [(0, 0)])), (3, .inr (false, ar_t32)), (4, .inr (false, [(-1, 255)]))], [], czmg6394h1), none)])] = true := by decide +kernel

