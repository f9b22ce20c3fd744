theorem mgk6404 : ai_chk [] mgc6404 (fun pc => sm_ch sm_t168 pc, sm_Kn 3 4 none, fun x => sm_lk sm_ca3 x, some .int) [] 4 0 [4] [] 2000 [(4, [(0, .inl 81), (1, .inr (false, [(0, 0)])), (2, .inr (false, [(0, 0)])), (3, .inr (false, [(0, 0)]))], [], mgh20389),
  (4, [(0, .inl 81), (1, .inr (false, [(0, 0)])), (2, .inr (false, ar_t32)), (3, .inr (false, [(1, 1)]))], [], mgh20517),
  (4, [(0, .inl 81), (1, .inr (false, [(0, 0)])), (2, .inr (false, ar_t32)), (3, .inr (false, [(2, 2)]))], [], mgh20518),
  (4, [(0, .inl 81), (1, .inr (false, [(0, 0)])), (2, .inr (false, ar_t32)), (3, .inr (false, [(3, 3)]))], [], mgh20519),
  (4, [(0, .inl 81), (1, .inr (false, [(0, 0)])), (2, .inr (false, ar_t32)), (3, .inr (false, [(4, 4)]))], [], mgh20520),
  (4, [(0, .inl 81), (1, .inr (false, [(0, 0)])), (2, .inr (false, ar_t32)), (3, .inr (false, [(5, 5)]))], [], mgh20521),
  (4, [(0, .inl 81), (1, .inr (false, [(0, 0)])), (2, .inr (false, ar_t32)), (3, .inr (false, [(6, 6)]))], [], mgh20522),
  (4, [(0, .inl 81), (1, .inr (false, [(0, 0)])), (2, .inr (false, ar_t32)), (3, .inr (false, [(7, 7)]))], [], mgh20523),
  (4, [(0, .inl 81), (1, .inr (false, [(0, 0)])), (2, .inr (false, ar_t32)), (3, .inr (false, [(8, 8)]))], [], mgh20524)] = true := by decide +kernel
/-- MiceRegistersModel.thereOf -/
def mgh21420 : aw_H := [(81, mgx2), (82, ms_r [(0, [(-1, 40)])]), (87, mgx4), (89, mgx494)]
def mgc6405 : ak_C := (196, [.inl 81, .inr (false, [(11, 13)])], mgh21420, [], [([], some (.inr (false, [(0, 6)])), [])])
theorem mgk6405 : ai_chk [] mgc6405 (fun pc => sm_ch sm_t196 pc, sm_Kn 3 4 none, fun x => sm_lk sm_ca3 x, some .int) [] 4 0 [4] [] 2000 [(4, [(0, .inl 81), (1, .inr (false, [(11, 13)])), (2, .inr (false, [(0, 0)])), (3, .inr (false, [(0, 0)]))], [], mgh21420),
  (4, [(0, .inl 81), (1, .inr (false, [(11, 13)])), (2, .inr (false, [(0, 1)])), (3, .inr (false, [(1, 1)]))], [], mgh21420),
  (4, [(0, .inl 81), (1, .inr (false, [(11, 13)])), (2, .inr (false, [(0, 2)])), (3, .inr (false, [(2, 2)]))], [], mgh21420),
  (4, [(0, .inl 81), (1, .inr (false, [(11, 13)])), (2, .inr (false, [(0, 3)])), (3, .inr (false, [(3, 3)]))], [], mgh21420),
  (4, [(0, .inl 81), (1, .inr (false, [(11, 13)])), (2, .inr (false, [(0, 4)])), (3, .inr (false, [(4, 4)]))], [], mgh21420),
  (4, [(0, .inl 81), (1, .inr (false, [(11, 13)])), (2, .inr (false, [(0, 5)])), (3, .inr (false, [(5, 5)]))], [], mgh21420),
  (4, [(0, .inl 81), (1, .inr (false, [(11, 13)])), (2, .inr (false, [(0, 6)])), (3, .inr (false, [(6, 6)]))], [], mgh21420)] = true := by decide +kernel
/-- MiceRegistersModel.countOf -/
def mgh21421 : aw_H := [(81, mgx2), (82, ms_r [(0, [(-1, 40)])]), (85, .inr (.inl (0, 4, [], []))), (87, mgx4), (89, mgx494)]
def mgc6406 : ak_C := (194, [.inl 81, .inr (false, [(0, 13)])], mgh21421, [], [([[], []], some (.inr (false, ar_t32)), []), ([[], [(4, 5), (9, 10)]], some (.inr (false, [(0, 0)])), [])])
theorem mgk6406 : ai_chk [mgc6401, mgc6402, mgc6403, mgc6404, mgc6405] mgc6406 (fun pc => sm_ch sm_t194 pc, sm_Kn 3 2 none, fun x => sm_lk sm_ca3 x, some .int) [] 2 2 [] [] 2000 [] = true := by decide +kernel
/-- MiceRegistersModel.count -/
def mgc6407 : ak_C := (193, [.inl 81, .inr (false, ar_t32)], mgh21421, [], [([[], [(-2147483648, -1), (14, 2147483647)]], some (.inr (false, [(-1, -1)])), []), ([[], [(4, 5), (9, 10)]], some (.inr (false, [(0, 0)])), []), ([[], [(0, 13)]], some (.inr (false, ar_t32)), [])])
theorem mgk6407 : ai_chk [mgc6399, mgc6406] mgc6407 (fun pc => sm_ch sm_t193 pc, sm_Kn 3 2 none, fun x => sm_lk sm_ca3 x, some .int) [] 2 2 [] [] 2000 [] = true := by decide +kernel
/-- MiceRegistersModel.finding -/
def mgc6408 : ak_C := (197, [.inl 81], mgh10, [], [([], some (.inr (false, ar_t32)), [])])
theorem mgk6408 : ai_chk [] mgc6408 (fun pc => sm_ch sm_t197 pc, sm_Kn 3 1 none, fun x => sm_lk sm_ca3 x, some .int) [] 1 0 [] [] 2000 [] = true := by decide +kernel
/-- MiceRegistersModel.in -/
def mgc6409 : ak_C := (105, [.inr (true, ar_t32), .inr (true, [(1, 1)]), .inr (true, [(5, 5)])], [], [], [([[(1, 5)], [], []], some (.inr (false, [(1, 1)])), []), ([[(-2147483648, 0), (6, 2147483647)], [], []], some (.inr (false, [(0, 0)])), [])])
theorem mgk6409 : ai_chk [] mgc6409 (fun pc => sm_ch sm_t105 pc, sm_Kn 3 6 none, fun x => sm_lk sm_ca3 x, some .boolean) [] 6 6 [] [] 2000 [] = true := by decide +kernel
/-- MiceRegistersModel.findings -/
def mgc6410 : ak_C := (198, [.inl 81, .inr (false, ar_t32)], mgh3, [], [([[], [(-2147483648, 0), (6, 2147483647)]], some (.inr (false, [(-1, -1)])), []), ([[], [(1, 5)]], some (.inr (false, ar_t32)), [])])
theorem mgk6410 : ai_chk [mgc6409] mgc6410 (fun pc => sm_ch sm_t198 pc, sm_Kn 3 2 none, fun x => sm_lk sm_ca3 x, some .int) [] 2 2 [] [] 2000 [] = true := by decide +kernel
/-- MiceRegistersModel.digest -/
def mgh21422 : aw_H := [(81, mgx2), (82, ms_r [(0, [(-1, 40)])]), (83, .inr (.inl (0, 8, [], []))), (84, .inr (.inl (0, 8, [], []))), (85, .inr (.inl (0, 4, [], []))), (86, .inr (.inl (0, 4, [], []))), (87, mgx4), (88, .inr (.inl (0, 240, [], []))), (89, mgx494), (90, .inr (.inl (0, 240, [], [])))]
def mgc6411 : ak_C := (199, [.inl 81], mgh21422, [], [([], some (.inr (true, ar_t64)), [])])
def mgb6411 : sm_P := (fun pc => sm_ch sm_t199 pc, sm_Kn 3 5 none, fun x => sm_lk sm_ca3 x, some .long)
def czmg6411x0 : aw_A := ms_o [(0, 8)] [(0, 4)] ar_t32 ar_t32 [(0, 180)] [(0, 60)] [(-1, 60)] [(0, 8)] [(0, 4)]
def czmg6411x1 : aw_A := .inr (.inl (0, 6, [(0, 5, [(-1, 40)])], []))
def czmg6411x2 : aw_A := .inr (.inl (0, 4, [(0, 3, [(-1, 60)])], []))
def czmg6411h3 : aw_H := [(81, czmg6411x0), (82, ms_r [(0, [(-1, 40)])]), (83, .inr (.inl (0, 8, [], []))), (84, .inr (.inl (0, 8, [], []))), (85, .inr (.inl (0, 4, [], []))), (86, .inr (.inl (0, 4, [], []))), (87, czmg6411x1), (88, .inr (.inl (0, 240, [], []))), (89, czmg6411x2), (90, .inr (.inl (0, 240, [], [])))]
def czmg6411x4 : aw_A := .inr (.inl (0, 6, [(0, 5, [(-1, 40)])], [(0, [(-1, 40)])]))
def czmg6411h5 : aw_H := [(81, czmg6411x0), (82, ms_r [(0, [(-1, 40)])]), (83, .inr (.inl (0, 8, [], []))), (84, .inr (.inl (0, 8, [], []))), (85, .inr (.inl (0, 4, [], []))), (86, .inr (.inl (0, 4, [], []))), (87, czmg6411x4), (88, .inr (.inl (0, 240, [], []))), (89, czmg6411x2), (90, .inr (.inl (0, 240, [], [])))]
def czmg6411x6 : aw_A := .inr (.inl (0, 6, [(0, 5, [(-1, 40)])], [(0, [(-1, 40)]), (1, [(-1, 40)])]))
def czmg6411h7 : aw_H := [(81, czmg6411x0), (82, ms_r [(0, [(-1, 40)])]), (83, .inr (.inl (0, 8, [], []))), (84, .inr (.inl (0, 8, [], []))), (85, .inr (.inl (0, 4, [], []))), (86, .inr (.inl (0, 4, [], []))), (87, czmg6411x6), (88, .inr (.inl (0, 240, [], []))), (89, czmg6411x2), (90, .inr (.inl (0, 240, [], [])))]
def czmg6411x8 : aw_A := .inr (.inl (0, 6, [(0, 5, [(-1, 40)])], [(0, [(-1, 40)]), (1, [(-1, 40)]), (2, [(-1, 40)])]))
def czmg6411h9 : aw_H := [(81, czmg6411x0), (82, ms_r [(0, [(-1, 40)])]), (83, .inr (.inl (0, 8, [], []))), (84, .inr (.inl (0, 8, [], []))), (85, .inr (.inl (0, 4, [], []))), (86, .inr (.inl (0, 4, [], []))), (87, czmg6411x8), (88, .inr (.inl (0, 240, [], []))), (89, czmg6411x2), (90, .inr (.inl (0, 240, [], [])))]
def czmg6411x10 : aw_A := .inr (.inl (0, 6, [(0, 5, [(-1, 40)])], [(0, [(-1, 40)]), (1, [(-1, 40)]), (2, [(-1, 40)]), (3, [(-1, 40)])]))
def czmg6411h11 : aw_H := [(81, czmg6411x0), (82, ms_r [(0, [(-1, 40)])]), (83, .inr (.inl (0, 8, [], []))), (84, .inr (.inl (0, 8, [], []))), (85, .inr (.inl (0, 4, [], []))), (86, .inr (.inl (0, 4, [], []))), (87, czmg6411x10), (88, .inr (.inl (0, 240, [], []))), (89, czmg6411x2), (90, .inr (.inl (0, 240, [], [])))]
def czmg6411x12 : aw_A := .inr (.inl (0, 6, [(0, 5, [(-1, 40)])], [(0, [(-1, 40)]), (1, [(-1, 40)]), (2, [(-1, 40)]), (3, [(-1, 40)]), (4, [(-1, 40)])]))
