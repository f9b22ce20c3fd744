/-! Contracts over ranges of the reference, and their checks; printed by a program of mine. -/
def mgx21405 : aw_A := .inr (.inl (0, 4, [(0, 3, [(0, 9)])], []))
def mgh21406 : aw_H := [(81, mgx2), (82, ms_r [(0, [(-1, 40)])]), (96, mgx21405), (97, .inr (.inl (0, 5, [], [])))]
/-- MiceRegistersModel.duel -/
def mgh21407 : aw_H := [(81, mgx2), (82, ms_r [(0, [(-1, 40)])]), (83, .inr (.inl (0, 8, [], []))), (85, .inr (.inl (0, 4, [], []))), (86, .inr (.inl (0, 4, [], []))), (96, mgx21405), (97, .inr (.inl (0, 5, [], [])))]
def mgc1 : ak_C := (180, [.inl 81, .inr (false, ar_t32), .inr (false, ar_t32), .inr (false, ar_t32)], mgh21407, [81, 82, 96, 97], [([], some (.inr (false, [(-1, -1)])), mgh21406), ([], some (.inr (false, [(1, 1)])), mgh21406)])
/-- MiceRegistersModel.asked -/
def mgc6396 : ak_C := (190, [.inl 81], mgh10, [], [([], some (.inr (false, ar_t32)), [])])
theorem mgk6396 : ai_chk [] mgc6396 (fun pc => sm_ch sm_t190 pc, sm_Kn 3 1 none, fun x => sm_lk sm_ca3 x, some .int) [] 1 0 [] [] 2000 [] = true := by decide +kernel
/-- MiceRegistersModel.upper -/
def mgc6397 : ak_C := (191, [.inl 81], mgh10, [], [([], some (.inr (true, ar_t64)), [])])
theorem mgk6397 : ai_chk [] mgc6397 (fun pc => sm_ch sm_t191 pc, sm_Kn 3 1 none, fun x => sm_lk sm_ca3 x, some .long) [] 1 0 [] [] 2000 [] = true := by decide +kernel
/-- MiceRegistersModel.lower -/
def mgc6398 : ak_C := (192, [.inl 81], mgh10, [], [([], some (.inr (true, ar_t64)), [])])
theorem mgk6398 : ai_chk [] mgc6398 (fun pc => sm_ch sm_t192 pc, sm_Kn 3 1 none, fun x => sm_lk sm_ca3 x, some .long) [] 1 0 [] [] 2000 [] = true := by decide +kernel
/-- MiceRegistersModel.in -/
def mgc6399 : ak_C := (105, [.inr (true, ar_t32), .inr (true, [(0, 0)]), .inr (true, [(13, 13)])], [], [], [([[(0, 13)], [], []], some (.inr (false, [(1, 1)])), []), ([[(-2147483648, -1), (14, 2147483647)], [], []], some (.inr (false, [(0, 0)])), [])])
theorem mgk6399 : ai_chk [] mgc6399 (fun pc => sm_ch sm_t105 pc, sm_Kn 3 6 none, fun x => sm_lk sm_ca3 x, some .boolean) [] 6 6 [] [] 2000 [] = true := by decide +kernel
/-- MiceRegistersModel.isOf -/
def mgc6400 : ak_C := (144, [.inl 81, .inr (false, [(0, 3)]), .inr (false, ar_t32)], mgh20450, [], [([], some (.inr (false, [(0, 0)])), []), ([], some (.inr (false, [(1, 1)])), [])])
theorem mgk6400 : ai_chk [] mgc6400 (fun pc => sm_ch sm_t144 pc, sm_Kn 3 4 none, fun x => sm_lk sm_ca3 x, some .boolean) [] 4 0 [] [] 2000 [] = true := by decide +kernel
/-- MiceRegistersModel.those -/
def mgc6401 : ak_C := (195, [.inl 81, .inr (false, ar_t32)], mgh20450, [], [([], some (.inr (false, [(0, 0)])), []), ([], some (.inr (false, [(0, 4)])), [])])
def mgh21408 : aw_H := [(81, mgx20414), (85, .inr (.inl (0, 4, [], [])))]
def mgh21409 : aw_H := [(81, mgx20416), (85, .inr (.inl (0, 4, [], [])))]
def mgh21410 : aw_H := [(81, mgx20418), (85, .inr (.inl (0, 4, [], [])))]
def mgh21411 : aw_H := [(81, mgx20420), (85, .inr (.inl (0, 4, [], [])))]
theorem mgk6401 : ai_chk [mgc6400] mgc6401 (fun pc => sm_ch sm_t195 pc, sm_Kn 3 4 none, fun x => sm_lk sm_ca3 x, some .int) [] 4 0 [4] [] 2000 [(4, [(0, .inl 81), (1, .inr (false, ar_t32)), (2, .inr (false, [(0, 0)])), (3, .inr (false, [(0, 0)]))], [], mgh20450),
  (4, [(0, .inl 81), (1, .inr (false, ar_t32)), (2, .inr (false, [(0, 1)])), (3, .inr (false, [(1, 1)]))], [], mgh21408),
  (4, [(0, .inl 81), (1, .inr (false, ar_t32)), (2, .inr (false, [(0, 2)])), (3, .inr (false, [(2, 2)]))], [], mgh21409),
  (4, [(0, .inl 81), (1, .inr (false, ar_t32)), (2, .inr (false, [(0, 3)])), (3, .inr (false, [(3, 3)]))], [], mgh21410),
  (4, [(0, .inl 81), (1, .inr (false, ar_t32)), (2, .inr (false, [(0, 4)])), (3, .inr (false, [(4, 4)]))], [], mgh21411)] = true := by decide +kernel
/-- MiceRegistersModel.cheeses -/
def mgc6402 : ak_C := (147, [.inl 81], mgh20389, [], [([], some (.inr (false, ar_t32)), [])])
theorem mgk6402 : ai_chk [] mgc6402 (fun pc => sm_ch sm_t147 pc, sm_Kn 3 3 none, fun x => sm_lk sm_ca3 x, some .int) [] 3 0 [4] [] 2000 [(4, [(0, .inl 81), (1, .inr (false, [(0, 0)])), (2, .inr (false, [(0, 0)]))], [], mgh20389),
  (4, [(0, .inl 81), (1, .inr (false, ar_t32)), (2, .inr (false, [(1, 1)]))], [], mgh20389),
  (4, [(0, .inl 81), (1, .inr (false, ar_t32)), (2, .inr (false, [(2, 2)]))], [], mgh20389),
  (4, [(0, .inl 81), (1, .inr (false, ar_t32)), (2, .inr (false, [(3, 3)]))], [], mgh20389),
  (4, [(0, .inl 81), (1, .inr (false, ar_t32)), (2, .inr (false, [(4, 4)]))], [], mgh20389),
  (4, [(0, .inl 81), (1, .inr (false, ar_t32)), (2, .inr (false, [(5, 5)]))], [], mgh20389),
  (4, [(0, .inl 81), (1, .inr (false, ar_t32)), (2, .inr (false, [(6, 6)]))], [], mgh20389),
  (4, [(0, .inl 81), (1, .inr (false, ar_t32)), (2, .inr (false, [(7, 7)]))], [], mgh20389),
  (4, [(0, .inl 81), (1, .inr (false, ar_t32)), (2, .inr (false, [(8, 8)]))], [], mgh20389)] = true := by decide +kernel
/-- MiceRegistersModel.eatenAt -/
def mgc6403 : ak_C := (163, [.inl 81, .inr (false, [(0, 0)])], mgh20389, [], [([], some (.inr (false, [(0, 0)])), []), ([], some (.inr (false, ar_t32)), [])])
def mgh21412 : aw_H := [(81, mgx20391), (82, ms_r [(0, [(-1, 40)]), (4, ar_t32)])]
def mgh21413 : aw_H := [(81, mgx20393), (82, mgx20394)]
def mgh21414 : aw_H := [(81, mgx20396), (82, mgx20397)]
def mgh21415 : aw_H := [(81, mgx20399), (82, mgx20400)]
def mgh21416 : aw_H := [(81, mgx20402), (82, mgx20403)]
def mgh21417 : aw_H := [(81, mgx20405), (82, mgx20406)]
def mgh21418 : aw_H := [(81, mgx20408), (82, mgx20409)]
def mgh21419 : aw_H := [(81, mgx20411), (82, mgx20412)]
theorem mgk6403 : ai_chk [] mgc6403 (fun pc => sm_ch sm_t163 pc, sm_Kn 3 4 none, fun x => sm_lk sm_ca3 x, some .int) [] 4 0 [4] [] 2000 [(4, [(0, .inl 81), (1, .inr (false, [(0, 0)])), (2, .inr (false, [(0, 0)])), (3, .inr (false, [(0, 0)]))], [], mgh20389),
  (4, [(0, .inl 81), (1, .inr (false, [(0, 0)])), (2, .inr (false, [(0, 1)])), (3, .inr (false, [(1, 1)]))], [], mgh21412),
  (4, [(0, .inl 81), (1, .inr (false, [(0, 0)])), (2, .inr (false, ar_t32)), (3, .inr (false, [(2, 2)]))], [], mgh21413),
  (4, [(0, .inl 81), (1, .inr (false, [(0, 0)])), (2, .inr (false, ar_t32)), (3, .inr (false, [(3, 3)]))], [], mgh21414),
  (4, [(0, .inl 81), (1, .inr (false, [(0, 0)])), (2, .inr (false, ar_t32)), (3, .inr (false, [(4, 4)]))], [], mgh21415),
  (4, [(0, .inl 81), (1, .inr (false, [(0, 0)])), (2, .inr (false, ar_t32)), (3, .inr (false, [(5, 5)]))], [], mgh21416),
  (4, [(0, .inl 81), (1, .inr (false, [(0, 0)])), (2, .inr (false, ar_t32)), (3, .inr (false, [(6, 6)]))], [], mgh21417),
  (4, [(0, .inl 81), (1, .inr (false, [(0, 0)])), (2, .inr (false, ar_t32)), (3, .inr (false, [(7, 7)]))], [], mgh21418),
  (4, [(0, .inl 81), (1, .inr (false, [(0, 0)])), (2, .inr (false, ar_t32)), (3, .inr (false, [(8, 8)]))], [], mgh21419)] = true := by decide +kernel
/-- MiceRegistersModel.leftIn -/
def mgc6404 : ak_C := (168, [.inl 81, .inr (false, [(0, 0)])], mgh20389, [], [([], some (.inr (false, [(0, 0)])), []), ([], some (.inr (false, ar_t32)), [])])
theorem mgk6404 : ai_chk [] mgc6404 (fun pc => sm_ch sm_t168 pc, sm_Kn 3 4 none, fun x => sm_lk sm_ca3 x, some .int) [] 4 0 [4] [] 2000 [(4, [(0, .inl 81), (1, .inr (false, [(0, 0)])), (2, .inr (false, [(0, 0)])), (3, .inr (false, [(0, 0)]))], [], mgh20389),
  (4, [(0, .inl 81), (1, .inr (false, [(0, 0)])), (2, .inr (false, ar_t32)), (3, .inr (false, [(1, 1)]))], [], mgh20517),
  (4, [(0, .inl 81), (1, .inr (false, [(0, 0)])), (2, .inr (false, ar_t32)), (3, .inr (false, [(2, 2)]))], [], mgh20518),
  (4, [(0, .inl 81), (1, .inr (false, [(0, 0)])), (2, .inr (false, ar_t32)), (3, .inr (false, [(3, 3)]))], [], mgh20519),
  (4, [(0, .inl 81), (1, .inr (false, [(0, 0)])), (2, .inr (false, ar_t32)), (3, .inr (false, [(4, 4)]))], [], mgh20520),
  (4, [(0, .inl 81), (1, .inr (false, [(0, 0)])), (2, .inr (false, ar_t32)), (3, .inr (false, [(5, 5)]))], [], mgh20521),
  (4, [(0, .inl 81), (1, .inr (false, [(0, 0)])), (2, .inr (false, ar_t32)), (3, .inr (false, [(6, 6)]))], [], mgh20522),
  (4, [(0, .inl 81), (1, .inr (false, [(0, 0)])), (2, .inr (false, ar_t32)), (3, .inr (false, [(7, 7)]))], [], mgh20523),
  (4, [(0, .inl 81), (1, .inr (false, [(0, 0)])), (2, .inr (false, ar_t32)), (3, .inr (false, [(8, 8)]))], [], mgh20524)] = true := by decide +kernel
/-- MiceRegistersModel.thereOf -/
def mgh21420 : aw_H := [(81, mgx2), (82, ms_r [(0, [(-1, 40)])]), (87, mgx4), (89, mgx494)]
def mgc6405 : ak_C := (196, [.inl 81, .inr (false, [(11, 13)])], mgh21420, [], [([], some (.inr (false, [(0, 6)])), [])])
theorem mgk6405 : ai_chk [] mgc6405 (fun pc => sm_ch sm_t196 pc, sm_Kn 3 4 none, fun x => sm_lk sm_ca3 x, some .int) [] 4 0 [4] [] 2000 [(4, [(0, .inl 81), (1, .inr (false, [(11, 13)])), (2, .inr (false, [(0, 0)])), (3, .inr (false, [(0, 0)]))], [], mgh21420),
  (4, [(0, .inl 81), (1, .inr (false, [(11, 13)])), (2, .inr (false, [(0, 1)])), (3, .inr (false, [(1, 1)]))], [], mgh21420),
  (4, [(0, .inl 81), (1, .inr (false, [(11, 13)])), (2, .inr (false, [(0, 2)])), (3, .inr (false, [(2, 2)]))], [], mgh21420),
  (4, [(0, .inl 81), (1, .inr (false, [(11, 13)])), (2, .inr (false, [(0, 3)])), (3, .inr (false, [(3, 3)]))], [], mgh21420),
  (4, [(0, .inl 81), (1, .inr (false, [(11, 13)])), (2, .inr (false, [(0, 4)])), (3, .inr (false, [(4, 4)]))], [], mgh21420),
  (4, [(0, .inl 81), (1, .inr (false, [(11, 13)])), (2, .inr (false, [(0, 5)])), (3, .inr (false, [(5, 5)]))], [], mgh21420),
  (4, [(0, .inl 81), (1, .inr (false, [(11, 13)])), (2, .inr (false, [(0, 6)])), (3, .inr (false, [(6, 6)]))], [], mgh21420)] = true := by decide +kernel
/-- MiceRegistersModel.countOf -/
def mgh21421 : aw_H := [(81, mgx2), (82, ms_r [(0, [(-1, 40)])]), (85, .inr (.inl (0, 4, [], []))), (87, mgx4), (89, mgx494)]
def mgc6406 : ak_C := (194, [.inl 81, .inr (false, [(0, 13)])], mgh21421, [], [([[], []], some (.inr (false, ar_t32)), []), ([[], [(4, 5), (9, 10)]], some (.inr (false, [(0, 0)])), [])])
theorem mgk6406 : ai_chk [mgc6401, mgc6402, mgc6403, mgc6404, mgc6405] mgc6406 (fun pc => sm_ch sm_t194 pc, sm_Kn 3 2 none, fun x => sm_lk sm_ca3 x, some .int) [] 2 2 [] [] 2000 [] = true := by decide +kernel
/-- MiceRegistersModel.count -/
def mgc6407 : ak_C := (193, [.inl 81, .inr (false, ar_t32)], mgh21421, [], [([[], [(-2147483648, -1), (14, 2147483647)]], some (.inr (false, [(-1, -1)])), []), ([[], [(4, 5), (9, 10)]], some (.inr (false, [(0, 0)])), []), ([[], [(0, 13)]], some (.inr (false, ar_t32)), [])])
theorem mgk6407 : ai_chk [mgc6399, mgc6406] mgc6407 (fun pc => sm_ch sm_t193 pc, sm_Kn 3 2 none, fun x => sm_lk sm_ca3 x, some .int) [] 2 2 [] [] 2000 [] = true := by decide +kernel
/-- MiceRegistersModel.finding -/
def mgc6408 : ak_C := (197, [.inl 81], mgh10, [], [([], some (.inr (false, ar_t32)), [])])
theorem mgk6408 : ai_chk [] mgc6408 (fun pc => sm_ch sm_t197 pc, sm_Kn 3 1 none, fun x => sm_lk sm_ca3 x, some .int) [] 1 0 [] [] 2000 [] = true := by decide +kernel
/-- MiceRegistersModel.in -/
def mgc6409 : ak_C := (105, [.inr (true, ar_t32), .inr (true, [(1, 1)]), .inr (true, [(5, 5)])], [], [], [([[(1, 5)], [], []], some (.inr (false, [(1, 1)])), []), ([[(-2147483648, 0), (6, 2147483647)], [], []], some (.inr (false, [(0, 0)])), [])])
theorem mgk6409 : ai_chk [] mgc6409 (fun pc => sm_ch sm_t105 pc, sm_Kn 3 6 none, fun x => sm_lk sm_ca3 x, some .boolean) [] 6 6 [] [] 2000 [] = true := by decide +kernel
/-- MiceRegistersModel.findings -/
def mgc6410 : ak_C := (198, [.inl 81, .inr (false, ar_t32)], mgh3, [], [([[], [(-2147483648, 0), (6, 2147483647)]], some (.inr (false, [(-1, -1)])), []), ([[], [(1, 5)]], some (.inr (false, ar_t32)), [])])
theorem mgk6410 : ai_chk [mgc6409] mgc6410 (fun pc => sm_ch sm_t198 pc, sm_Kn 3 2 none, fun x => sm_lk sm_ca3 x, some .int) [] 2 2 [] [] 2000 [] = true := by decide +kernel
/-- MiceRegistersModel.digest -/
def mgh21422 : aw_H := [(81, mgx2), (82, ms_r [(0, [(-1, 40)])]), (83, .inr (.inl (0, 8, [], []))), (84, .inr (.inl (0, 8, [], []))), (85, .inr (.inl (0, 4, [], []))), (86, .inr (.inl (0, 4, [], []))), (87, mgx4), (88, .inr (.inl (0, 240, [], []))), (89, mgx494), (90, .inr (.inl (0, 240, [], [])))]
def mgc6411 : ak_C := (199, [.inl 81], mgh21422, [], [([], some (.inr (true, ar_t64)), [])])
def mgb6411 : sm_P := (fun pc => sm_ch sm_t199 pc, sm_Kn 3 5 none, fun x => sm_lk sm_ca3 x, some .long)
def czmg6411x0 : aw_A := ms_o [(0, 8)] [(0, 4)] ar_t32 ar_t32 [(0, 180)] [(0, 60)] [(-1, 60)] [(0, 8)] [(0, 4)]
def czmg6411x1 : aw_A := .inr (.inl (0, 6, [(0, 5, [(-1, 40)])], []))
def czmg6411x2 : aw_A := .inr (.inl (0, 4, [(0, 3, [(-1, 60)])], []))
def czmg6411h3 : aw_H := [(81, czmg6411x0), (82, ms_r [(0, [(-1, 40)])]), (83, .inr (.inl (0, 8, [], []))), (84, .inr (.inl (0, 8, [], []))), (85, .inr (.inl (0, 4, [], []))), (86, .inr (.inl (0, 4, [], []))), (87, czmg6411x1), (88, .inr (.inl (0, 240, [], []))), (89, czmg6411x2), (90, .inr (.inl (0, 240, [], [])))]
def czmg6411x4 : aw_A := .inr (.inl (0, 6, [(0, 5, [(-1, 40)])], [(0, [(-1, 40)])]))
def czmg6411h5 : aw_H := [(81, czmg6411x0), (82, ms_r [(0, [(-1, 40)])]), (83, .inr (.inl (0, 8, [], []))), (84, .inr (.inl (0, 8, [], []))), (85, .inr (.inl (0, 4, [], []))), (86, .inr (.inl (0, 4, [], []))), (87, czmg6411x4), (88, .inr (.inl (0, 240, [], []))), (89, czmg6411x2), (90, .inr (.inl (0, 240, [], [])))]
def czmg6411x6 : aw_A := .inr (.inl (0, 6, [(0, 5, [(-1, 40)])], [(0, [(-1, 40)]), (1, [(-1, 40)])]))
def czmg6411h7 : aw_H := [(81, czmg6411x0), (82, ms_r [(0, [(-1, 40)])]), (83, .inr (.inl (0, 8, [], []))), (84, .inr (.inl (0, 8, [], []))), (85, .inr (.inl (0, 4, [], []))), (86, .inr (.inl (0, 4, [], []))), (87, czmg6411x6), (88, .inr (.inl (0, 240, [], []))), (89, czmg6411x2), (90, .inr (.inl (0, 240, [], [])))]
def czmg6411x8 : aw_A := .inr (.inl (0, 6, [(0, 5, [(-1, 40)])], [(0, [(-1, 40)]), (1, [(-1, 40)]), (2, [(-1, 40)])]))
def czmg6411h9 : aw_H := [(81, czmg6411x0), (82, ms_r [(0, [(-1, 40)])]), (83, .inr (.inl (0, 8, [], []))), (84, .inr (.inl (0, 8, [], []))), (85, .inr (.inl (0, 4, [], []))), (86, .inr (.inl (0, 4, [], []))), (87, czmg6411x8), (88, .inr (.inl (0, 240, [], []))), (89, czmg6411x2), (90, .inr (.inl (0, 240, [], [])))]
def czmg6411x10 : aw_A := .inr (.inl (0, 6, [(0, 5, [(-1, 40)])], [(0, [(-1, 40)]), (1, [(-1, 40)]), (2, [(-1, 40)]), (3, [(-1, 40)])]))
def czmg6411h11 : aw_H := [(81, czmg6411x0), (82, ms_r [(0, [(-1, 40)])]), (83, .inr (.inl (0, 8, [], []))), (84, .inr (.inl (0, 8, [], []))), (85, .inr (.inl (0, 4, [], []))), (86, .inr (.inl (0, 4, [], []))), (87, czmg6411x10), (88, .inr (.inl (0, 240, [], []))), (89, czmg6411x2), (90, .inr (.inl (0, 240, [], [])))]
def czmg6411x12 : aw_A := .inr (.inl (0, 6, [(0, 5, [(-1, 40)])], [(0, [(-1, 40)]), (1, [(-1, 40)]), (2, [(-1, 40)]), (3, [(-1, 40)]), (4, [(-1, 40)])]))
def czmg6411h13 : aw_H := [(81, czmg6411x0), (82, ms_r [(0, [(-1, 40)])]), (83, .inr (.inl (0, 8, [], []))), (84, .inr (.inl (0, 8, [], []))), (85, .inr (.inl (0, 4, [], []))), (86, .inr (.inl (0, 4, [], []))), (87, czmg6411x12), (88, .inr (.inl (0, 240, [], []))), (89, czmg6411x2), (90, .inr (.inl (0, 240, [], [])))]
def czmg6411x14 : aw_A := .inr (.inl (0, 6, [(0, 5, [(-1, 40)])], [(0, [(-1, 40)]), (1, [(-1, 40)]), (2, [(-1, 40)]), (3, [(-1, 40)]), (4, [(-1, 40)]), (5, [(-1, 40)])]))
def czmg6411h15 : aw_H := [(81, czmg6411x0), (82, ms_r [(0, [(-1, 40)])]), (83, .inr (.inl (0, 8, [], []))), (84, .inr (.inl (0, 8, [], []))), (85, .inr (.inl (0, 4, [], []))), (86, .inr (.inl (0, 4, [], []))), (87, czmg6411x14), (88, .inr (.inl (0, 240, [], []))), (89, czmg6411x2), (90, .inr (.inl (0, 240, [], [])))]
def czmg6411x16 : aw_A := .inr (.inl (0, 4, [(0, 3, [(-1, 60)])], [(0, [(-1, 60)])]))
def czmg6411h17 : aw_H := [(81, czmg6411x0), (82, ms_r [(0, [(-1, 40)])]), (83, .inr (.inl (0, 8, [], []))), (84, .inr (.inl (0, 8, [], []))), (85, .inr (.inl (0, 4, [], []))), (86, .inr (.inl (0, 4, [], []))), (87, czmg6411x14), (88, .inr (.inl (0, 240, [], []))), (89, czmg6411x16), (90, .inr (.inl (0, 240, [], [])))]
def czmg6411x18 : aw_A := .inr (.inl (0, 4, [(0, 3, [(-1, 60)])], [(0, [(-1, 60)]), (1, [(-1, 60)])]))
def czmg6411h19 : aw_H := [(81, czmg6411x0), (82, ms_r [(0, [(-1, 40)])]), (83, .inr (.inl (0, 8, [], []))), (84, .inr (.inl (0, 8, [], []))), (85, .inr (.inl (0, 4, [], []))), (86, .inr (.inl (0, 4, [], []))), (87, czmg6411x14), (88, .inr (.inl (0, 240, [], []))), (89, czmg6411x18), (90, .inr (.inl (0, 240, [], [])))]
def czmg6411x20 : aw_A := .inr (.inl (0, 4, [(0, 3, [(-1, 60)])], [(0, [(-1, 60)]), (1, [(-1, 60)]), (2, [(-1, 60)])]))
def czmg6411h21 : aw_H := [(81, czmg6411x0), (82, ms_r [(0, [(-1, 40)])]), (83, .inr (.inl (0, 8, [], []))), (84, .inr (.inl (0, 8, [], []))), (85, .inr (.inl (0, 4, [], []))), (86, .inr (.inl (0, 4, [], []))), (87, czmg6411x14), (88, .inr (.inl (0, 240, [], []))), (89, czmg6411x20), (90, .inr (.inl (0, 240, [], [])))]
def czmg6411x22 : aw_A := .inr (.inl (0, 4, [(0, 3, [(-1, 60)])], [(0, [(-1, 60)]), (1, [(-1, 60)]), (2, [(-1, 60)]), (3, [(-1, 60)])]))
def czmg6411h23 : aw_H := [(81, czmg6411x0), (82, ms_r [(0, [(-1, 40)])]), (83, .inr (.inl (0, 8, [], []))), (84, .inr (.inl (0, 8, [], []))), (85, .inr (.inl (0, 4, [], []))), (86, .inr (.inl (0, 4, [], []))), (87, czmg6411x14), (88, .inr (.inl (0, 240, [], []))), (89, czmg6411x22), (90, .inr (.inl (0, 240, [], [])))]
set_option maxRecDepth 100000 in
theorem mgk6411 : ai_ch2 [mgc6406, mgc6337, mgc6343] mgc6411 mgb6411 [] 5 0 [6, 33, 72, 108, 141, 164, 209, 231] [] 2000 [.inl (6, [(0, .inl 81), (1, .inr (true, [(17, 17)])), (3, .inr (false, [(0, 0)]))], [], czmg6411h3),
  .inl (6, [(0, .inl 81), (1, .inr (true, [(-2147483121, 2147484174)])), (3, .inr (false, [(1, 1)]))], [], czmg6411h3),
  .inl (6, [(0, .inl 81), (1, .inr (true, [(-68719460399, 68719493041)])), (3, .inr (false, [(2, 2)]))], [], czmg6411h3),
  .inl (6, [(0, .inl 81), (1, .inr (true, [(-2132450756017, 2132451767918)])), (3, .inr (false, [(3, 3)]))], [], czmg6411h3),
  .inl (6, [(0, .inl 81), (1, .inr (true, [(-66108120920175, 66108152289105)])), (3, .inr (false, [(4, 4)]))], [], czmg6411h3),
  .inl (6, [(0, .inl 81), (1, .inr (true, [(-2049353896009073, 2049354868445902)])), (3, .inr (false, [(5, 5)]))], [], czmg6411h3),
  .inl (6, [(0, .inl 81), (1, .inr (true, [(-63529972923764911, 63530003069306609)])), (3, .inr (false, [(6, 6)]))], [], czmg6411h3),
  .inl (6, [(0, .inl 81), (1, .inr (true, [(-1969429162784195889, 1969430097295988526)])), (3, .inr (false, [(7, 7)]))], [], czmg6411h3),
  .inl (6, [(0, .inl 81), (1, .inr (true, ar_t64)), (3, .inr (false, [(8, 8)]))], [], czmg6411h3),
  .inl (6, [(0, .inl 81), (1, .inr (true, ar_t64)), (3, .inr (false, [(9, 9)]))], [], czmg6411h3),
  .inl (6, [(0, .inl 81), (1, .inr (true, ar_t64)), (3, .inr (false, [(10, 10)]))], [], czmg6411h3),
  .inl (6, [(0, .inl 81), (1, .inr (true, ar_t64)), (3, .inr (false, [(11, 11)]))], [], czmg6411h3),
  .inl (6, [(0, .inl 81), (1, .inr (true, ar_t64)), (3, .inr (false, [(12, 12)]))], [], czmg6411h3),
  .inl (6, [(0, .inl 81), (1, .inr (true, ar_t64)), (3, .inr (false, [(13, 13)]))], [], czmg6411h3),
  .inl (6, [(0, .inl 81), (1, .inr (true, ar_t64)), (3, .inr (false, [(14, 14)]))], [], czmg6411h3),
  .inl (33, [(0, .inl 81), (1, .inr (true, ar_t64)), (3, .inr (false, [(0, 0)]))], [], czmg6411h3),
  .inl (33, [(0, .inl 81), (1, .inr (true, ar_t64)), (3, .inr (false, [(1, 1)]))], [], czmg6411h3),
  .inl (33, [(0, .inl 81), (1, .inr (true, ar_t64)), (3, .inr (false, [(2, 2)]))], [], czmg6411h3),
  .inl (33, [(0, .inl 81), (1, .inr (true, ar_t64)), (3, .inr (false, [(3, 3)]))], [], czmg6411h3),
  .inl (33, [(0, .inl 81), (1, .inr (true, ar_t64)), (3, .inr (false, [(4, 4)]))], [], czmg6411h3),
  .inl (33, [(0, .inl 81), (1, .inr (true, ar_t64)), (3, .inr (false, [(5, 5)]))], [], czmg6411h3),
  .inl (33, [(0, .inl 81), (1, .inr (true, ar_t64)), (3, .inr (false, [(6, 6)]))], [], czmg6411h3),
  .inl (33, [(0, .inl 81), (1, .inr (true, ar_t64)), (3, .inr (false, [(7, 7)]))], [], czmg6411h3),
  .inl (33, [(0, .inl 81), (1, .inr (true, ar_t64)), (3, .inr (false, [(8, 8)]))], [], czmg6411h3),
  .inl (33, [(0, .inl 81), (1, .inr (true, ar_t64)), (3, .inr (false, [(9, 9)]))], [], czmg6411h3),
  .inl (33, [(0, .inl 81), (1, .inr (true, ar_t64)), (3, .inr (false, [(10, 10)]))], [], czmg6411h3),
  .inl (33, [(0, .inl 81), (1, .inr (true, ar_t64)), (3, .inr (false, [(11, 11)]))], [], czmg6411h3),
  .inl (33, [(0, .inl 81), (1, .inr (true, ar_t64)), (3, .inr (false, [(12, 12)]))], [], czmg6411h3),
  .inl (33, [(0, .inl 81), (1, .inr (true, ar_t64)), (3, .inr (false, [(13, 13)]))], [], czmg6411h3),
  .inl (33, [(0, .inl 81), (1, .inr (true, ar_t64)), (3, .inr (false, [(14, 14)]))], [], czmg6411h3),
  .inl (33, [(0, .inl 81), (1, .inr (true, ar_t64)), (3, .inr (false, [(15, 15)]))], [], czmg6411h3),
  .inl (33, [(0, .inl 81), (1, .inr (true, ar_t64)), (3, .inr (false, [(16, 16)]))], [], czmg6411h3),
  .inl (33, [(0, .inl 81), (1, .inr (true, ar_t64)), (3, .inr (false, [(17, 17)]))], [], czmg6411h3),
  .inl (33, [(0, .inl 81), (1, .inr (true, ar_t64)), (3, .inr (false, [(18, 18)]))], [], czmg6411h3),
  .inl (33, [(0, .inl 81), (1, .inr (true, ar_t64)), (3, .inr (false, [(19, 19)]))], [], czmg6411h3),
  .inl (33, [(0, .inl 81), (1, .inr (true, ar_t64)), (3, .inr (false, [(20, 20)]))], [], czmg6411h3),
  .inl (33, [(0, .inl 81), (1, .inr (true, ar_t64)), (3, .inr (false, [(21, 21)]))], [], czmg6411h3),
  .inl (33, [(0, .inl 81), (1, .inr (true, ar_t64)), (3, .inr (false, [(22, 22)]))], [], czmg6411h3),
  .inl (33, [(0, .inl 81), (1, .inr (true, ar_t64)), (3, .inr (false, [(23, 23)]))], [], czmg6411h3),
  .inl (33, [(0, .inl 81), (1, .inr (true, ar_t64)), (3, .inr (false, [(24, 24)]))], [], czmg6411h3),
  .inl (33, [(0, .inl 81), (1, .inr (true, ar_t64)), (3, .inr (false, [(25, 25)]))], [], czmg6411h3),
  .inl (33, [(0, .inl 81), (1, .inr (true, ar_t64)), (3, .inr (false, [(26, 26)]))], [], czmg6411h3),
  .inl (33, [(0, .inl 81), (1, .inr (true, ar_t64)), (3, .inr (false, [(27, 27)]))], [], czmg6411h3),
  .inl (33, [(0, .inl 81), (1, .inr (true, ar_t64)), (3, .inr (false, [(28, 28)]))], [], czmg6411h3),
  .inl (33, [(0, .inl 81), (1, .inr (true, ar_t64)), (3, .inr (false, [(29, 29)]))], [], czmg6411h3),
  .inl (33, [(0, .inl 81), (1, .inr (true, ar_t64)), (3, .inr (false, [(30, 30)]))], [], czmg6411h3),
  .inl (33, [(0, .inl 81), (1, .inr (true, ar_t64)), (3, .inr (false, [(31, 31)]))], [], czmg6411h3),
  .inl (33, [(0, .inl 81), (1, .inr (true, ar_t64)), (3, .inr (false, [(32, 32)]))], [], czmg6411h3),
  .inl (33, [(0, .inl 81), (1, .inr (true, ar_t64)), (3, .inr (false, [(33, 33)]))], [], czmg6411h3),
  .inl (33, [(0, .inl 81), (1, .inr (true, ar_t64)), (3, .inr (false, [(34, 34)]))], [], czmg6411h3),
  .inl (33, [(0, .inl 81), (1, .inr (true, ar_t64)), (3, .inr (false, [(35, 35)]))], [], czmg6411h3),
  .inl (33, [(0, .inl 81), (1, .inr (true, ar_t64)), (3, .inr (false, [(36, 36)]))], [], czmg6411h3),
  .inl (33, [(0, .inl 81), (1, .inr (true, ar_t64)), (3, .inr (false, [(37, 37)]))], [], czmg6411h3),
  .inl (33, [(0, .inl 81), (1, .inr (true, ar_t64)), (3, .inr (false, [(38, 38)]))], [], czmg6411h3),
  .inl (33, [(0, .inl 81), (1, .inr (true, ar_t64)), (3, .inr (false, [(39, 39)]))], [], czmg6411h3),
  .inl (33, [(0, .inl 81), (1, .inr (true, ar_t64)), (3, .inr (false, [(40, 40)]))], [], czmg6411h3),
  .inl (33, [(0, .inl 81), (1, .inr (true, ar_t64)), (3, .inr (false, [(41, 41)]))], [], czmg6411h3),
  .inl (33, [(0, .inl 81), (1, .inr (true, ar_t64)), (3, .inr (false, [(42, 42)]))], [], czmg6411h3),
  .inl (33, [(0, .inl 81), (1, .inr (true, ar_t64)), (3, .inr (false, [(43, 43)]))], [], czmg6411h3),
  .inl (33, [(0, .inl 81), (1, .inr (true, ar_t64)), (3, .inr (false, [(44, 44)]))], [], czmg6411h3),
  .inl (33, [(0, .inl 81), (1, .inr (true, ar_t64)), (3, .inr (false, [(45, 45)]))], [], czmg6411h3),
  .inl (33, [(0, .inl 81), (1, .inr (true, ar_t64)), (3, .inr (false, [(46, 46)]))], [], czmg6411h3),
  .inl (33, [(0, .inl 81), (1, .inr (true, ar_t64)), (3, .inr (false, [(47, 47)]))], [], czmg6411h3),
  .inl (33, [(0, .inl 81), (1, .inr (true, ar_t64)), (3, .inr (false, [(48, 48)]))], [], czmg6411h3),
  .inl (72, [(0, .inl 81), (1, .inr (true, ar_t64)), (3, .inr (false, [(0, 0)]))], [], czmg6411h3),
  .inl (72, [(0, .inl 81), (1, .inr (true, ar_t64)), (3, .inr (false, [(1, 1)]))], [], czmg6411h3),
  .inl (72, [(0, .inl 81), (1, .inr (true, ar_t64)), (3, .inr (false, [(2, 2)]))], [], czmg6411h3),
  .inl (72, [(0, .inl 81), (1, .inr (true, ar_t64)), (3, .inr (false, [(3, 3)]))], [], czmg6411h3),
  .inl (72, [(0, .inl 81), (1, .inr (true, ar_t64)), (3, .inr (false, [(4, 4)]))], [], czmg6411h3),
  .inl (72, [(0, .inl 81), (1, .inr (true, ar_t64)), (3, .inr (false, [(5, 5)]))], [], czmg6411h3),
  .inl (72, [(0, .inl 81), (1, .inr (true, ar_t64)), (3, .inr (false, [(6, 6)]))], [], czmg6411h3),
  .inl (72, [(0, .inl 81), (1, .inr (true, ar_t64)), (3, .inr (false, [(7, 7)]))], [], czmg6411h3),
  .inl (72, [(0, .inl 81), (1, .inr (true, ar_t64)), (3, .inr (false, [(8, 8)]))], [], czmg6411h3),
  .inl (72, [(0, .inl 81), (1, .inr (true, ar_t64)), (3, .inr (false, [(9, 9)]))], [], czmg6411h3),
  .inl (72, [(0, .inl 81), (1, .inr (true, ar_t64)), (3, .inr (false, [(10, 10)]))], [], czmg6411h3),
  .inl (72, [(0, .inl 81), (1, .inr (true, ar_t64)), (3, .inr (false, [(11, 11)]))], [], czmg6411h3),
  .inl (72, [(0, .inl 81), (1, .inr (true, ar_t64)), (3, .inr (false, [(12, 12)]))], [], czmg6411h3),
  .inl (72, [(0, .inl 81), (1, .inr (true, ar_t64)), (3, .inr (false, [(13, 13)]))], [], czmg6411h3),
  .inl (72, [(0, .inl 81), (1, .inr (true, ar_t64)), (3, .inr (false, [(14, 14)]))], [], czmg6411h3),
  .inl (72, [(0, .inl 81), (1, .inr (true, ar_t64)), (3, .inr (false, [(15, 15)]))], [], czmg6411h3),
  .inl (72, [(0, .inl 81), (1, .inr (true, ar_t64)), (3, .inr (false, [(16, 16)]))], [], czmg6411h3),
  .inl (72, [(0, .inl 81), (1, .inr (true, ar_t64)), (3, .inr (false, [(17, 17)]))], [], czmg6411h3),
  .inl (72, [(0, .inl 81), (1, .inr (true, ar_t64)), (3, .inr (false, [(18, 18)]))], [], czmg6411h3),
  .inl (72, [(0, .inl 81), (1, .inr (true, ar_t64)), (3, .inr (false, [(19, 19)]))], [], czmg6411h3),
  .inl (72, [(0, .inl 81), (1, .inr (true, ar_t64)), (3, .inr (false, [(20, 20)]))], [], czmg6411h3),
  .inl (108, [(0, .inl 81), (1, .inr (true, ar_t64)), (3, .inr (false, [(1, 1)]))], [], czmg6411h3),
  .inl (108, [(0, .inl 81), (1, .inr (true, ar_t64)), (3, .inr (false, [(2, 2)]))], [], czmg6411h3),
  .inl (108, [(0, .inl 81), (1, .inr (true, ar_t64)), (3, .inr (false, [(3, 3)]))], [], czmg6411h3),
  .inl (108, [(0, .inl 81), (1, .inr (true, ar_t64)), (3, .inr (false, [(4, 4)]))], [], czmg6411h3),
  .inl (141, [(0, .inl 81), (1, .inr (true, ar_t64)), (3, .inr (false, [(0, 0)]))], [], czmg6411h3),
  .inr (4, false, [((164, [(0, .inl 81), (1, .inr (true, ar_t64)), (3, .inr (false, [(0, 0)])), (4, .inr (false, [(0, 40)]))], [], czmg6411h3), none)]),
  .inl (141, [(0, .inl 81), (1, .inr (true, ar_t64)), (3, .inr (false, [(1, 1)])), (4, .inr (false, [(0, 40)]))], [], czmg6411h5),
  .inr (4, false, [((164, [(0, .inl 81), (1, .inr (true, ar_t64)), (3, .inr (false, [(1, 1)])), (4, .inr (false, [(0, 40)]))], [], czmg6411h5), none)]),
  .inl (141, [(0, .inl 81), (1, .inr (true, ar_t64)), (3, .inr (false, [(2, 2)])), (4, .inr (false, [(0, 40)]))], [], czmg6411h7),
  .inr (4, false, [((164, [(0, .inl 81), (1, .inr (true, ar_t64)), (3, .inr (false, [(2, 2)])), (4, .inr (false, [(0, 40)]))], [], czmg6411h7), none)]),
  .inl (141, [(0, .inl 81), (1, .inr (true, ar_t64)), (3, .inr (false, [(3, 3)])), (4, .inr (false, [(0, 40)]))], [], czmg6411h9),
  .inr (4, false, [((164, [(0, .inl 81), (1, .inr (true, ar_t64)), (3, .inr (false, [(3, 3)])), (4, .inr (false, [(0, 40)]))], [], czmg6411h9), none)]),
  .inl (141, [(0, .inl 81), (1, .inr (true, ar_t64)), (3, .inr (false, [(4, 4)])), (4, .inr (false, [(0, 40)]))], [], czmg6411h11),
  .inr (4, false, [((164, [(0, .inl 81), (1, .inr (true, ar_t64)), (3, .inr (false, [(4, 4)])), (4, .inr (false, [(0, 40)]))], [], czmg6411h11), none)]),
  .inl (141, [(0, .inl 81), (1, .inr (true, ar_t64)), (3, .inr (false, [(5, 5)])), (4, .inr (false, [(0, 40)]))], [], czmg6411h13),
  .inr (4, false, [((164, [(0, .inl 81), (1, .inr (true, ar_t64)), (3, .inr (false, [(5, 5)])), (4, .inr (false, [(0, 40)]))], [], czmg6411h13), none)]),
  .inl (141, [(0, .inl 81), (1, .inr (true, ar_t64)), (3, .inr (false, [(6, 6)])), (4, .inr (false, [(0, 40)]))], [], czmg6411h15),
  .inl (209, [(0, .inl 81), (1, .inr (true, ar_t64)), (3, .inr (false, [(0, 0)])), (4, .inr (false, [(0, 40)]))], [], czmg6411h15),
  .inr (4, false, [((231, [(0, .inl 81), (1, .inr (true, ar_t64)), (3, .inr (false, [(0, 0)])), (4, .inr (false, [(0, 60)]))], [], czmg6411h15), none)]),
  .inl (209, [(0, .inl 81), (1, .inr (true, ar_t64)), (3, .inr (false, [(1, 1)])), (4, .inr (false, [(0, 60)]))], [], czmg6411h17),
  .inr (4, false, [((231, [(0, .inl 81), (1, .inr (true, ar_t64)), (3, .inr (false, [(1, 1)])), (4, .inr (false, [(0, 60)]))], [], czmg6411h17), none)]),
  .inl (209, [(0, .inl 81), (1, .inr (true, ar_t64)), (3, .inr (false, [(2, 2)])), (4, .inr (false, [(0, 60)]))], [], czmg6411h19),
  .inr (4, false, [((231, [(0, .inl 81), (1, .inr (true, ar_t64)), (3, .inr (false, [(2, 2)])), (4, .inr (false, [(0, 60)]))], [], czmg6411h19), none)]),
  .inl (209, [(0, .inl 81), (1, .inr (true, ar_t64)), (3, .inr (false, [(3, 3)])), (4, .inr (false, [(0, 60)]))], [], czmg6411h21),
  .inr (4, false, [((231, [(0, .inl 81), (1, .inr (true, ar_t64)), (3, .inr (false, [(3, 3)])), (4, .inr (false, [(0, 60)]))], [], czmg6411h21), none)]),
  .inl (209, [(0, .inl 81), (1, .inr (true, ar_t64)), (3, .inr (false, [(4, 4)])), (4, .inr (false, [(0, 60)]))], [], czmg6411h23)] = true := by decide +kernel
/-! Contracts over ranges of the reference, and their checks; printed by a program of mine. -/
/-- MiceRegistersModel.moreLeft -/
def mgc6412 : ak_C := (181, [.inl 81, .inr (false, [(0, 7)]), .inr (false, [(0, 7)]), .inr (false, [(0, 0)])], mgh20424, [82], [([], some (.inr (false, ar_t32)), mgh20427)])
theorem mgk6412 : ai_chk [mgc6368, mgc6373] mgc6412 (fun pc => sm_ch sm_t181 pc, sm_Kn 3 5 none, fun x => sm_lk sm_ca3 x, some .int) [82] 5 0 [7] [] 2000 [(7, [(0, .inl 81), (1, .inr (false, [(0, 7)])), (2, .inr (false, [(0, 7)])), (3, .inr (false, [(0, 0)])), (4, .inr (false, [(0, 0)]))], [], mgh20424)] = true := by decide +kernel
/-- MiceRegistersModel.moreLeft -/
def mgh23321 : aw_H := [(81, mgx2), (82, ms_r [(0, [(-1, 40)])]), (83, .inr (.inl (0, 8, [], []))), (85, .inr (.inl (0, 4, [], []))), (86, .inr (.inl (0, 4, [], []))), (96, mgx21405)]
def mgc6413 : ak_C := (181, [.inl 81, .inr (false, [(0, 7)]), .inr (false, [(0, 7)]), .inr (false, [(2, 2)])], mgh23321, [82], [([], some (.inr (false, ar_t32)), mgh20427)])
def mgx23322 : aw_A := .inr (.inl (0, 4, [(0, 3, [(0, 9)])], [(0, [(0, 9)])]))
def mgh23323 : aw_H := [(81, mgx2), (82, ms_r [(0, [(-1, 40)])]), (83, .inr (.inl (0, 8, [], []))), (85, .inr (.inl (0, 4, [], []))), (86, .inr (.inl (0, 4, [], []))), (96, mgx23322)]
def mgx23324 : aw_A := .inr (.inl (0, 4, [(0, 3, [(0, 9)])], [(0, [(0, 9)]), (1, [(0, 9)])]))
def mgh23325 : aw_H := [(81, mgx2), (82, ms_r [(0, [(-1, 40)])]), (83, .inr (.inl (0, 8, [], []))), (85, .inr (.inl (0, 4, [], []))), (86, .inr (.inl (0, 4, [], []))), (96, mgx23324)]
theorem mgk6413 : ai_chk [mgc6368, mgc6373] mgc6413 (fun pc => sm_ch sm_t181 pc, sm_Kn 3 5 none, fun x => sm_lk sm_ca3 x, some .int) [82] 5 0 [7] [] 2000 [(7, [(0, .inl 81), (1, .inr (false, [(0, 7)])), (2, .inr (false, [(0, 7)])), (3, .inr (false, [(2, 2)])), (4, .inr (false, [(0, 0)]))], [], mgh23321),
  (7, [(0, .inl 81), (1, .inr (false, [(0, 7)])), (2, .inr (false, [(0, 7)])), (3, .inr (false, [(2, 2)])), (4, .inr (false, [(1, 1)]))], [], mgh23323),
  (7, [(0, .inl 81), (1, .inr (false, [(0, 7)])), (2, .inr (false, [(0, 7)])), (3, .inr (false, [(2, 2)])), (4, .inr (false, [(2, 2)]))], [], mgh23325)] = true := by decide +kernel
/-- MiceRegistersModel.moreLeft -/
def mgc6414 : ak_C := (181, [.inl 81, .inr (false, [(0, 7)]), .inr (false, [(0, 7)]), .inr (false, [(4, 4)])], mgh23321, [82], [([], some (.inr (false, ar_t32)), mgh20427)])
def mgx23326 : aw_A := .inr (.inl (0, 4, [(0, 3, [(0, 9)])], [(0, [(0, 9)]), (1, [(0, 9)]), (2, [(0, 9)])]))
def mgh23327 : aw_H := [(81, mgx2), (82, ms_r [(0, [(-1, 40)])]), (83, .inr (.inl (0, 8, [], []))), (85, .inr (.inl (0, 4, [], []))), (86, .inr (.inl (0, 4, [], []))), (96, mgx23326)]
def mgx23328 : aw_A := .inr (.inl (0, 4, [(0, 3, [(0, 9)])], [(0, [(0, 9)]), (1, [(0, 9)]), (2, [(0, 9)]), (3, [(0, 9)])]))
def mgh23329 : aw_H := [(81, mgx2), (82, ms_r [(0, [(-1, 40)])]), (83, .inr (.inl (0, 8, [], []))), (85, .inr (.inl (0, 4, [], []))), (86, .inr (.inl (0, 4, [], []))), (96, mgx23328)]
theorem mgk6414 : ai_chk [mgc6368, mgc6373] mgc6414 (fun pc => sm_ch sm_t181 pc, sm_Kn 3 5 none, fun x => sm_lk sm_ca3 x, some .int) [82] 5 0 [7] [] 2000 [(7, [(0, .inl 81), (1, .inr (false, [(0, 7)])), (2, .inr (false, [(0, 7)])), (3, .inr (false, [(4, 4)])), (4, .inr (false, [(0, 0)]))], [], mgh23321),
  (7, [(0, .inl 81), (1, .inr (false, [(0, 7)])), (2, .inr (false, [(0, 7)])), (3, .inr (false, [(4, 4)])), (4, .inr (false, [(1, 1)]))], [], mgh23323),
  (7, [(0, .inl 81), (1, .inr (false, [(0, 7)])), (2, .inr (false, [(0, 7)])), (3, .inr (false, [(4, 4)])), (4, .inr (false, [(2, 2)]))], [], mgh23325),
  (7, [(0, .inl 81), (1, .inr (false, [(0, 7)])), (2, .inr (false, [(0, 7)])), (3, .inr (false, [(4, 4)])), (4, .inr (false, [(3, 3)]))], [], mgh23327),
  (7, [(0, .inl 81), (1, .inr (false, [(0, 7)])), (2, .inr (false, [(0, 7)])), (3, .inr (false, [(4, 4)])), (4, .inr (false, [(4, 4)]))], [], mgh23329)] = true := by decide +kernel
