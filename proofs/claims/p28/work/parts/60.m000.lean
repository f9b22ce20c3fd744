/-! Contracts over ranges of the reference, and their checks; printed by a program of mine. -/
def ms_sg : List (Nat × Nat × ar_R) := [(0, 0, [(-1, 40)]), (20, 23, [(0, 7)]), (43, 46, [(0, 7)]), (66, 69, [(0, 7)]), (89, 92, [(0, 7)]), (112, 115, [(0, 7)]), (135, 138, [(0, 7)]), (158, 161, [(0, 7)]), (181, 184, [(0, 7)]), (204, 207, [(0, 7)]), (227, 230, [(0, 7)]), (250, 253, [(0, 7)]), (273, 276, [(0, 7)]), (296, 299, [(0, 7)]), (319, 322, [(0, 7)]), (342, 345, [(0, 7)]), (365, 368, [(0, 7)]), (388, 391, [(0, 7)]), (411, 414, [(0, 7)]), (434, 437, [(0, 7)]), (457, 460, [(0, 7)]), (480, 483, [(0, 7)]), (503, 506, [(0, 7)]), (526, 529, [(0, 7)]), (549, 552, [(0, 7)]), (572, 575, [(0, 7)]), (595, 598, [(0, 7)]), (618, 621, [(0, 7)]), (641, 644, [(0, 7)]), (664, 667, [(0, 7)]), (687, 690, [(0, 7)]), (710, 713, [(0, 7)]), (733, 736, [(0, 7)]), (756, 759, [(0, 7)]), (779, 782, [(0, 7)]), (802, 805, [(0, 7)]), (825, 828, [(0, 7)]), (848, 851, [(0, 7)]), (871, 874, [(0, 7)]), (894, 897, [(0, 7)]), (917, 920, [(0, 7)]), (940, 943, [(0, 7)]), (944, 944, [(-1, 40)]), (964, 967, [(0, 7)]), (987, 990, [(0, 7)]), (1010, 1013, [(0, 7)]), (1033, 1036, [(0, 7)]), (1056, 1059, [(0, 7)]), (1079, 1082, [(0, 7)]), (1102, 1105, [(0, 7)]), (1125, 1128, [(0, 7)]), (1148, 1151, [(0, 7)]), (1171, 1174, [(0, 7)]), (1194, 1197, [(0, 7)]), (1217, 1220, [(0, 7)]), (1240, 1243, [(0, 7)]), (1263, 1266, [(0, 7)]), (1286, 1289, [(0, 7)]), (1309, 1312, [(0, 7)]), (1332, 1335, [(0, 7)]), (1355, 1358, [(0, 7)]), (1378, 1381, [(0, 7)]), (1401, 1404, [(0, 7)]), (1424, 1427, [(0, 7)]), (1447, 1450, [(0, 7)]), (1470, 1473, [(0, 7)]), (1493, 1496, [(0, 7)]), (1516, 1519, [(0, 7)]), (1539, 1542, [(0, 7)]), (1562, 1565, [(0, 7)]), (1585, 1588, [(0, 7)]), (1608, 1611, [(0, 7)]), (1631, 1634, [(0, 7)]), (1654, 1657, [(0, 7)]), (1677, 1680, [(0, 7)]), (1700, 1703, [(0, 7)]), (1723, 1726, [(0, 7)]), (1746, 1749, [(0, 7)]), (1769, 1772, [(0, 7)]), (1792, 1795, [(0, 7)]), (1815, 1818, [(0, 7)]), (1838, 1841, [(0, 7)]), (1861, 1864, [(0, 7)]), (1884, 1887, [(0, 7)]), (1888, 1888, [(-1, 40)]), (1908, 1911, [(0, 7)]), (1931, 1934, [(0, 7)]), (1954, 1957, [(0, 7)]), (1977, 1980, [(0, 7)]), (2000, 2003, [(0, 7)]), (2023, 2026, [(0, 7)]), (2046, 2049, [(0, 7)]), (2069, 2072, [(0, 7)]), (2092, 2095, [(0, 7)]), (2115, 2118, [(0, 7)]), (2138, 2141, [(0, 7)]), (2161, 2164, [(0, 7)]), (2184, 2187, [(0, 7)]), (2207, 2210, [(0, 7)]), (2230, 2233, [(0, 7)]), (2253, 2256, [(0, 7)]), (2276, 2279, [(0, 7)]), (2299, 2302, [(0, 7)]), (2322, 2325, [(0, 7)]), (2345, 2348, [(0, 7)]), (2368, 2371, [(0, 7)]), (2391, 2394, [(0, 7)]), (2414, 2417, [(0, 7)]), (2437, 2440, [(0, 7)]), (2460, 2463, [(0, 7)]), (2483, 2486, [(0, 7)]), (2506, 2509, [(0, 7)]), (2529, 2532, [(0, 7)]), (2552, 2555, [(0, 7)]), (2575, 2578, [(0, 7)]), (2598, 2601, [(0, 7)]), (2621, 2624, [(0, 7)]), (2644, 2647, [(0, 7)]), (2667, 2670, [(0, 7)]), (2690, 2693, [(0, 7)]), (2713, 2716, [(0, 7)]), (2736, 2739, [(0, 7)]), (2759, 2762, [(0, 7)]), (2782, 2785, [(0, 7)]), (2805, 2808, [(0, 7)]), (2828, 2831, [(0, 7)]), (2832, 2832, [(-1, 40)]), (2852, 2855, [(0, 7)]), (2875, 2878, [(0, 7)]), (2898, 2901, [(0, 7)]), (2921, 2924, [(0, 7)]), (2944, 2947, [(0, 7)]), (2967, 2970, [(0, 7)]), (2990, 2993, [(0, 7)]), (3013, 3016, [(0, 7)]), (3036, 3039, [(0, 7)]), (3059, 3062, [(0, 7)]), (3082, 3085, [(0, 7)]), (3105, 3108, [(0, 7)]), (3128, 3131, [(0, 7)]), (3151, 3154, [(0, 7)]), (3174, 3177, [(0, 7)]), (3197, 3200, [(0, 7)]), (3220, 3223, [(0, 7)]), (3243, 3246, [(0, 7)]), (3266, 3269, [(0, 7)]), (3289, 3292, [(0, 7)]), (3312, 3315, [(0, 7)]), (3335, 3338, [(0, 7)]), (3358, 3361, [(0, 7)]), (3381, 3384, [(0, 7)]), (3404, 3407, [(0, 7)]), (3427, 3430, [(0, 7)]), (3450, 3453, [(0, 7)]), (3473, 3476, [(0, 7)]), (3496, 3499, [(0, 7)]), (3519, 3522, [(0, 7)]), (3542, 3545, [(0, 7)]), (3565, 3568, [(0, 7)]), (3588, 3591, [(0, 7)]), (3611, 3614, [(0, 7)]), (3634, 3637, [(0, 7)]), (3657, 3660, [(0, 7)]), (3680, 3683, [(0, 7)]), (3703, 3706, [(0, 7)]), (3726, 3729, [(0, 7)]), (3749, 3752, [(0, 7)]), (3772, 3775, [(0, 7)]), (3796, 3799, [(0, 7)])]
def ms_r (t : List (Nat × ar_R)) : aw_A := .inr (.inl (0, 3800, ms_sg, t))
def ms_v (v_lines v_mice v_asked v_finding v_from v_place v_end v_readLines v_readMice : ar_R) : List aw_V := [.inl 82, .inr (false, v_lines), .inl 83, .inl 84, .inr (false, v_mice), .inl 85, .inl 86, .inl 87, .inl 88, .inl 89, .inl 90, .inr (false, v_asked), .inr (true, ar_t64), .inr (true, ar_t64), .inr (false, v_finding), .inl 91, .inr (false, v_from), .inr (false, v_place), .inr (false, v_end), .inr (false, v_readLines), .inl 92, .inl 93, .inr (false, v_readMice), .inl 94, .inl 95, .inl 96, .inl 97]
def ms_o (v_lines v_mice v_asked v_finding v_from v_place v_end v_readLines v_readMice : ar_R) : aw_A := .inl (3, ms_v v_lines v_mice v_asked v_finding v_from v_place v_end v_readLines v_readMice)
/-- MiceRegistersModel.in -/
def mgc2 : ak_C := (105, [.inr (true, ar_t32), .inr (true, [(0, 0)]), .inr (true, [(5, 5)])], [], [], [([[(0, 5)], [], []], some (.inr (false, [(1, 1)])), []), ([[(-2147483648, -1), (6, 2147483647)], [], []], some (.inr (false, [(0, 0)])), [])])
theorem mgk2 : ai_chk [] mgc2 (fun pc => sm_ch sm_t105 pc, sm_Kn 3 6 none, fun x => sm_lk sm_ca3 x, some .boolean) [] 6 6 [] [] 2000 [] = true := by decide +kernel
/-- MiceRegistersModel.isRow -/
def mgc3 : ak_C := (104, [.inr (false, ar_t32)], [], [], [([[(-2147483648, -1), (6, 2147483647)]], some (.inr (false, [(0, 0)])), []), ([[(0, 5)]], some (.inr (false, [(1, 1)])), [])])
theorem mgk3 : ai_chk [mgc2] mgc3 (fun pc => sm_ch sm_t104 pc, sm_Kn 3 1 none, fun x => sm_lk sm_ca3 x, some .boolean) [] 1 1 [] [] 2000 [] = true := by decide +kernel
def mgx0 : aw_A := ms_o [(0, 8)] [(0, 4)] ar_t32 [(1, 5)] [(0, 180)] [(0, 60)] [(-1, 60)] [(0, 8)] [(0, 4)]
def mgh1 : aw_H := [(81, mgx0), (91, .inr (.inl (0, 6, [], [])))]
/-- MiceRegistersModel.find -/
def mgx2 : aw_A := ms_o [(0, 8)] [(0, 4)] ar_t32 ar_t32 [(0, 180)] [(0, 60)] [(-1, 60)] [(0, 8)] [(0, 4)]
def mgh3 : aw_H := [(81, mgx2), (91, .inr (.inl (0, 6, [], [])))]
def mgc4 : ak_C := (106, [.inl 81, .inr (false, [(1, 5)])], mgh3, [81, 91], [([], some (.inr (false, [(-3, -3)])), mgh1)])
theorem mgk4 : ai_chk [] mgc4 (fun pc => sm_ch sm_t106 pc, sm_Kn 3 2 none, fun x => sm_lk sm_ca3 x, some .int) [81, 91] 2 0 [] [] 2000 [] = true := by decide +kernel
def mgx4 : aw_A := .inr (.inl (0, 6, [(0, 5, [(-1, 40)])], []))
def mgh5 : aw_H := [(87, mgx4), (88, .inr (.inl (0, 240, [], [])))]
/-- MiceRegistersModel.makeRow -/
def mgh6 : aw_H := [(81, mgx2), (87, mgx4), (88, .inr (.inl (0, 240, [], [])))]
def mgc5 : ak_C := (107, [.inl 81, .inr (false, [(0, 5)]), .inr (false, [(0, 40)])], mgh6, [87, 88], [([], none, mgh5)])
def czmg5x0 : aw_A := ms_o [(0, 8)] [(0, 4)] ar_t32 ar_t32 [(0, 180)] [(0, 60)] [(-1, 60)] [(0, 8)] [(0, 4)]
def czmg5x1 : aw_A := .inr (.inl (0, 6, [(0, 5, [(-1, 40)])], []))
def czmg5h2 : aw_H := [(81, czmg5x0), (87, czmg5x1), (88, .inr (.inl (0, 240, [], [])))]
set_option maxRecDepth 100000 in
theorem mgk5 : ai_ch2 [] mgc5 (fun pc => sm_ch sm_t107 pc, sm_Kn 3 4 none, fun x => sm_lk sm_ca3 x, none) [87, 88] 4 0 [9] [] 2000 [.inr (3, false, [((9, [(0, .inl 81), (1, .inr (false, [(0, 5)])), (2, .inr (false, [(0, 40)])), (3, .inr (false, [(0, 40)]))], [], czmg5h2), none)])] = true := by decide +kernel
def mgh7 : aw_H := [(81, mgx2), (87, mgx4), (88, .inr (.inl (0, 240, [], []))), (91, .inr (.inl (0, 6, [], [])))]
def mgh8 : aw_H := [(81, mgx0), (87, mgx4), (88, .inr (.inl (0, 240, [], []))), (91, .inr (.inl (0, 6, [], [])))]
/-- MiceRegistersModel.row -/
def mgc6 : ak_C := (103, [.inl 81, .inr (false, ar_t32), .inr (false, ar_t32)], mgh7, [81, 87, 88, 91], [([[], [], []], some (.inr (false, [(-1, -1)])), mgh7), ([[], [(0, 5)], [(-2147483648, -1)]], some (.inr (false, [(-3, -3)])), mgh8), ([[], [(0, 5)], [(0, 40)]], some (.inr (false, [(0, 40)])), mgh7)])
theorem mgk6 : ai_chk [mgc3, mgc4, mgc5] mgc6 (fun pc => sm_ch sm_t103 pc, sm_Kn 3 3 none, fun x => sm_lk sm_ca3 x, some .int) [81, 87, 88, 91] 3 3 [] [] 2000 [] = true := by decide +kernel
/-- MiceRegistersModel.in -/
def mgc7 : ak_C := (105, [.inr (true, ar_t32), .inr (true, [(0, 0)]), .inr (true, [(-2, 39)])], [], [], [([[(0, 39)], [], [(0, 39)]], some (.inr (false, [(1, 1)])), []), ([[], [], []], some (.inr (false, [(0, 0)])), [])])
theorem mgk7 : ai_chk [] mgc7 (fun pc => sm_ch sm_t105 pc, sm_Kn 3 6 none, fun x => sm_lk sm_ca3 x, some .boolean) [] 6 6 [] [] 2000 [] = true := by decide +kernel
/-- MiceRegistersModel.refused -/
def mgh9 : aw_H := [(81, mgx2), (87, mgx4), (91, .inr (.inl (0, 6, [], [])))]
def mgc8 : ak_C := (109, [.inl 81, .inr (false, ar_t32), .inr (false, ar_t32)], mgh9, [81, 91], [([[], [(0, 5)], []], some (.inr (false, [(-3, -3)])), mgh1), ([[], [(0, 5)], [(0, 39)]], some (.inr (false, [(0, 0)])), mgh3), ([[], [(-2147483648, -1), (6, 2147483647)], []], some (.inr (false, [(-1, -1)])), mgh3)])
theorem mgk8 : ai_chk [mgc3, mgc4, mgc7] mgc8 (fun pc => sm_ch sm_t109 pc, sm_Kn 3 3 none, fun x => sm_lk sm_ca3 x, some .int) [81, 91] 3 3 [] [] 2000 [] = true := by decide +kernel
def mgh10 : aw_H := [(81, mgx2)]
/-- MiceRegistersModel.tell -/
def mgc9 : ak_C := (110, [.inl 81, .inr (false, ar_t32)], mgh10, [81], [([], some (.inr (false, [(1, 1)])), mgh10)])
theorem mgk9 : ai_chk [] mgc9 (fun pc => sm_ch sm_t110 pc, sm_Kn 3 2 none, fun x => sm_lk sm_ca3 x, some .int) [81] 2 0 [] [] 2000 [] = true := by decide +kernel
def mgh11 : aw_H := [(81, mgx2), (88, .inr (.inl (0, 240, [], []))), (91, .inr (.inl (0, 6, [], [])))]
def mgh12 : aw_H := [(81, mgx0), (88, .inr (.inl (0, 240, [], []))), (91, .inr (.inl (0, 6, [], [])))]
/-- MiceRegistersModel.lay -/
def mgc10 : ak_C := (108, [.inl 81, .inr (false, ar_t32), .inr (false, ar_t32), .inr (false, ar_t32)], mgh7, [81, 88, 91], [([[], [(-2147483648, -1), (6, 2147483647)], [], []], some (.inr (false, [(-1, -1)])), mgh11), ([[], [(0, 5)], [(0, 39)], []], some (.inr (false, [(1, 1)])), mgh11), ([[], [(0, 5)], [], []], some (.inr (false, [(-3, -3)])), mgh12)])
theorem mgk10 : ai_chk [mgc8, mgc9] mgc10 (fun pc => sm_ch sm_t108 pc, sm_Kn 3 6 none, fun x => sm_lk sm_ca3 x, some .int) [81, 88, 91] 6 4 [] [] 2000 [] = true := by decide +kernel
/-- MiceRegistersModel.at -/
def mgc11 : ak_C := (111, [.inl 81, .inr (false, ar_t32), .inr (false, ar_t32)], mgh7, [81, 91], [([[], [(-2147483648, -1), (6, 2147483647)], []], some (.inr (false, [(-1, -1)])), mgh3), ([[], [(0, 5)], [(0, 39)]], some (.inr (false, [(1, 1)])), mgh3), ([[], [(0, 5)], []], some (.inr (false, [(-3, -3)])), mgh1)])
theorem mgk11 : ai_chk [mgc8, mgc9] mgc11 (fun pc => sm_ch sm_t111 pc, sm_Kn 3 4 none, fun x => sm_lk sm_ca3 x, some .int) [81, 91] 4 3 [] [] 2000 [] = true := by decide +kernel
def mgh13 : aw_H := [(81, mgx0), (87, mgx4), (91, .inr (.inl (0, 6, [], [])))]
/-- MiceRegistersModel.tear -/
def mgc12 : ak_C := (112, [.inl 81, .inr (false, ar_t32)], mgh9, [81, 87, 91], [([[], [(0, 5)]], some (.inr (false, [(-3, -3)])), mgh13), ([[], [(0, 5)]], some (.inr (false, [(1, 1)])), mgh9), ([[], [(-2147483648, -1), (6, 2147483647)]], some (.inr (false, [(-1, -1)])), mgh9)])
theorem mgk12 : ai_chk [mgc3, mgc4] mgc12 (fun pc => sm_ch sm_t112 pc, sm_Kn 3 2 none, fun x => sm_lk sm_ca3 x, some .int) [81, 87, 91] 2 2 [] [] 2000 [] = true := by decide +kernel
/-- MiceRegistersModel.copy -/
def mgc0 : ak_C := (113, [.inl 81, .inr (false, ar_t32), .inr (false, ar_t32), .inr (false, ar_t32), .inr (false, ar_t32), .inr (false, ar_t32)], mgh7, [81, 88, 91], [([], some (.inr (false, [(-1, -1)])), mgh11), ([], some (.inr (false, [(-3, -3)])), mgh11), ([], some (.inr (false, [(1, 1)])), mgh11)])
/-- MiceRegistersModel.mean -/
def mgc13 : ak_C := (115, [.inl 81, .inr (false, ar_t32)], mgh7, [81, 91], [([[], [(0, 5)]], some (.inr (false, [(-3, -3)])), mgh1), ([[], [(-2147483648, -1), (6, 2147483647)]], some (.inr (false, [(-1, -1)])), mgh3), ([[], [(0, 5)]], some (.inr (false, [(1, 1)])), mgh3)])
def mgb13 : sm_P := (fun pc => sm_ch sm_t115 pc, sm_Kn 3 5 none, fun x => sm_lk sm_ca3 x, some .int)
def czmg13x0 : aw_A := ms_o [(0, 8)] [(0, 4)] ar_t32 ar_t32 [(0, 180)] [(0, 60)] [(-1, 60)] [(0, 8)] [(0, 4)]
def czmg13x1 : aw_A := .inr (.inl (0, 6, [(0, 5, [(-1, 40)])], [(0, [(1, 40)])]))
def czmg13h2 : aw_H := [(81, czmg13x0), (87, czmg13x1), (88, .inr (.inl (0, 240, [], []))), (91, .inr (.inl (0, 6, [], [])))]
def czmg13x3 : aw_A := .inr (.inl (0, 6, [(0, 5, [(-1, 40)])], [(1, [(1, 40)])]))
def czmg13h4 : aw_H := [(81, czmg13x0), (87, czmg13x3), (88, .inr (.inl (0, 240, [], []))), (91, .inr (.inl (0, 6, [], [])))]
def czmg13x5 : aw_A := .inr (.inl (0, 6, [(0, 5, [(-1, 40)])], [(2, [(1, 40)])]))
def czmg13h6 : aw_H := [(81, czmg13x0), (87, czmg13x5), (88, .inr (.inl (0, 240, [], []))), (91, .inr (.inl (0, 6, [], [])))]
def czmg13x7 : aw_A := .inr (.inl (0, 6, [(0, 5, [(-1, 40)])], [(3, [(1, 40)])]))
def czmg13h8 : aw_H := [(81, czmg13x0), (87, czmg13x7), (88, .inr (.inl (0, 240, [], []))), (91, .inr (.inl (0, 6, [], [])))]
def czmg13x9 : aw_A := .inr (.inl (0, 6, [(0, 5, [(-1, 40)])], [(4, [(1, 40)])]))
def czmg13h10 : aw_H := [(81, czmg13x0), (87, czmg13x9), (88, .inr (.inl (0, 240, [], []))), (91, .inr (.inl (0, 6, [], [])))]
def czmg13x11 : aw_A := .inr (.inl (0, 6, [(0, 5, [(-1, 40)])], [(5, [(1, 40)])]))
def czmg13h12 : aw_H := [(81, czmg13x0), (87, czmg13x11), (88, .inr (.inl (0, 240, [], []))), (91, .inr (.inl (0, 6, [], [])))]
set_option maxRecDepth 100000 in
theorem mgk13 : ai_ch2 [mgc3, mgc4, mgc9] mgc13 mgb13 [81, 91] 5 2 [44] [(9, some (0, 1, 0), 0, 6)] 2000 [.inr (4, false, [((44, [(0, .inl 81), (1, .inr (false, [(0, 0)])), (2, .inr (true, ar_t64)), (4, .inr (false, [(0, 40)]))], [], czmg13h2), none)]),
  .inr (4, false, [((44, [(0, .inl 81), (1, .inr (false, [(1, 1)])), (2, .inr (true, ar_t64)), (4, .inr (false, [(0, 40)]))], [], czmg13h4), none)]),
  .inr (4, false, [((44, [(0, .inl 81), (1, .inr (false, [(2, 2)])), (2, .inr (true, ar_t64)), (4, .inr (false, [(0, 40)]))], [], czmg13h6), none)]),
  .inr (4, false, [((44, [(0, .inl 81), (1, .inr (false, [(3, 3)])), (2, .inr (true, ar_t64)), (4, .inr (false, [(0, 40)]))], [], czmg13h8), none)]),
  .inr (4, false, [((44, [(0, .inl 81), (1, .inr (false, [(4, 4)])), (2, .inr (true, ar_t64)), (4, .inr (false, [(0, 40)]))], [], czmg13h10), none)]),
  .inr (4, false, [((44, [(0, .inl 81), (1, .inr (false, [(5, 5)])), (2, .inr (true, ar_t64)), (4, .inr (false, [(0, 40)]))], [], czmg13h12), none)])] = true := by decide +kernel
/-- MiceRegistersModel.in -/
def mgc14 : ak_C := (105, [.inr (true, ar_t32), .inr (true, [(0, 0)]), .inr (true, [(3, 3)])], [], [], [([[(0, 3)], [], []], some (.inr (false, [(1, 1)])), []), ([[(-2147483648, -1), (4, 2147483647)], [], []], some (.inr (false, [(0, 0)])), [])])
theorem mgk14 : ai_chk [] mgc14 (fun pc => sm_ch sm_t105 pc, sm_Kn 3 6 none, fun x => sm_lk sm_ca3 x, some .boolean) [] 6 6 [] [] 2000 [] = true := by decide +kernel
/-- MiceRegistersModel.isText -/
def mgc15 : ak_C := (117, [.inr (false, ar_t32)], [], [], [([[(-2147483648, -1), (4, 2147483647)]], some (.inr (false, [(0, 0)])), []), ([[(0, 3)]], some (.inr (false, [(1, 1)])), [])])
theorem mgk15 : ai_chk [mgc14] mgc15 (fun pc => sm_ch sm_t117 pc, sm_Kn 3 1 none, fun x => sm_lk sm_ca3 x, some .boolean) [] 1 1 [] [] 2000 [] = true := by decide +kernel
def mgx494 : aw_A := .inr (.inl (0, 4, [(0, 3, [(-1, 60)])], []))
def mgh495 : aw_H := [(81, mgx2), (89, mgx494), (90, .inr (.inl (0, 240, [], []))), (91, .inr (.inl (0, 6, [], [])))]
def mgh496 : aw_H := [(81, mgx0), (89, mgx494), (90, .inr (.inl (0, 240, [], []))), (91, .inr (.inl (0, 6, [], [])))]
/-- MiceRegistersModel.text -/
def mgc16 : ak_C := (116, [.inl 81, .inr (false, ar_t32), .inr (false, ar_t32)], mgh495, [81, 89, 90, 91], [([[], [(0, 3)], [(61, 2147483647)]], some (.inr (false, [(-1, -1)])), mgh495), ([[], [(0, 3)], [(-2147483648, -1)]], some (.inr (false, [(-3, -3)])), mgh496), ([[], [(-2147483648, -1), (4, 2147483647)], []], some (.inr (false, [(-1, -1)])), mgh495), ([[], [(0, 3)], [(60, 60)]], some (.inr (false, [(60, 60)])), mgh495), ([[], [(0, 3)], [(59, 59)]], some (.inr (false, [(59, 59)])), mgh495), ([[], [(0, 3)], [(58, 58)]], some (.inr (false, [(58, 58)])), mgh495), ([[], [(0, 3)], [(57, 57)]], some (.inr (false, [(57, 57)])), mgh495), ([[], [(0, 3)], [(56, 56)]], some (.inr (false, [(56, 56)])), mgh495), ([[], [(0, 3)], [(55, 55)]], some (.inr (false, [(55, 55)])), mgh495), ([[], [(0, 3)], [(54, 54)]], some (.inr (false, [(54, 54)])), mgh495), ([[], [(0, 3)], [(53, 53)]], some (.inr (false, [(53, 53)])), mgh495), ([[], [(0, 3)], [(52, 52)]], some (.inr (false, [(52, 52)])), mgh495), ([[], [(0, 3)], [(51, 51)]], some (.inr (false, [(51, 51)])), mgh495), ([[], [(0, 3)], [(50, 50)]], some (.inr (false, [(50, 50)])), mgh495), ([[], [(0, 3)], [(49, 49)]], some (.inr (false, [(49, 49)])), mgh495), ([[], [(0, 3)], [(48, 48)]], some (.inr (false, [(48, 48)])), mgh495), ([[], [(0, 3)], [(47, 47)]], some (.inr (false, [(47, 47)])), mgh495), ([[], [(0, 3)], [(46, 46)]], some (.inr (false, [(46, 46)])), mgh495), ([[], [(0, 3)], [(45, 45)]], some (.inr (false, [(45, 45)])), mgh495), ([[], [(0, 3)], [(44, 44)]], some (.inr (false, [(44, 44)])), mgh495), ([[], [(0, 3)], [(43, 43)]], some (.inr (false, [(43, 43)])), mgh495), ([[], [(0, 3)], [(42, 42)]], some (.inr (false, [(42, 42)])), mgh495), ([[], [(0, 3)], [(41, 41)]], some (.inr (false, [(41, 41)])), mgh495), ([[], [(0, 3)], [(40, 40)]], some (.inr (false, [(40, 40)])), mgh495), ([[], [(0, 3)], [(39, 39)]], some (.inr (false, [(39, 39)])), mgh495), ([[], [(0, 3)], [(38, 38)]], some (.inr (false, [(38, 38)])), mgh495), ([[], [(0, 3)], [(37, 37)]], some (.inr (false, [(37, 37)])), mgh495), ([[], [(0, 3)], [(36, 36)]], some (.inr (false, [(36, 36)])), mgh495), ([[], [(0, 3)], [(35, 35)]], some (.inr (false, [(35, 35)])), mgh495), ([[], [(0, 3)], [(34, 34)]], some (.inr (false, [(34, 34)])), mgh495), ([[], [(0, 3)], [(33, 33)]], some (.inr (false, [(33, 33)])), mgh495), ([[], [(0, 3)], [(32, 32)]], some (.inr (false, [(32, 32)])), mgh495), ([[], [(0, 3)], [(31, 31)]], some (.inr (false, [(31, 31)])), mgh495), ([[], [(0, 3)], [(30, 30)]], some (.inr (false, [(30, 30)])), mgh495), ([[], [(0, 3)], [(29, 29)]], some (.inr (false, [(29, 29)])), mgh495), ([[], [(0, 3)], [(28, 28)]], some (.inr (false, [(28, 28)])), mgh495), ([[], [(0, 3)], [(27, 27)]], some (.inr (false, [(27, 27)])), mgh495), ([[], [(0, 3)], [(26, 26)]], some (.inr (false, [(26, 26)])), mgh495), ([[], [(0, 3)], [(25, 25)]], some (.inr (false, [(25, 25)])), mgh495), ([[], [(0, 3)], [(24, 24)]], some (.inr (false, [(24, 24)])), mgh495), ([[], [(0, 3)], [(23, 23)]], some (.inr (false, [(23, 23)])), mgh495), ([[], [(0, 3)], [(22, 22)]], some (.inr (false, [(22, 22)])), mgh495), ([[], [(0, 3)], [(21, 21)]], some (.inr (false, [(21, 21)])), mgh495), ([[], [(0, 3)], [(20, 20)]], some (.inr (false, [(20, 20)])), mgh495), ([[], [(0, 3)], [(19, 19)]], some (.inr (false, [(19, 19)])), mgh495), ([[], [(0, 3)], [(18, 18)]], some (.inr (false, [(18, 18)])), mgh495), ([[], [(0, 3)], [(17, 17)]], some (.inr (false, [(17, 17)])), mgh495), ([[], [(0, 3)], [(16, 16)]], some (.inr (false, [(16, 16)])), mgh495), ([[], [(0, 3)], [(15, 15)]], some (.inr (false, [(15, 15)])), mgh495), ([[], [(0, 3)], [(14, 14)]], some (.inr (false, [(14, 14)])), mgh495), ([[], [(0, 3)], [(13, 13)]], some (.inr (false, [(13, 13)])), mgh495), ([[], [(0, 3)], [(12, 12)]], some (.inr (false, [(12, 12)])), mgh495), ([[], [(0, 3)], [(11, 11)]], some (.inr (false, [(11, 11)])), mgh495), ([[], [(0, 3)], [(10, 10)]], some (.inr (false, [(10, 10)])), mgh495), ([[], [(0, 3)], [(9, 9)]], some (.inr (false, [(9, 9)])), mgh495), ([[], [(0, 3)], [(8, 8)]], some (.inr (false, [(8, 8)])), mgh495), ([[], [(0, 3)], [(7, 7)]], some (.inr (false, [(7, 7)])), mgh495), ([[], [(0, 3)], [(6, 6)]], some (.inr (false, [(6, 6)])), mgh495), ([[], [(0, 3)], [(5, 5)]], some (.inr (false, [(5, 5)])), mgh495), ([[], [(0, 3)], [(4, 4)]], some (.inr (false, [(4, 4)])), mgh495), ([[], [(0, 3)], [(3, 3)]], some (.inr (false, [(3, 3)])), mgh495), ([[], [(0, 3)], [(2, 2)]], some (.inr (false, [(2, 2)])), mgh495), ([[], [(0, 3)], [(1, 1)]], some (.inr (false, [(1, 1)])), mgh495), ([[], [(0, 3)], [(0, 0)]], some (.inr (false, [(0, 0)])), mgh495)])
def czmg16x0 : aw_A := ms_o [(0, 8)] [(0, 4)] ar_t32 ar_t32 [(0, 180)] [(0, 60)] [(-1, 60)] [(0, 8)] [(0, 4)]
def czmg16x1 : aw_A := .inr (.inl (0, 4, [(0, 3, [(-1, 60)])], []))
def czmg16h2 : aw_H := [(81, czmg16x0), (89, czmg16x1), (90, .inr (.inl (0, 240, [], []))), (91, .inr (.inl (0, 6, [], [])))]
set_option maxRecDepth 100000 in
theorem mgk16 : ai_ch2 [mgc15, mgc4] mgc16 (fun pc => sm_ch sm_t116 pc, sm_Kn 3 4 none, fun x => sm_lk sm_ca3 x, some .int) [81, 89, 90, 91] 4 3 [34] [(59, some (0, 2, 0), 0, 61)] 2000 [.inr (3, false, [((34, [(0, .inl 81), (1, .inr (false, [(0, 3)])), (2, .inr (false, [(0, 60)])), (3, .inr (false, [(0, 60)]))], [], czmg16h2), none)])] = true := by decide +kernel
/-! Contracts over ranges of the reference, and their checks; printed by a program of mine. -/
/-- MiceRegistersModel.in -/
def mgc17 : ak_C := (105, [.inr (true, ar_t32), .inr (true, [(0, 0)]), .inr (true, [(-2, 59)])], [], [], [([[(0, 59)], [], [(0, 59)]], some (.inr (false, [(1, 1)])), []), ([[], [], []], some (.inr (false, [(0, 0)])), [])])
theorem mgk17 : ai_chk [] mgc17 (fun pc => sm_ch sm_t105 pc, sm_Kn 3 6 none, fun x => sm_lk sm_ca3 x, some .boolean) [] 6 6 [] [] 2000 [] = true := by decide +kernel
def mgh497 : aw_H := [(81, mgx0), (90, .inr (.inl (0, 240, [], []))), (91, .inr (.inl (0, 6, [], [])))]
def mgh498 : aw_H := [(81, mgx2), (90, .inr (.inl (0, 240, [], []))), (91, .inr (.inl (0, 6, [], [])))]
/-- MiceRegistersModel.put -/
def mgc18 : ak_C := (118, [.inl 81, .inr (false, ar_t32), .inr (false, ar_t32), .inr (false, ar_t32)], mgh495, [81, 90, 91], [([[], [(0, 3)], [], []], some (.inr (false, [(-3, -3)])), mgh497), ([[], [(0, 3)], [(0, 59)], []], some (.inr (false, ar_t32)), mgh498), ([[], [(-2147483648, -1), (4, 2147483647)], [], []], some (.inr (false, [(-1, -1)])), mgh498)])
theorem mgk18 : ai_chk [mgc15, mgc4, mgc17] mgc18 (fun pc => sm_ch sm_t118 pc, sm_Kn 3 5 none, fun x => sm_lk sm_ca3 x, some .int) [81, 90, 91] 5 4 [] [] 2000 [] = true := by decide +kernel
/-- MiceRegistersModel.in -/
def mgc6329 : ak_C := (105, [.inr (true, ar_t32), .inr (true, [(0, 0)]), .inr (true, [(-1, 7)])], [], [], [([[(0, 7)], [], [(0, 7)]], some (.inr (false, [(1, 1)])), []), ([[], [], []], some (.inr (false, [(0, 0)])), [])])
theorem mgk6329 : ai_chk [] mgc6329 (fun pc => sm_ch sm_t105 pc, sm_Kn 3 6 none, fun x => sm_lk sm_ca3 x, some .boolean) [] 6 6 [] [] 2000 [] = true := by decide +kernel
/-- MiceRegistersModel.isLine -/
def mgc6330 : ak_C := (131, [.inl 81, .inr (false, ar_t32)], mgh10, [], [([[], []], some (.inr (false, [(0, 0)])), []), ([[], [(0, 7)]], some (.inr (false, [(1, 1)])), [])])
theorem mgk6330 : ai_chk [mgc6329] mgc6330 (fun pc => sm_ch sm_t131 pc, sm_Kn 3 2 none, fun x => sm_lk sm_ca3 x, some .boolean) [] 2 2 [] [] 2000 [] = true := by decide +kernel
/-- MiceRegistersModel.has -/
def mgc6331 : ak_C := (135, [.inr (false, ar_t32), .inr (false, ar_t32)], [], [], [([], some (.inr (false, [(1, 1)])), []), ([], some (.inr (false, [(0, 0)])), [])])
theorem mgk6331 : ai_chk [] mgc6331 (fun pc => sm_ch sm_t135 pc, sm_Kn 3 2 none, fun x => sm_lk sm_ca3 x, some .boolean) [] 2 0 [] [] 2000 [] = true := by decide +kernel
/-- MiceRegistersModel.farOf -/
def mgh20389 : aw_H := [(81, mgx2), (82, ms_r [(0, [(-1, 40)])])]
def mgc6332 : ak_C := (137, [.inl 81, .inr (false, [(0, 0)]), .inr (false, [(0, 3)]), .inr (false, [(0, 7)])], mgh20389, [], [([], some (.inr (false, [(0, 7)])), [])])
theorem mgk6332 : ai_chk [] mgc6332 (fun pc => sm_ch sm_t137 pc, sm_Kn 3 5 none, fun x => sm_lk sm_ca3 x, some .int) [] 5 0 [] [] 2000 [] = true := by decide +kernel
/-- MiceRegistersModel.likesBy -/
def mgc6333 : ak_C := (138, [.inr (false, ar_t32), .inr (false, ar_t32), .inr (false, ar_t32), .inr (false, ar_t32)], [], [], [([], some (.inr (false, ar_t32)), [])])
theorem mgk6333 : ai_chk [] mgc6333 (fun pc => sm_ch sm_t138 pc, sm_Kn 3 4 none, fun x => sm_lk sm_ca3 x, some .int) [] 4 0 [] [] 2000 [] = true := by decide +kernel
/-- MiceRegistersModel.likesIn -/
def mgh20390 : aw_H := [(81, mgx2), (82, ms_r [(0, [(-1, 40)])]), (83, .inr (.inl (0, 8, [], []))), (85, .inr (.inl (0, 4, [], [])))]
def mgc6334 : ak_C := (136, [.inl 81, .inr (false, [(0, 0)]), .inr (false, [(0, 3)]), .inr (false, [(0, 7)])], mgh20390, [], [([], some (.inr (false, ar_t32)), [])])
theorem mgk6334 : ai_chk [mgc6332, mgc6333] mgc6334 (fun pc => sm_ch sm_t136 pc, sm_Kn 3 4 none, fun x => sm_lk sm_ca3 x, some .int) [] 4 0 [] [] 2000 [] = true := by decide +kernel
/-- MiceRegistersModel.wants -/
def mgc6335 : ak_C := (134, [.inl 81, .inr (false, [(0, 0)]), .inr (false, [(0, 3)])], mgh20390, [], [([], some (.inr (false, [(-9, -9)])), []), ([], some (.inr (false, [(-9, -9), (0, 7)])), [])])
def mgx20391 : aw_A := ms_o [(1, 8)] [(0, 4)] ar_t32 ar_t32 [(0, 180)] [(0, 60)] [(-1, 60)] [(0, 8)] [(0, 4)]
def mgx20393 : aw_A := ms_o [(2, 8)] [(0, 4)] ar_t32 ar_t32 [(0, 180)] [(0, 60)] [(-1, 60)] [(0, 8)] [(0, 4)]
def mgx20394 : aw_A := ms_r [(0, [(-1, 40)]), (4, ar_t32), (5, ar_t32)]
def mgx20396 : aw_A := ms_o [(3, 8)] [(0, 4)] ar_t32 ar_t32 [(0, 180)] [(0, 60)] [(-1, 60)] [(0, 8)] [(0, 4)]
def mgx20397 : aw_A := ms_r [(0, [(-1, 40)]), (4, ar_t32), (5, ar_t32), (6, ar_t32)]
def mgx20399 : aw_A := ms_o [(4, 8)] [(0, 4)] ar_t32 ar_t32 [(0, 180)] [(0, 60)] [(-1, 60)] [(0, 8)] [(0, 4)]
def mgx20400 : aw_A := ms_r [(0, [(-1, 40)]), (4, ar_t32), (5, ar_t32), (6, ar_t32), (7, ar_t32)]
def mgx20402 : aw_A := ms_o [(5, 8)] [(0, 4)] ar_t32 ar_t32 [(0, 180)] [(0, 60)] [(-1, 60)] [(0, 8)] [(0, 4)]
def mgx20403 : aw_A := ms_r [(0, [(-1, 40)]), (4, ar_t32), (5, ar_t32), (6, ar_t32), (7, ar_t32), (8, ar_t32)]
def mgx20405 : aw_A := ms_o [(6, 8)] [(0, 4)] ar_t32 ar_t32 [(0, 180)] [(0, 60)] [(-1, 60)] [(0, 8)] [(0, 4)]
def mgx20406 : aw_A := ms_r [(0, [(-1, 40)]), (4, ar_t32), (5, ar_t32), (6, ar_t32), (7, ar_t32), (8, ar_t32), (9, ar_t32)]
def mgx20408 : aw_A := ms_o [(7, 8)] [(0, 4)] ar_t32 ar_t32 [(0, 180)] [(0, 60)] [(-1, 60)] [(0, 8)] [(0, 4)]
def mgx20409 : aw_A := ms_r [(0, [(-1, 40)]), (4, ar_t32), (5, ar_t32), (6, ar_t32), (7, ar_t32), (8, ar_t32), (9, ar_t32), (10, ar_t32)]
def mgx20411 : aw_A := ms_o [(8, 8)] [(0, 4)] ar_t32 ar_t32 [(0, 180)] [(0, 60)] [(-1, 60)] [(0, 8)] [(0, 4)]
def mgx20412 : aw_A := ms_r [(0, [(-1, 40)]), (4, ar_t32), (5, ar_t32), (6, ar_t32), (7, ar_t32), (8, ar_t32), (9, ar_t32), (10, ar_t32), (11, ar_t32)]
def mgb6335 : sm_P := (fun pc => sm_ch sm_t134 pc, sm_Kn 3 9 none, fun x => sm_lk sm_ca3 x, some .int)
def czmg6335x0 : aw_A := ms_o [(0, 8)] [(0, 4)] ar_t32 ar_t32 [(0, 180)] [(0, 60)] [(-1, 60)] [(0, 8)] [(0, 4)]
def czmg6335h1 : aw_H := [(81, czmg6335x0), (82, ms_r [(0, [(-1, 40)])]), (83, .inr (.inl (0, 8, [], []))), (85, .inr (.inl (0, 4, [], [])))]
set_option maxRecDepth 100000 in
theorem mgk6335 : ai_ch2 [mgc6331, mgc6334, mgc6332] mgc6335 mgb6335 [] 9 0 [9] [] 2000 [.inr (5, false, [((9, [(0, .inl 81), (1, .inr (false, [(0, 0)])), (2, .inr (false, [(0, 3)])), (3, .inr (false, [(-9, -9), (0, 7)])), (4, .inr (false, [(0, 2147483647)])), (5, .inr (false, [(0, 8)]))], [], czmg6335h1), none)])] = true := by decide +kernel
/-- MiceRegistersModel.wantedBy -/
def mgc6336 : ak_C := (133, [.inl 81, .inr (false, ar_t32)], mgh20390, [], [([], some (.inr (false, [(0, 0)])), []), ([], some (.inr (false, ar_t32)), [])])
def mgx20414 : aw_A := ms_o [(0, 8)] [(1, 4)] ar_t32 ar_t32 [(0, 180)] [(0, 60)] [(-1, 60)] [(0, 8)] [(0, 4)]
def mgh20415 : aw_H := [(81, mgx20414), (82, ms_r [(0, [(-1, 40)])]), (83, .inr (.inl (0, 8, [], []))), (85, .inr (.inl (0, 4, [], [])))]
def mgx20416 : aw_A := ms_o [(0, 8)] [(2, 4)] ar_t32 ar_t32 [(0, 180)] [(0, 60)] [(-1, 60)] [(0, 8)] [(0, 4)]
def mgh20417 : aw_H := [(81, mgx20416), (82, ms_r [(0, [(-1, 40)])]), (83, .inr (.inl (0, 8, [], []))), (85, .inr (.inl (0, 4, [], [])))]
def mgx20418 : aw_A := ms_o [(0, 8)] [(3, 4)] ar_t32 ar_t32 [(0, 180)] [(0, 60)] [(-1, 60)] [(0, 8)] [(0, 4)]
def mgh20419 : aw_H := [(81, mgx20418), (82, ms_r [(0, [(-1, 40)])]), (83, .inr (.inl (0, 8, [], []))), (85, .inr (.inl (0, 4, [], [])))]
def mgx20420 : aw_A := ms_o [(0, 8)] [(4, 4)] ar_t32 ar_t32 [(0, 180)] [(0, 60)] [(-1, 60)] [(0, 8)] [(0, 4)]
def mgh20421 : aw_H := [(81, mgx20420), (82, ms_r [(0, [(-1, 40)])]), (83, .inr (.inl (0, 8, [], []))), (85, .inr (.inl (0, 4, [], [])))]
theorem mgk6336 : ai_chk [mgc6335] mgc6336 (fun pc => sm_ch sm_t133 pc, sm_Kn 3 4 none, fun x => sm_lk sm_ca3 x, some .int) [] 4 0 [4] [] 2000 [(4, [(0, .inl 81), (1, .inr (false, ar_t32)), (2, .inr (false, [(0, 0)])), (3, .inr (false, [(0, 0)]))], [], mgh20390),
  (4, [(0, .inl 81), (1, .inr (false, ar_t32)), (2, .inr (false, [(0, 1)])), (3, .inr (false, [(1, 1)]))], [], mgh20415),
  (4, [(0, .inl 81), (1, .inr (false, ar_t32)), (2, .inr (false, ar_t32)), (3, .inr (false, [(2, 2)]))], [], mgh20417),
  (4, [(0, .inl 81), (1, .inr (false, ar_t32)), (2, .inr (false, ar_t32)), (3, .inr (false, [(3, 3)]))], [], mgh20419),
  (4, [(0, .inl 81), (1, .inr (false, ar_t32)), (2, .inr (false, ar_t32)), (3, .inr (false, [(4, 4)]))], [], mgh20421)] = true := by decide +kernel
/-- MiceRegistersModel.lineTold -/
def mgh20422 : aw_H := [(81, mgx2), (82, ms_r [(0, [(-1, 40)])]), (83, .inr (.inl (0, 8, [], []))), (84, .inr (.inl (0, 8, [], []))), (85, .inr (.inl (0, 4, [], [])))]
def mgc6337 : ak_C := (132, [.inl 81, .inr (false, [(0, 7)]), .inr (false, ar_t32)], mgh20422, [], [([[], [], []], some (.inr (false, ar_t32)), []), ([[], [], [(-2147483648, -1), (5, 2147483647)]], some (.inr (false, [(0, 0)])), [])])
theorem mgk6337 : ai_chk [mgc6336] mgc6337 (fun pc => sm_ch sm_t132 pc, sm_Kn 3 3 none, fun x => sm_lk sm_ca3 x, some .int) [] 3 3 [] [] 2000 [] = true := by decide +kernel
/-- MiceRegistersModel.line -/
def mgc6338 : ak_C := (130, [.inl 81, .inr (false, ar_t32), .inr (false, ar_t32)], mgh20422, [81], [([[], [], []], some (.inr (false, [(-1, -1)])), mgh10), ([[], [(0, 7)], [(0, 5)]], some (.inr (false, [(1, 1)])), mgh10)])
theorem mgk6338 : ai_chk [mgc6330, mgc2, mgc6337, mgc9] mgc6338 (fun pc => sm_ch sm_t130 pc, sm_Kn 3 3 none, fun x => sm_lk sm_ca3 x, some .int) [81] 3 3 [] [] 2000 [] = true := by decide +kernel
/-- MiceRegistersModel.in -/
def mgc6339 : ak_C := (105, [.inr (true, ar_t32), .inr (true, [(0, 0)]), .inr (true, [(-1, 3)])], [], [], [([[(0, 3)], [], [(0, 3)]], some (.inr (false, [(1, 1)])), []), ([[], [], []], some (.inr (false, [(0, 0)])), [])])
theorem mgk6339 : ai_chk [] mgc6339 (fun pc => sm_ch sm_t105 pc, sm_Kn 3 6 none, fun x => sm_lk sm_ca3 x, some .boolean) [] 6 6 [] [] 2000 [] = true := by decide +kernel
/-- MiceRegistersModel.isMouse -/
def mgc6340 : ak_C := (140, [.inl 81, .inr (false, ar_t32)], mgh10, [], [([[], []], some (.inr (false, [(0, 0)])), []), ([[], [(0, 3)]], some (.inr (false, [(1, 1)])), [])])
theorem mgk6340 : ai_chk [mgc6339] mgc6340 (fun pc => sm_ch sm_t140 pc, sm_Kn 3 2 none, fun x => sm_lk sm_ca3 x, some .boolean) [] 2 2 [] [] 2000 [] = true := by decide +kernel
/-- MiceRegistersModel.in -/
def mgc6341 : ak_C := (105, [.inr (true, ar_t32), .inr (true, [(0, 0)]), .inr (true, [(4, 4)])], [], [], [([[(0, 4)], [], []], some (.inr (false, [(1, 1)])), []), ([[(-2147483648, -1), (5, 2147483647)], [], []], some (.inr (false, [(0, 0)])), [])])
theorem mgk6341 : ai_chk [] mgc6341 (fun pc => sm_ch sm_t105 pc, sm_Kn 3 6 none, fun x => sm_lk sm_ca3 x, some .boolean) [] 6 6 [] [] 2000 [] = true := by decide +kernel
/-- MiceRegistersModel.eatsOf -/
def mgh20423 : aw_H := [(81, mgx2), (85, .inr (.inl (0, 4, [], []))), (86, .inr (.inl (0, 4, [], [])))]
def mgc6342 : ak_C := (142, [.inl 81, .inr (false, [(0, 3)])], mgh20423, [], [([], some (.inr (false, ar_t32)), [])])
theorem mgk6342 : ai_chk [] mgc6342 (fun pc => sm_ch sm_t142 pc, sm_Kn 3 2 none, fun x => sm_lk sm_ca3 x, some .int) [] 2 0 [] [] 2000 [] = true := by decide +kernel
/-- MiceRegistersModel.mouseTold -/
def mgh20424 : aw_H := [(81, mgx2), (82, ms_r [(0, [(-1, 40)])]), (83, .inr (.inl (0, 8, [], []))), (85, .inr (.inl (0, 4, [], []))), (86, .inr (.inl (0, 4, [], [])))]
def mgc6343 : ak_C := (141, [.inl 81, .inr (false, [(0, 3)]), .inr (false, ar_t32)], mgh20424, [], [([[], [], []], some (.inr (false, ar_t32)), []), ([[], [], [(-2147483648, -1), (4, 2147483647)]], some (.inr (false, [(-9, -9)])), [])])
theorem mgk6343 : ai_chk [mgc6342, mgc6335] mgc6343 (fun pc => sm_ch sm_t141 pc, sm_Kn 3 3 none, fun x => sm_lk sm_ca3 x, some .int) [] 3 3 [] [] 2000 [] = true := by decide +kernel
/-- MiceRegistersModel.mouse -/
def mgc6344 : ak_C := (139, [.inl 81, .inr (false, ar_t32), .inr (false, ar_t32)], mgh20424, [81], [([[], [], []], some (.inr (false, [(-1, -1)])), mgh10), ([[], [(0, 3)], [(0, 4)]], some (.inr (false, [(1, 1)])), mgh10)])
theorem mgk6344 : ai_chk [mgc6340, mgc6341, mgc6343, mgc9] mgc6344 (fun pc => sm_ch sm_t139 pc, sm_Kn 3 3 none, fun x => sm_lk sm_ca3 x, some .int) [81] 3 3 [] [] 2000 [] = true := by decide +kernel
def mgh20425 : aw_H := [(82, ms_r [(0, [(0, 40)])])]
/-- MiceRegistersModel.keepPast -/
def mgh20426 : aw_H := [(81, mgx2), (82, ms_r [(0, [(-1, 39)])])]
def mgc6345 : ak_C := (149, [.inl 81], mgh20426, [82], [([], none, mgh20425)])
def mgh20427 : aw_H := [(82, ms_r [(0, [(-1, 40)])])]
/-- MiceRegistersModel.passes -/
def mgc6346 : ak_C := (150, [.inl 81, .inr (false, [(0, 0)]), .inr (false, ar_t32)], mgh20424, [82], [([], some (.inr (false, ar_t32)), mgh20427)])
def czmg6346x0 : aw_A := ms_o [(0, 8)] [(0, 4)] ar_t32 ar_t32 [(0, 180)] [(0, 60)] [(-1, 60)] [(0, 8)] [(0, 4)]
def czmg6346h1 : aw_H := [(81, czmg6346x0), (82, ms_r [(0, [(-1, 40)])]), (83, .inr (.inl (0, 8, [], []))), (85, .inr (.inl (0, 4, [], []))), (86, .inr (.inl (0, 4, [], [])))]
set_option maxRecDepth 100000 in
theorem mgk6346 : ai_ch2 [mgc6331, mgc6335, mgc6342] mgc6346 (fun pc => sm_ch sm_t150 pc, sm_Kn 3 7 none, fun x => sm_lk sm_ca3 x, some .int) [82] 7 0 [5, 130] [] 2000 [.inr (4, false, [((5, [(0, .inl 81), (1, .inr (false, [(0, 0)])), (2, .inr (false, ar_t32)), (3, .inr (false, ar_t32)), (4, .inr (false, [(0, 4)]))], [], czmg6346h1), none)]),
  .inr (4, false, [((130, [(0, .inl 81), (1, .inr (false, [(0, 0)])), (2, .inr (false, ar_t32)), (3, .inr (false, ar_t32)), (4, .inr (false, [(0, 8)]))], [], czmg6346h1), none)])] = true := by decide +kernel
def mgh20447 : aw_H := [(82, ms_r [(0, [(40, 40)])])]
/-- MiceRegistersModel.year -/
def mgc6347 : ak_C := (148, [.inl 81], mgh20424, [82], [([], some (.inr (false, [(-4, -4)])), mgh20427), ([], some (.inr (false, [(-2, -2)])), mgh20447), ([], some (.inr (false, ar_t32)), mgh20427)])
theorem mgk6347 : ai_chk [mgc6345, mgc6346] mgc6347 (fun pc => sm_ch sm_t148 pc, sm_Kn 3 1 none, fun x => sm_lk sm_ca3 x, some .int) [82] 1 0 [] [] 2000 [] = true := by decide +kernel
/-- MiceRegistersModel.in -/
def mgc6348 : ak_C := (105, [.inr (true, ar_t32), .inr (true, [(1, 1)]), .inr (true, [(9, 9)])], [], [], [([[(1, 9)], [], []], some (.inr (false, [(1, 1)])), []), ([[(-2147483648, 0), (10, 2147483647)], [], []], some (.inr (false, [(0, 0)])), [])])
theorem mgk6348 : ai_chk [] mgc6348 (fun pc => sm_ch sm_t105 pc, sm_Kn 3 6 none, fun x => sm_lk sm_ca3 x, some .boolean) [] 6 6 [] [] 2000 [] = true := by decide +kernel
/-- MiceRegistersModel.cheese -/
def mgc6349 : ak_C := (151, [.inl 81, .inr (false, ar_t32), .inr (false, ar_t32)], mgh20389, [82], [([[], [], []], some (.inr (false, [(-1, -1)])), mgh20427), ([[], [(0, 7)], [(1, 9)]], some (.inr (false, [(-4, -4)])), mgh20427), ([[], [(0, 7)], [(1, 9)]], some (.inr (false, [(-2, -2)])), mgh20447), ([[], [(0, 7)], [(1, 9)]], some (.inr (false, ar_t32)), mgh20425)])
theorem mgk6349 : ai_chk [mgc6330, mgc6348, mgc6345] mgc6349 (fun pc => sm_ch sm_t151 pc, sm_Kn 3 3 none, fun x => sm_lk sm_ca3 x, some .int) [82] 3 3 [] [] 2000 [] = true := by decide +kernel
/-- MiceRegistersModel.cat -/
def mgc6350 : ak_C := (152, [.inl 81, .inr (false, ar_t32)], mgh20389, [82], [([[], [(-9, -9), (0, 7)]], some (.inr (false, [(-4, -4)])), mgh20427), ([[], [(-9, -9), (0, 7)]], some (.inr (false, [(-2, -2)])), mgh20447), ([[], [(-9, -9), (0, 7)]], some (.inr (false, ar_t32)), mgh20425), ([[], []], some (.inr (false, [(-1, -1)])), mgh20427)])
theorem mgk6350 : ai_chk [mgc6330, mgc6345] mgc6350 (fun pc => sm_ch sm_t152 pc, sm_Kn 3 3 none, fun x => sm_lk sm_ca3 x, some .int) [82] 3 2 [] [] 2000 [] = true := by decide +kernel
/-- MiceRegistersModel.wax -/
def mgc6351 : ak_C := (153, [.inl 81, .inr (false, ar_t32)], mgh20389, [82], [([[], [(0, 7)]], some (.inr (false, [(-2, -2)])), mgh20447), ([[], [(0, 7)]], some (.inr (false, [(0, 1)])), mgh20425), ([[], []], some (.inr (false, [(-1, -1)])), mgh20427)])
theorem mgk6351 : ai_chk [mgc6330, mgc6345] mgc6351 (fun pc => sm_ch sm_t153 pc, sm_Kn 3 2 none, fun x => sm_lk sm_ca3 x, some .int) [82] 2 2 [] [] 2000 [] = true := by decide +kernel
/-! Contracts over ranges of the reference, and their checks; printed by a program of mine. -/
/-- MiceRegistersModel.in -/
def mgc6354 : ak_C := (105, [.inr (true, ar_t32), .inr (true, [(0, 0)]), .inr (true, [(2, 2)])], [], [], [([[(0, 2)], [], []], some (.inr (false, [(1, 1)])), []), ([[(-2147483648, -1), (3, 2147483647)], [], []], some (.inr (false, [(0, 0)])), [])])
theorem mgk6354 : ai_chk [] mgc6354 (fun pc => sm_ch sm_t105 pc, sm_Kn 3 6 none, fun x => sm_lk sm_ca3 x, some .boolean) [] 6 6 [] [] 2000 [] = true := by decide +kernel
/-- MiceRegistersModel.copyRegister -/
def mgc6355 : ak_C := (156, [.inl 81, .inr (false, [(0, 0)]), .inr (false, [(2832, 2832)])], mgh20389, [82], [([], none, mgh20427)])
/-- MiceRegistersModel.copyRegister -/
def mgc6356 : ak_C := (156, [.inl 81, .inr (false, [(0, 0)]), .inr (false, [(1888, 1888)])], mgh20389, [82], [([], none, mgh20427)])
/-- MiceRegistersModel.copyRegister -/
def mgc6357 : ak_C := (156, [.inl 81, .inr (false, [(0, 0)]), .inr (false, [(944, 944)])], mgh20389, [82], [([], none, mgh20427)])
/-- MiceRegistersModel.keep -/
def mgc6358 : ak_C := (155, [.inl 81, .inr (false, ar_t32)], mgh20389, [82], [([[], [(-2147483648, -1), (3, 2147483647)]], some (.inr (false, [(-1, -1)])), mgh20427), ([[], [(0, 2)]], some (.inr (false, [(-4, -4)])), mgh20427), ([[], [(0, 2)]], some (.inr (false, [(-1, 40)])), mgh20427)])
theorem mgk6358 : ai_chk [mgc6354, mgc6355, mgc6356, mgc6357] mgc6358 (fun pc => sm_ch sm_t155 pc, sm_Kn 3 2 none, fun x => sm_lk sm_ca3 x, some .int) [82] 2 2 [] [(24, some (0, 1, 0), 0, 3)] 2000 [] = true := by decide +kernel
/-- MiceRegistersModel.copyRegister -/
def mgc6359 : ak_C := (156, [.inl 81, .inr (false, [(2832, 2832)]), .inr (false, [(0, 0)])], mgh20389, [82], [([], none, mgh20427)])
/-- MiceRegistersModel.copyRegister -/
def mgc6360 : ak_C := (156, [.inl 81, .inr (false, [(1888, 1888)]), .inr (false, [(0, 0)])], mgh20389, [82], [([], none, mgh20427)])
/-- MiceRegistersModel.copyRegister -/
def mgc6361 : ak_C := (156, [.inl 81, .inr (false, [(944, 944)]), .inr (false, [(0, 0)])], mgh20389, [82], [([], none, mgh20427)])
def mgh20448 : aw_H := [(81, mgx2), (82, ms_r [(0, [(-1, 40)])]), (91, .inr (.inl (0, 6, [], [])))]
def mgh20449 : aw_H := [(81, mgx0), (82, ms_r [(0, [(-1, 40)])]), (91, .inr (.inl (0, 6, [], [])))]
/-- MiceRegistersModel.on -/
def mgc6362 : ak_C := (157, [.inl 81, .inr (false, ar_t32)], mgh20448, [81, 82, 91], [([[], [(-2147483648, -1), (3, 2147483647)]], some (.inr (false, [(-1, -1)])), mgh20448), ([[], [(0, 2)]], some (.inr (false, [(-3, -3)])), mgh20449), ([[], [(0, 2)]], some (.inr (false, [(-1, 40)])), mgh20448)])
theorem mgk6362 : ai_chk [mgc6354, mgc4, mgc6359, mgc6360, mgc6361] mgc6362 (fun pc => sm_ch sm_t157 pc, sm_Kn 3 2 none, fun x => sm_lk sm_ca3 x, some .int) [81, 82, 91] 2 2 [] [(14, some (0, 1, 0), 0, 3)] 2000 [] = true := by decide +kernel
/-- MiceRegistersModel.in -/
def mgc6363 : ak_C := (105, [.inr (true, ar_t32), .inr (true, [(0, 0)]), .inr (true, [(9, 9)])], [], [], [([[(0, 9)], [], []], some (.inr (false, [(1, 1)])), []), ([[(-2147483648, -1), (10, 2147483647)], [], []], some (.inr (false, [(0, 0)])), [])])
theorem mgk6363 : ai_chk [] mgc6363 (fun pc => sm_ch sm_t105 pc, sm_Kn 3 6 none, fun x => sm_lk sm_ca3 x, some .boolean) [] 6 6 [] [] 2000 [] = true := by decide +kernel
/-- MiceRegistersModel.in -/
def mgc6364 : ak_C := (105, [.inr (true, ar_t32), .inr (true, [(0, 0)]), .inr (true, [(20, 20)])], [], [], [([[(0, 20)], [], []], some (.inr (false, [(1, 1)])), []), ([[(-2147483648, -1), (21, 2147483647)], [], []], some (.inr (false, [(0, 0)])), [])])
theorem mgk6364 : ai_chk [] mgc6364 (fun pc => sm_ch sm_t105 pc, sm_Kn 3 6 none, fun x => sm_lk sm_ca3 x, some .boolean) [] 6 6 [] [] 2000 [] = true := by decide +kernel
/-- MiceRegistersModel.in -/
def mgc6365 : ak_C := (105, [.inr (true, ar_t32), .inr (true, [(0, 0)]), .inr (true, [(7, 7)])], [], [], [([[(0, 7)], [], []], some (.inr (false, [(1, 1)])), []), ([[(-2147483648, -1), (8, 2147483647)], [], []], some (.inr (false, [(0, 0)])), [])])
theorem mgk6365 : ai_chk [] mgc6365 (fun pc => sm_ch sm_t105 pc, sm_Kn 3 6 none, fun x => sm_lk sm_ca3 x, some .boolean) [] 6 6 [] [] 2000 [] = true := by decide +kernel
/-- MiceRegistersModel.likes -/
def mgh20450 : aw_H := [(81, mgx2), (85, .inr (.inl (0, 4, [], [])))]
def mgc6366 : ak_C := (158, [.inl 81, .inr (false, ar_t32), .inr (false, ar_t32), .inr (false, ar_t32), .inr (false, ar_t32)], mgh20450, [81], [([[], [], [], [], []], some (.inr (false, [(-1, -1)])), mgh10), ([[], [(0, 3)], [(0, 9)], [(0, 20)], [(0, 7)]], some (.inr (false, [(1, 1)])), mgh10)])
theorem mgk6366 : ai_chk [mgc6340, mgc6363, mgc6364, mgc6365, mgc6333, mgc9] mgc6366 (fun pc => sm_ch sm_t158 pc, sm_Kn 3 5 none, fun x => sm_lk sm_ca3 x, some .int) [81] 5 5 [] [] 2000 [] = true := by decide +kernel
/-- MiceRegistersModel.in -/
def mgc6367 : ak_C := (105, [.inr (true, ar_t32), .inr (true, [(0, 0)]), .inr (true, [(40, 40)])], [], [], [([[(0, 40)], [], []], some (.inr (false, [(1, 1)])), []), ([[(-2147483648, -1), (41, 2147483647)], [], []], some (.inr (false, [(0, 0)])), [])])
theorem mgk6367 : ai_chk [] mgc6367 (fun pc => sm_ch sm_t105 pc, sm_Kn 3 6 none, fun x => sm_lk sm_ca3 x, some .boolean) [] 6 6 [] [] 2000 [] = true := by decide +kernel
/-- MiceRegistersModel.layTried -/
def mgc6368 : ak_C := (160, [.inl 81], mgh20389, [82], [([], none, mgh20427)])
theorem mgk6368 : ai_chk [] mgc6368 (fun pc => sm_ch sm_t160 pc, sm_Kn 3 2 none, fun x => sm_lk sm_ca3 x, none) [82] 2 0 [2] [] 2000 [(2, [(0, .inl 81), (1, .inr (false, [(0, 0)]))], [], mgh20389),
  (2, [(0, .inl 81), (1, .inr (false, [(1, 1)]))], [], mgh20389),
  (2, [(0, .inl 81), (1, .inr (false, [(2, 2)]))], [], mgh20389),
  (2, [(0, .inl 81), (1, .inr (false, [(3, 3)]))], [], mgh20389),
  (2, [(0, .inl 81), (1, .inr (false, [(4, 4)]))], [], mgh20389),
  (2, [(0, .inl 81), (1, .inr (false, [(5, 5)]))], [], mgh20389),
  (2, [(0, .inl 81), (1, .inr (false, [(6, 6)]))], [], mgh20389),
  (2, [(0, .inl 81), (1, .inr (false, [(7, 7)]))], [], mgh20389),
  (2, [(0, .inl 81), (1, .inr (false, [(8, 8)]))], [], mgh20389),
  (2, [(0, .inl 81), (1, .inr (false, [(9, 9)]))], [], mgh20389),
  (2, [(0, .inl 81), (1, .inr (false, [(10, 10)]))], [], mgh20389),
  (2, [(0, .inl 81), (1, .inr (false, [(11, 11)]))], [], mgh20389),
  (2, [(0, .inl 81), (1, .inr (false, [(12, 12)]))], [], mgh20389),
  (2, [(0, .inl 81), (1, .inr (false, [(13, 13)]))], [], mgh20389),
  (2, [(0, .inl 81), (1, .inr (false, [(14, 14)]))], [], mgh20389),
  (2, [(0, .inl 81), (1, .inr (false, [(15, 15)]))], [], mgh20389),
  (2, [(0, .inl 81), (1, .inr (false, [(16, 16)]))], [], mgh20389),
  (2, [(0, .inl 81), (1, .inr (false, [(17, 17)]))], [], mgh20389),
  (2, [(0, .inl 81), (1, .inr (false, [(18, 18)]))], [], mgh20389),
  (2, [(0, .inl 81), (1, .inr (false, [(19, 19)]))], [], mgh20389),
  (2, [(0, .inl 81), (1, .inr (false, [(20, 20)]))], [], mgh20389),
  (2, [(0, .inl 81), (1, .inr (false, [(21, 21)]))], [], mgh20389),
  (2, [(0, .inl 81), (1, .inr (false, [(22, 22)]))], [], mgh20389),
  (2, [(0, .inl 81), (1, .inr (false, [(23, 23)]))], [], mgh20389),
  (2, [(0, .inl 81), (1, .inr (false, [(24, 24)]))], [], mgh20389)] = true := by decide +kernel
/-- MiceRegistersModel.farOf -/
def mgc6369 : ak_C := (137, [.inl 81, .inr (false, [(3776, 3776)]), .inr (false, [(0, 3)]), .inr (false, [(0, 7)])], mgh20389, [], [([], some (.inr (false, [(0, 7)])), [])])
theorem mgk6369 : ai_chk [] mgc6369 (fun pc => sm_ch sm_t137 pc, sm_Kn 3 5 none, fun x => sm_lk sm_ca3 x, some .int) [] 5 0 [] [] 2000 [] = true := by decide +kernel
/-- MiceRegistersModel.likesIn -/
def mgc6370 : ak_C := (136, [.inl 81, .inr (false, [(3776, 3776)]), .inr (false, [(0, 3)]), .inr (false, [(0, 7)])], mgh20390, [], [([], some (.inr (false, ar_t32)), [])])
theorem mgk6370 : ai_chk [mgc6369, mgc6333] mgc6370 (fun pc => sm_ch sm_t136 pc, sm_Kn 3 4 none, fun x => sm_lk sm_ca3 x, some .int) [] 4 0 [] [] 2000 [] = true := by decide +kernel
/-- MiceRegistersModel.wants -/
def mgc6371 : ak_C := (134, [.inl 81, .inr (false, [(3776, 3776)]), .inr (false, [(0, 3)])], mgh20390, [], [([], some (.inr (false, [(-9, -9)])), []), ([], some (.inr (false, [(-9, -9), (0, 7)])), [])])
def mgx20452 : aw_A := ms_r [(0, [(-1, 40)]), (3780, ar_t32), (3781, ar_t32)]
def mgx20454 : aw_A := ms_r [(0, [(-1, 40)]), (3780, ar_t32), (3781, ar_t32), (3782, ar_t32)]
def mgx20456 : aw_A := ms_r [(0, [(-1, 40)]), (3780, ar_t32), (3781, ar_t32), (3782, ar_t32), (3783, ar_t32)]
def mgx20458 : aw_A := ms_r [(0, [(-1, 40)]), (3780, ar_t32), (3781, ar_t32), (3782, ar_t32), (3783, ar_t32), (3784, ar_t32)]
def mgx20460 : aw_A := ms_r [(0, [(-1, 40)]), (3780, ar_t32), (3781, ar_t32), (3782, ar_t32), (3783, ar_t32), (3784, ar_t32), (3785, ar_t32)]
def mgx20462 : aw_A := ms_r [(0, [(-1, 40)]), (3780, ar_t32), (3781, ar_t32), (3782, ar_t32), (3783, ar_t32), (3784, ar_t32), (3785, ar_t32), (3786, ar_t32)]
def mgx20464 : aw_A := ms_r [(0, [(-1, 40)]), (3780, ar_t32), (3781, ar_t32), (3782, ar_t32), (3783, ar_t32), (3784, ar_t32), (3785, ar_t32), (3786, ar_t32), (3787, ar_t32)]
def mgb6371 : sm_P := (fun pc => sm_ch sm_t134 pc, sm_Kn 3 9 none, fun x => sm_lk sm_ca3 x, some .int)
def czmg6371x0 : aw_A := ms_o [(0, 8)] [(0, 4)] ar_t32 ar_t32 [(0, 180)] [(0, 60)] [(-1, 60)] [(0, 8)] [(0, 4)]
def czmg6371h1 : aw_H := [(81, czmg6371x0), (82, ms_r [(0, [(-1, 40)])]), (83, .inr (.inl (0, 8, [], []))), (85, .inr (.inl (0, 4, [], [])))]
set_option maxRecDepth 100000 in
theorem mgk6371 : ai_ch2 [mgc6331, mgc6370, mgc6369] mgc6371 mgb6371 [] 9 0 [9] [] 2000 [.inr (5, false, [((9, [(0, .inl 81), (1, .inr (false, [(3776, 3776)])), (2, .inr (false, [(0, 3)])), (3, .inr (false, [(-9, -9), (0, 7)])), (4, .inr (false, [(0, 2147483647)])), (5, .inr (false, [(0, 8)]))], [], czmg6371h1), none)])] = true := by decide +kernel
/-- MiceRegistersModel.passes -/
def mgc6372 : ak_C := (150, [.inl 81, .inr (false, [(3776, 3776)]), .inr (false, ar_t32)], mgh20424, [82], [([], some (.inr (false, ar_t32)), mgh20427)])
def czmg6372x0 : aw_A := ms_o [(0, 8)] [(0, 4)] ar_t32 ar_t32 [(0, 180)] [(0, 60)] [(-1, 60)] [(0, 8)] [(0, 4)]
def czmg6372h1 : aw_H := [(81, czmg6372x0), (82, ms_r [(0, [(-1, 40)])]), (83, .inr (.inl (0, 8, [], []))), (85, .inr (.inl (0, 4, [], []))), (86, .inr (.inl (0, 4, [], [])))]
set_option maxRecDepth 100000 in
theorem mgk6372 : ai_ch2 [mgc6331, mgc6371, mgc6342] mgc6372 (fun pc => sm_ch sm_t150 pc, sm_Kn 3 7 none, fun x => sm_lk sm_ca3 x, some .int) [82] 7 0 [5, 130] [] 2000 [.inr (4, false, [((5, [(0, .inl 81), (1, .inr (false, [(3776, 3776)])), (2, .inr (false, ar_t32)), (3, .inr (false, ar_t32)), (4, .inr (false, [(0, 4)]))], [], czmg6372h1), none)]),
  .inr (4, false, [((130, [(0, .inl 81), (1, .inr (false, [(3776, 3776)])), (2, .inr (false, ar_t32)), (3, .inr (false, ar_t32)), (4, .inr (false, [(0, 8)]))], [], czmg6372h1), none)])] = true := by decide +kernel
/-- MiceRegistersModel.passTried -/
def mgc6373 : ak_C := (161, [.inl 81, .inr (false, [(0, 40)])], mgh20424, [82], [([], none, mgh20427)])
def czmg6373x0 : aw_A := ms_o [(0, 8)] [(0, 4)] ar_t32 ar_t32 [(0, 180)] [(0, 60)] [(-1, 60)] [(0, 8)] [(0, 4)]
def czmg6373h1 : aw_H := [(81, czmg6373x0), (82, ms_r [(0, [(-1, 40)])]), (83, .inr (.inl (0, 8, [], []))), (85, .inr (.inl (0, 4, [], []))), (86, .inr (.inl (0, 4, [], [])))]
set_option maxRecDepth 100000 in
theorem mgk6373 : ai_ch2 [mgc6372] mgc6373 (fun pc => sm_ch sm_t161 pc, sm_Kn 3 3 none, fun x => sm_lk sm_ca3 x, none) [82] 3 0 [2] [] 2000 [.inr (2, false, [((2, [(0, .inl 81), (1, .inr (false, [(0, 40)])), (2, .inr (false, [(0, 40)]))], [], czmg6373h1), none)])] = true := by decide +kernel
/-- MiceRegistersModel.left -/
def mgc6374 : ak_C := (159, [.inl 81, .inr (false, ar_t32), .inr (false, ar_t32)], mgh20424, [82], [([[], [], []], some (.inr (false, [(-1, -1)])), mgh20427), ([[], [(0, 7)], [(0, 40)]], some (.inr (false, ar_t32)), mgh20427)])
theorem mgk6374 : ai_chk [mgc6330, mgc6367, mgc6368, mgc6373] mgc6374 (fun pc => sm_ch sm_t159 pc, sm_Kn 3 3 none, fun x => sm_lk sm_ca3 x, some .int) [82] 3 3 [] [] 2000 [] = true := by decide +kernel
/-- MiceRegistersModel.eatenAt -/
def mgc6375 : ak_C := (163, [.inl 81, .inr (false, [(3776, 3776)])], mgh20389, [], [([], some (.inr (false, [(0, 0)])), []), ([], some (.inr (false, ar_t32)), [])])
def mgh20481 : aw_H := [(81, mgx20391), (82, ms_r [(0, [(-1, 40)]), (3780, ar_t32)])]
def mgh20482 : aw_H := [(81, mgx20393), (82, mgx20452)]
def mgh20483 : aw_H := [(81, mgx20396), (82, mgx20454)]
def mgh20484 : aw_H := [(81, mgx20399), (82, mgx20456)]
def mgh20485 : aw_H := [(81, mgx20402), (82, mgx20458)]
def mgh20486 : aw_H := [(81, mgx20405), (82, mgx20460)]
def mgh20487 : aw_H := [(81, mgx20408), (82, mgx20462)]
def mgh20488 : aw_H := [(81, mgx20411), (82, mgx20464)]
theorem mgk6375 : ai_chk [] mgc6375 (fun pc => sm_ch sm_t163 pc, sm_Kn 3 4 none, fun x => sm_lk sm_ca3 x, some .int) [] 4 0 [4] [] 2000 [(4, [(0, .inl 81), (1, .inr (false, [(3776, 3776)])), (2, .inr (false, [(0, 0)])), (3, .inr (false, [(0, 0)]))], [], mgh20389),
  (4, [(0, .inl 81), (1, .inr (false, [(3776, 3776)])), (2, .inr (false, [(0, 1)])), (3, .inr (false, [(1, 1)]))], [], mgh20481),
  (4, [(0, .inl 81), (1, .inr (false, [(3776, 3776)])), (2, .inr (false, ar_t32)), (3, .inr (false, [(2, 2)]))], [], mgh20482),
  (4, [(0, .inl 81), (1, .inr (false, [(3776, 3776)])), (2, .inr (false, ar_t32)), (3, .inr (false, [(3, 3)]))], [], mgh20483),
  (4, [(0, .inl 81), (1, .inr (false, [(3776, 3776)])), (2, .inr (false, ar_t32)), (3, .inr (false, [(4, 4)]))], [], mgh20484),
  (4, [(0, .inl 81), (1, .inr (false, [(3776, 3776)])), (2, .inr (false, ar_t32)), (3, .inr (false, [(5, 5)]))], [], mgh20485),
  (4, [(0, .inl 81), (1, .inr (false, [(3776, 3776)])), (2, .inr (false, ar_t32)), (3, .inr (false, [(6, 6)]))], [], mgh20486),
  (4, [(0, .inl 81), (1, .inr (false, [(3776, 3776)])), (2, .inr (false, ar_t32)), (3, .inr (false, [(7, 7)]))], [], mgh20487),
  (4, [(0, .inl 81), (1, .inr (false, [(3776, 3776)])), (2, .inr (false, ar_t32)), (3, .inr (false, [(8, 8)]))], [], mgh20488)] = true := by decide +kernel
/-- MiceRegistersModel.eaten -/
def mgc6376 : ak_C := (162, [.inl 81, .inr (false, ar_t32)], mgh20424, [82], [([[], [(-2147483648, -1), (41, 2147483647)]], some (.inr (false, [(-1, -1)])), mgh20427), ([[], [(0, 40)]], some (.inr (false, [(-4, -4)])), mgh20427), ([[], [(0, 40)]], some (.inr (false, ar_t32)), mgh20427), ([[], [(0, 40)]], some (.inr (false, [(0, 0)])), mgh20427)])
theorem mgk6376 : ai_chk [mgc6367, mgc6368, mgc6373, mgc6375] mgc6376 (fun pc => sm_ch sm_t162 pc, sm_Kn 3 2 none, fun x => sm_lk sm_ca3 x, some .int) [82] 2 2 [] [] 2000 [] = true := by decide +kernel
/-- MiceRegistersModel.when -/
def czmg6377x0 : aw_A := ms_o [(0, 8)] [(0, 4)] ar_t32 ar_t32 [(0, 180)] [(0, 60)] [(-1, 60)] [(0, 8)] [(0, 4)]
def czmg6377h1 : aw_H := [(81, czmg6377x0), (82, ms_r [(0, [(-1, 40)])]), (83, .inr (.inl (0, 8, [], []))), (85, .inr (.inl (0, 4, [], []))), (86, .inr (.inl (0, 4, [], [])))]
def czmg6377h2 : aw_H := [(82, ms_r [(0, [(-1, 40)])])]
def mgc6377 : ak_C := (164, [.inl 81, .inr (false, ar_t32)], mgh20424, [82], [([[], []], some (.inr (false, [(-1, -1)])), czmg6377h2), ([[], []], some (.inr (false, [(0, 40)])), czmg6377h2), ([[], []], some (.inr (false, [(-9, -9)])), czmg6377h2)])
set_option maxRecDepth 100000 in
theorem mgk6377 : ai_ch2 [mgc6330, mgc6368, mgc6373] mgc6377 (fun pc => sm_ch sm_t164 pc, sm_Kn 3 3 none, fun x => sm_lk sm_ca3 x, some .int) [82] 3 2 [16] [] 2000 [.inr (2, false, [((16, [(0, .inl 81), (1, .inr (false, [(0, 7)])), (2, .inr (false, [(0, 41)]))], [], czmg6377h1), none)])] = true := by decide +kernel
/-- MiceRegistersModel.in -/
def mgc6378 : ak_C := (105, [.inr (true, ar_t32), .inr (true, [(1, 1)]), .inr (true, [(20, 20)])], [], [], [([[(1, 20)], [], []], some (.inr (false, [(1, 1)])), []), ([[(-2147483648, 0), (21, 2147483647)], [], []], some (.inr (false, [(0, 0)])), [])])
theorem mgk6378 : ai_chk [] mgc6378 (fun pc => sm_ch sm_t105 pc, sm_Kn 3 6 none, fun x => sm_lk sm_ca3 x, some .boolean) [] 6 6 [] [] 2000 [] = true := by decide +kernel
/-- MiceRegistersModel.isSaved -/
def mgc6379 : ak_C := (166, [.inl 81, .inr (false, [(0, 7)]), .inr (false, [(0, 20)]), .inr (false, [(0, 7)]), .inr (false, [(0, 20)])], mgh20424, [82], [([], some (.inr (false, [(1, 1)])), mgh20427), ([], some (.inr (false, [(0, 0)])), mgh20427)])
theorem mgk6379 : ai_chk [mgc6368, mgc6373] mgc6379 (fun pc => sm_ch sm_t166 pc, sm_Kn 3 5 none, fun x => sm_lk sm_ca3 x, some .boolean) [82] 5 0 [] [] 2000 [] = true := by decide +kernel
def mgx20489 : aw_A := ms_o [(0, 8)] [(0, 4)] [(-9, -9)] ar_t32 [(0, 180)] [(0, 60)] [(-1, 60)] [(0, 8)] [(0, 4)]
def mgh20490 : aw_H := [(81, mgx20489), (82, ms_r [(0, [(-1, 40)])])]
def mgx20491 : aw_A := ms_o [(1, 8)] [(0, 4)] [(0, 7)] ar_t32 [(0, 180)] [(0, 60)] [(-1, 60)] [(0, 8)] [(0, 4)]
def mgh20492 : aw_H := [(81, mgx20491), (82, ms_r [(0, [(-1, 40)])])]
/-- MiceRegistersModel.save -/
def mgc6380 : ak_C := (165, [.inl 81, .inr (false, ar_t32), .inr (false, ar_t32)], mgh20424, [81, 82], [([[], [], []], some (.inr (false, [(-1, -1)])), mgh20389), ([[], [(0, 7)], [(1, 20)]], some (.inr (false, [(0, 0)])), mgh20490), ([[], [(0, 7)], [(1, 20)]], some (.inr (false, [(1, 20)])), mgh20492), ([[], [(0, 7)], [(1, 20)]], some (.inr (false, [(-9, -9)])), mgh20389)])
def mgx20515 : aw_A := ms_o [(0, 0)] [(0, 4)] ar_t32 ar_t32 [(0, 180)] [(0, 60)] [(-1, 60)] [(0, 8)] [(0, 4)]
def mgb6380 : sm_P := (fun pc => sm_ch sm_t165 pc, sm_Kn 3 5 none, fun x => sm_lk sm_ca3 x, some .int)
def czmg6380x0 : aw_A := ms_o [(0, 8)] [(0, 4)] ar_t32 ar_t32 [(0, 180)] [(0, 60)] [(-1, 60)] [(0, 8)] [(0, 4)]
def czmg6380h1 : aw_H := [(81, czmg6380x0), (82, ms_r [(0, [(-1, 40)])]), (83, .inr (.inl (0, 8, [], []))), (85, .inr (.inl (0, 4, [], []))), (86, .inr (.inl (0, 4, [], [])))]
set_option maxRecDepth 100000 in
theorem mgk6380 : ai_ch2 [mgc6330, mgc6378, mgc6379] mgc6380 mgb6380 [81, 82] 5 3 [43, 52] [] 2000 [.inr (3, false, [((43, [(0, .inl 81), (1, .inr (false, [(0, 7)])), (2, .inr (false, [(1, 20)])), (3, .inr (false, [(1, 21)]))], [], czmg6380h1), none), ((52, [(0, .inl 81), (1, .inr (false, [(0, 7)])), (2, .inr (false, [(1, 20)])), (3, .inr (false, [(1, 20)])), (4, .inr (false, [(0, 8)]))], [], czmg6380h1), some 4)])] = true := by decide +kernel
/-! Contracts over ranges of the reference, and their checks; printed by a program of mine. -/
/-- MiceRegistersModel.leftIn -/
def mgc6381 : ak_C := (168, [.inl 81, .inr (false, [(3776, 3776)])], mgh20389, [], [([], some (.inr (false, [(0, 0)])), []), ([], some (.inr (false, ar_t32)), [])])
def mgh20517 : aw_H := [(81, mgx20391), (82, ms_r [(0, [(-1, 40)])])]
def mgh20518 : aw_H := [(81, mgx20393), (82, ms_r [(0, [(-1, 40)])])]
def mgh20519 : aw_H := [(81, mgx20396), (82, ms_r [(0, [(-1, 40)])])]
def mgh20520 : aw_H := [(81, mgx20399), (82, ms_r [(0, [(-1, 40)])])]
def mgh20521 : aw_H := [(81, mgx20402), (82, ms_r [(0, [(-1, 40)])])]
def mgh20522 : aw_H := [(81, mgx20405), (82, ms_r [(0, [(-1, 40)])])]
def mgh20523 : aw_H := [(81, mgx20408), (82, ms_r [(0, [(-1, 40)])])]
def mgh20524 : aw_H := [(81, mgx20411), (82, ms_r [(0, [(-1, 40)])])]
theorem mgk6381 : ai_chk [] mgc6381 (fun pc => sm_ch sm_t168 pc, sm_Kn 3 4 none, fun x => sm_lk sm_ca3 x, some .int) [] 4 0 [4] [] 2000 [(4, [(0, .inl 81), (1, .inr (false, [(3776, 3776)])), (2, .inr (false, [(0, 0)])), (3, .inr (false, [(0, 0)]))], [], mgh20389),
  (4, [(0, .inl 81), (1, .inr (false, [(3776, 3776)])), (2, .inr (false, ar_t32)), (3, .inr (false, [(1, 1)]))], [], mgh20517),
  (4, [(0, .inl 81), (1, .inr (false, [(3776, 3776)])), (2, .inr (false, ar_t32)), (3, .inr (false, [(2, 2)]))], [], mgh20518),
  (4, [(0, .inl 81), (1, .inr (false, [(3776, 3776)])), (2, .inr (false, ar_t32)), (3, .inr (false, [(3, 3)]))], [], mgh20519),
  (4, [(0, .inl 81), (1, .inr (false, [(3776, 3776)])), (2, .inr (false, ar_t32)), (3, .inr (false, [(4, 4)]))], [], mgh20520),
  (4, [(0, .inl 81), (1, .inr (false, [(3776, 3776)])), (2, .inr (false, ar_t32)), (3, .inr (false, [(5, 5)]))], [], mgh20521),
  (4, [(0, .inl 81), (1, .inr (false, [(3776, 3776)])), (2, .inr (false, ar_t32)), (3, .inr (false, [(6, 6)]))], [], mgh20522),
  (4, [(0, .inl 81), (1, .inr (false, [(3776, 3776)])), (2, .inr (false, ar_t32)), (3, .inr (false, [(7, 7)]))], [], mgh20523),
  (4, [(0, .inl 81), (1, .inr (false, [(3776, 3776)])), (2, .inr (false, ar_t32)), (3, .inr (false, [(8, 8)]))], [], mgh20524)] = true := by decide +kernel
/-- MiceRegistersModel.guard -/
def czmg6382x0 : aw_A := ms_o [(0, 8)] [(1, 4)] ar_t32 ar_t32 [(0, 180)] [(0, 60)] [(-1, 60)] [(0, 8)] [(0, 4)]
def czmg6382h1 : aw_H := [(81, czmg6382x0), (82, ms_r [(0, [(-1, 40)])]), (83, .inr (.inl (0, 8, [], []))), (85, .inr (.inl (0, 4, [], []))), (86, .inr (.inl (0, 4, [], [])))]
def czmg6382x2 : aw_A := ms_o [(0, 8)] [(0, 4)] ar_t32 ar_t32 [(0, 180)] [(0, 60)] [(-1, 60)] [(0, 8)] [(0, 4)]
def czmg6382h3 : aw_H := [(81, czmg6382x2), (82, ms_r [(0, [(-1, 40)])])]
def czmg6382x4 : aw_A := ms_o [(0, 8)] [(0, 0)] ar_t32 ar_t32 [(0, 180)] [(0, 60)] [(-1, 60)] [(0, 8)] [(0, 4)]
def czmg6382h5 : aw_H := [(81, czmg6382x4), (82, ms_r [(0, [(-1, 40)])])]
def czmg6382h6 : aw_H := [(81, czmg6382x0), (82, ms_r [(0, [(-1, 40)])])]
def mgc6382 : ak_C := (167, [.inl 81, .inr (false, ar_t32)], mgh20424, [81, 82], [([[], []], some (.inr (false, [(-1, -1)])), czmg6382h3), ([[], []], some (.inr (false, [(-4, -4)])), czmg6382h5), ([[], []], some (.inr (false, [(-9, -9), (0, 7)])), czmg6382h6)])
set_option maxRecDepth 100000 in
theorem mgk6382 : ai_ch2 [mgc6378, mgc6368, mgc6373, mgc6381] mgc6382 (fun pc => sm_ch sm_t167 pc, sm_Kn 3 5 none, fun x => sm_lk sm_ca3 x, some .int) [81, 82] 5 2 [32] [] 2000 [.inr (4, false, [((32, [(0, .inl 81), (1, .inr (false, [(1, 20)])), (2, .inr (false, [(-9, -9), (0, 7)])), (3, .inr (false, ar_t32)), (4, .inr (false, [(0, 8)]))], [], czmg6382h1), none)])] = true := by decide +kernel
/-- MiceRegistersModel.in -/
def mgc6383 : ak_C := (105, [.inr (true, ar_t32), .inr (true, [(1, 1)]), .inr (true, [(10, 10)])], [], [], [([[(1, 10)], [], []], some (.inr (false, [(1, 1)])), []), ([[(-2147483648, 0), (11, 2147483647)], [], []], some (.inr (false, [(0, 0)])), [])])
theorem mgk6383 : ai_chk [] mgc6383 (fun pc => sm_ch sm_t105 pc, sm_Kn 3 6 none, fun x => sm_lk sm_ca3 x, some .boolean) [] 6 6 [] [] 2000 [] = true := by decide +kernel
/-- MiceRegistersModel.noRow -/
def mgc6384 : ak_C := (170, [.inl 81, .inr (false, [(0, 5)])], mgh7, [81, 91], [([], some (.inr (false, [(-3, -3)])), mgh1), ([], some (.inr (false, [(0, 0)])), mgh3)])
def czmg6384x0 : aw_A := ms_o [(0, 8)] [(0, 4)] ar_t32 ar_t32 [(0, 180)] [(0, 60)] [(-1, 60)] [(0, 8)] [(0, 4)]
def czmg6384x1 : aw_A := .inr (.inl (0, 6, [(0, 5, [(-1, 40)])], []))
def czmg6384h2 : aw_H := [(81, czmg6384x0), (87, czmg6384x1), (88, .inr (.inl (0, 240, [], []))), (91, .inr (.inl (0, 6, [], [])))]
set_option maxRecDepth 100000 in
theorem mgk6384 : ai_ch2 [mgc4, mgc6383, mgc6330] mgc6384 (fun pc => sm_ch sm_t170 pc, sm_Kn 3 4 none, fun x => sm_lk sm_ca3 x, some .int) [81, 91] 4 0 [42] [] 2000 [.inr (3, false, [((42, [(0, .inl 81), (1, .inr (false, [(0, 5)])), (2, .inr (false, [(0, 1)])), (3, .inr (false, [(0, 40)]))], [], czmg6384h2), none)])] = true := by decide +kernel
/-- MiceRegistersModel.isSo -/
def mgh20546 : aw_H := [(81, mgx2), (82, ms_r [(0, [(-1, 40)])]), (83, .inr (.inl (0, 8, [], []))), (85, .inr (.inl (0, 4, [], []))), (86, .inr (.inl (0, 4, [], []))), (87, mgx4), (88, .inr (.inl (0, 240, [], [])))]
def mgc6385 : ak_C := (171, [.inl 81, .inr (false, [(0, 3)]), .inr (false, [(0, 5)])], mgh20546, [82], [([], some (.inr (false, [(1, 1)])), mgh20427), ([], some (.inr (false, [(0, 1)])), mgh20427)])
def czmg6385x0 : aw_A := ms_o [(0, 8)] [(0, 4)] ar_t32 ar_t32 [(0, 180)] [(0, 60)] [(-1, 60)] [(0, 8)] [(0, 4)]
def czmg6385x1 : aw_A := .inr (.inl (0, 6, [(0, 5, [(-1, 40)])], []))
def czmg6385h2 : aw_H := [(81, czmg6385x0), (82, ms_r [(0, [(-1, 40)])]), (83, .inr (.inl (0, 8, [], []))), (85, .inr (.inl (0, 4, [], []))), (86, .inr (.inl (0, 4, [], []))), (87, czmg6385x1), (88, .inr (.inl (0, 240, [], [])))]
set_option maxRecDepth 100000 in
theorem mgk6385 : ai_ch2 [mgc6373] mgc6385 (fun pc => sm_ch sm_t171 pc, sm_Kn 3 5 none, fun x => sm_lk sm_ca3 x, some .boolean) [82] 5 0 [5] [] 2000 [.inr (4, false, [((5, [(0, .inl 81), (1, .inr (false, [(0, 3)])), (2, .inr (false, [(0, 5)])), (3, .inr (false, [(0, 1)])), (4, .inr (false, [(0, 40)]))], [], czmg6385h2), none)])] = true := by decide +kernel
def mgh20547 : aw_H := [(81, mgx20515), (82, ms_r [(0, [(-1, 40)])]), (91, .inr (.inl (0, 6, [], [])))]
def mgh20548 : aw_H := [(81, mgx20391), (82, ms_r [(0, [(-1, 40)])]), (91, .inr (.inl (0, 6, [], [])))]
/-- MiceRegistersModel.places -/
def mgh20549 : aw_H := [(81, mgx2), (82, ms_r [(0, [(-1, 40)])]), (83, .inr (.inl (0, 8, [], []))), (85, .inr (.inl (0, 4, [], []))), (86, .inr (.inl (0, 4, [], []))), (87, mgx4), (88, .inr (.inl (0, 240, [], []))), (91, .inr (.inl (0, 6, [], [])))]
def mgc6386 : ak_C := (169, [.inl 81, .inr (false, ar_t32), .inr (false, ar_t32)], mgh20549, [81, 82, 91], [([[], [(0, 3)], [(0, 5)]], some (.inr (false, [(-3, -3)])), mgh20449), ([[], [], []], some (.inr (false, [(-1, -1)])), mgh20448), ([[], [(0, 3)], [(0, 5)]], some (.inr (false, [(0, 0)])), mgh20547), ([[], [(0, 3)], [(0, 5)]], some (.inr (false, ar_t32)), mgh20548)])
def mgh20550 : aw_H := [(81, mgx20391), (82, ms_r [(0, [(-1, 40)])]), (83, .inr (.inl (0, 8, [], []))), (85, .inr (.inl (0, 4, [], []))), (86, .inr (.inl (0, 4, [], []))), (87, mgx4), (88, .inr (.inl (0, 240, [], []))), (91, .inr (.inl (0, 6, [], [])))]
def mgh20551 : aw_H := [(81, mgx20393), (82, ms_r [(0, [(-1, 40)])]), (83, .inr (.inl (0, 8, [], []))), (85, .inr (.inl (0, 4, [], []))), (86, .inr (.inl (0, 4, [], []))), (87, mgx4), (88, .inr (.inl (0, 240, [], []))), (91, .inr (.inl (0, 6, [], [])))]
def mgh20552 : aw_H := [(81, mgx20396), (82, ms_r [(0, [(-1, 40)])]), (83, .inr (.inl (0, 8, [], []))), (85, .inr (.inl (0, 4, [], []))), (86, .inr (.inl (0, 4, [], []))), (87, mgx4), (88, .inr (.inl (0, 240, [], []))), (91, .inr (.inl (0, 6, [], [])))]
def mgh20553 : aw_H := [(81, mgx20399), (82, ms_r [(0, [(-1, 40)])]), (83, .inr (.inl (0, 8, [], []))), (85, .inr (.inl (0, 4, [], []))), (86, .inr (.inl (0, 4, [], []))), (87, mgx4), (88, .inr (.inl (0, 240, [], []))), (91, .inr (.inl (0, 6, [], [])))]
def mgh20554 : aw_H := [(81, mgx20402), (82, ms_r [(0, [(-1, 40)])]), (83, .inr (.inl (0, 8, [], []))), (85, .inr (.inl (0, 4, [], []))), (86, .inr (.inl (0, 4, [], []))), (87, mgx4), (88, .inr (.inl (0, 240, [], []))), (91, .inr (.inl (0, 6, [], [])))]
def mgh20555 : aw_H := [(81, mgx20405), (82, ms_r [(0, [(-1, 40)])]), (83, .inr (.inl (0, 8, [], []))), (85, .inr (.inl (0, 4, [], []))), (86, .inr (.inl (0, 4, [], []))), (87, mgx4), (88, .inr (.inl (0, 240, [], []))), (91, .inr (.inl (0, 6, [], [])))]
def mgh20556 : aw_H := [(81, mgx20408), (82, ms_r [(0, [(-1, 40)])]), (83, .inr (.inl (0, 8, [], []))), (85, .inr (.inl (0, 4, [], []))), (86, .inr (.inl (0, 4, [], []))), (87, mgx4), (88, .inr (.inl (0, 240, [], []))), (91, .inr (.inl (0, 6, [], [])))]
def mgh20557 : aw_H := [(81, mgx20411), (82, ms_r [(0, [(-1, 40)])]), (83, .inr (.inl (0, 8, [], []))), (85, .inr (.inl (0, 4, [], []))), (86, .inr (.inl (0, 4, [], []))), (87, mgx4), (88, .inr (.inl (0, 240, [], []))), (91, .inr (.inl (0, 6, [], [])))]
theorem mgk6386 : ai_chk [mgc6340, mgc3, mgc6384, mgc6368, mgc6385] mgc6386 (fun pc => sm_ch sm_t169 pc, sm_Kn 3 6 none, fun x => sm_lk sm_ca3 x, some .int) [81, 82, 91] 6 3 [35] [] 2000 [(35, [(0, .inl 81), (1, .inr (false, [(0, 3)])), (2, .inr (false, [(0, 5)])), (3, .inr (false, [(0, 0)])), (4, .inr (false, [(0, 0)])), (5, .inr (false, [(0, 0)]))], [], mgh20549),
  (35, [(0, .inl 81), (1, .inr (false, [(0, 3)])), (2, .inr (false, [(0, 5)])), (3, .inr (false, [(0, 0)])), (4, .inr (false, [(0, 1)])), (5, .inr (false, [(1, 1)]))], [], mgh20550),
  (35, [(0, .inl 81), (1, .inr (false, [(0, 3)])), (2, .inr (false, [(0, 5)])), (3, .inr (false, [(0, 0)])), (4, .inr (false, ar_t32)), (5, .inr (false, [(2, 2)]))], [], mgh20551),
  (35, [(0, .inl 81), (1, .inr (false, [(0, 3)])), (2, .inr (false, [(0, 5)])), (3, .inr (false, [(0, 0)])), (4, .inr (false, ar_t32)), (5, .inr (false, [(3, 3)]))], [], mgh20552),
  (35, [(0, .inl 81), (1, .inr (false, [(0, 3)])), (2, .inr (false, [(0, 5)])), (3, .inr (false, [(0, 0)])), (4, .inr (false, ar_t32)), (5, .inr (false, [(4, 4)]))], [], mgh20553),
  (35, [(0, .inl 81), (1, .inr (false, [(0, 3)])), (2, .inr (false, [(0, 5)])), (3, .inr (false, [(0, 0)])), (4, .inr (false, ar_t32)), (5, .inr (false, [(5, 5)]))], [], mgh20554),
  (35, [(0, .inl 81), (1, .inr (false, [(0, 3)])), (2, .inr (false, [(0, 5)])), (3, .inr (false, [(0, 0)])), (4, .inr (false, ar_t32)), (5, .inr (false, [(6, 6)]))], [], mgh20555),
  (35, [(0, .inl 81), (1, .inr (false, [(0, 3)])), (2, .inr (false, [(0, 5)])), (3, .inr (false, [(0, 0)])), (4, .inr (false, ar_t32)), (5, .inr (false, [(7, 7)]))], [], mgh20556),
  (35, [(0, .inl 81), (1, .inr (false, [(0, 3)])), (2, .inr (false, [(0, 5)])), (3, .inr (false, [(0, 0)])), (4, .inr (false, ar_t32)), (5, .inr (false, [(8, 8)]))], [], mgh20557)] = true := by decide +kernel
def mgh20558 : aw_H := [(82, ms_r [(0, [(-1, 40)])]), (85, .inr (.inl (0, 4, [], [])))]
/-- MiceRegistersModel.kindsBy -/
def mgc6387 : ak_C := (173, [.inl 81, .inr (false, [(0, 3)]), .inr (false, [(0, 5)])], mgh20546, [82, 85], [([], some (.inr (false, ar_t32)), mgh20558)])
theorem mgk6387 : ai_chk [mgc6368, mgc6385] mgc6387 (fun pc => sm_ch sm_t173 pc, sm_Kn 3 6 none, fun x => sm_lk sm_ca3 x, some .int) [82, 85] 6 0 [13] [] 2000 [(13, [(0, .inl 81), (1, .inr (false, [(0, 3)])), (2, .inr (false, [(0, 5)])), (3, .inr (false, ar_t32)), (4, .inr (false, [(0, 0)])), (5, .inr (false, [(0, 0)]))], [], mgh20546),
  (13, [(0, .inl 81), (1, .inr (false, [(0, 3)])), (2, .inr (false, [(0, 5)])), (3, .inr (false, ar_t32)), (4, .inr (false, [(0, 1)])), (5, .inr (false, [(1, 1)]))], [], mgh20546),
  (13, [(0, .inl 81), (1, .inr (false, [(0, 3)])), (2, .inr (false, [(0, 5)])), (3, .inr (false, ar_t32)), (4, .inr (false, ar_t32)), (5, .inr (false, [(2, 2)]))], [], mgh20546),
  (13, [(0, .inl 81), (1, .inr (false, [(0, 3)])), (2, .inr (false, [(0, 5)])), (3, .inr (false, ar_t32)), (4, .inr (false, ar_t32)), (5, .inr (false, [(3, 3)]))], [], mgh20546),
  (13, [(0, .inl 81), (1, .inr (false, [(0, 3)])), (2, .inr (false, [(0, 5)])), (3, .inr (false, ar_t32)), (4, .inr (false, ar_t32)), (5, .inr (false, [(4, 4)]))], [], mgh20546),
  (13, [(0, .inl 81), (1, .inr (false, [(0, 3)])), (2, .inr (false, [(0, 5)])), (3, .inr (false, ar_t32)), (4, .inr (false, ar_t32)), (5, .inr (false, [(5, 5)]))], [], mgh20546),
  (13, [(0, .inl 81), (1, .inr (false, [(0, 3)])), (2, .inr (false, [(0, 5)])), (3, .inr (false, ar_t32)), (4, .inr (false, ar_t32)), (5, .inr (false, [(6, 6)]))], [], mgh20546)] = true := by decide +kernel
def mgh20559 : aw_H := [(81, mgx2), (82, ms_r [(0, [(-1, 40)])]), (85, .inr (.inl (0, 4, [], []))), (91, .inr (.inl (0, 6, [], [])))]
def mgh20560 : aw_H := [(81, mgx0), (82, ms_r [(0, [(-1, 40)])]), (85, .inr (.inl (0, 4, [], []))), (91, .inr (.inl (0, 6, [], [])))]
/-- MiceRegistersModel.kinds -/
def mgc6388 : ak_C := (172, [.inl 81, .inr (false, ar_t32), .inr (false, ar_t32)], mgh20549, [81, 82, 85, 91], [([[], [(0, 3)], [(0, 5)]], some (.inr (false, ar_t32)), mgh20559), ([[], [(0, 3)], [(0, 5)]], some (.inr (false, [(-3, -3)])), mgh20560), ([[], [], []], some (.inr (false, [(-1, -1)])), mgh20559)])
theorem mgk6388 : ai_chk [mgc6340, mgc3, mgc6384, mgc6387] mgc6388 (fun pc => sm_ch sm_t172 pc, sm_Kn 3 4 none, fun x => sm_lk sm_ca3 x, some .int) [81, 82, 85, 91] 4 3 [] [] 2000 [] = true := by decide +kernel
def mgh20561 : aw_H := [(82, ms_r [(0, [(-1, 40)])]), (85, .inr (.inl (0, 4, [], []))), (95, .inr (.inl (0, 168, [], [])))]
/-- MiceRegistersModel.layParts -/
def mgh20562 : aw_H := [(81, mgx2), (82, ms_r [(0, [(-1, 40)])]), (83, .inr (.inl (0, 8, [], []))), (85, .inr (.inl (0, 4, [], []))), (86, .inr (.inl (0, 4, [], []))), (95, .inr (.inl (0, 168, [], [])))]
def mgc6389 : ak_C := (175, [.inl 81, .inr (false, [(0, 3)]), .inr (false, ar_t32)], mgh20562, [82, 85, 95], [([], none, mgh20561)])
def mgb6389 : sm_P := (fun pc => sm_ch sm_t175 pc, sm_Kn 3 6 none, fun x => sm_lk sm_ca3 x, none)
def czmg6389x0 : aw_A := ms_o [(0, 8)] [(0, 4)] ar_t32 ar_t32 [(0, 180)] [(0, 60)] [(-1, 60)] [(0, 8)] [(0, 4)]
def czmg6389h1 : aw_H := [(81, czmg6389x0), (82, ms_r [(0, [(-1, 40)])]), (83, .inr (.inl (0, 8, [], []))), (85, .inr (.inl (0, 4, [], []))), (86, .inr (.inl (0, 4, [], []))), (95, .inr (.inl (0, 168, [], [])))]
set_option maxRecDepth 100000 in
theorem mgk6389 : ai_ch2 [mgc6331, mgc6368, mgc6373] mgc6389 mgb6389 [82, 85, 95] 6 0 [10, 35, 66] [] 2000 [.inr (4, false, [((10, [(0, .inl 81), (1, .inr (false, [(0, 3)])), (2, .inr (false, ar_t32)), (3, .inr (false, ar_t32)), (4, .inr (false, [(0, 168)]))], [], czmg6389h1), none)]),
  .inr (4, false, [((35, [(0, .inl 81), (1, .inr (false, [(0, 3)])), (2, .inr (false, ar_t32)), (3, .inr (false, ar_t32)), (4, .inr (false, [(0, 6)]))], [], czmg6389h1), none), ((66, [(0, .inl 81), (1, .inr (false, [(0, 3)])), (2, .inr (false, ar_t32)), (3, .inr (false, ar_t32)), (4, .inr (false, [(0, 5)])), (5, .inr (false, [(1, 21)]))], [], czmg6389h1), some 5)])] = true := by decide +kernel
/-! Contracts over ranges of the reference, and their checks; printed by a program of mine. -/
/-- MiceRegistersModel.look -/
def mgh20568 : aw_H := [(81, mgx2), (82, ms_r [(0, [(-1, 40)])]), (83, .inr (.inl (0, 8, [], []))), (85, .inr (.inl (0, 4, [], []))), (86, .inr (.inl (0, 4, [], []))), (87, mgx4), (88, .inr (.inl (0, 240, [], []))), (91, .inr (.inl (0, 6, [], []))), (95, .inr (.inl (0, 168, [], [])))]
def czmg6390x0 : aw_A := ms_o [(0, 8)] [(0, 4)] ar_t32 ar_t32 [(0, 180)] [(0, 60)] [(-1, 60)] [(0, 8)] [(0, 4)]
def czmg6390x1 : aw_A := .inr (.inl (0, 6, [(0, 5, [(-1, 40)])], []))
def czmg6390h2 : aw_H := [(81, czmg6390x0), (82, ms_r [(0, [(-1, 40)])]), (83, .inr (.inl (0, 8, [], []))), (85, .inr (.inl (0, 4, [], []))), (86, .inr (.inl (0, 4, [], []))), (87, czmg6390x1), (88, .inr (.inl (0, 240, [], []))), (91, .inr (.inl (0, 6, [], []))), (95, .inr (.inl (0, 168, [], [])))]
def czmg6390h3 : aw_H := [(81, czmg6390x0), (82, ms_r [(0, [(-1, 40)])]), (85, .inr (.inl (0, 4, [], []))), (91, .inr (.inl (0, 6, [], []))), (95, .inr (.inl (0, 168, [], [])))]
def czmg6390x4 : aw_A := ms_o [(0, 8)] [(0, 4)] ar_t32 [(1, 5)] [(0, 180)] [(0, 60)] [(-1, 60)] [(0, 8)] [(0, 4)]
def czmg6390h5 : aw_H := [(81, czmg6390x4), (82, ms_r [(0, [(-1, 40)])]), (85, .inr (.inl (0, 4, [], []))), (91, .inr (.inl (0, 6, [], []))), (95, .inr (.inl (0, 168, [], [])))]
def czmg6390x6 : aw_A := ms_o [(0, 8)] [(0, 4)] [(-2147483648, 99999)] ar_t32 [(0, 180)] [(0, 60)] [(-1, 60)] [(0, 8)] [(0, 4)]
def czmg6390h7 : aw_H := [(81, czmg6390x6), (82, ms_r [(0, [(-1, 40)])]), (85, .inr (.inl (0, 4, [], []))), (91, .inr (.inl (0, 6, [], []))), (95, .inr (.inl (0, 168, [], [])))]
def mgc6390 : ak_C := (174, [.inl 81, .inr (false, ar_t32), .inr (false, ar_t32)], mgh20568, [81, 82, 85, 91, 95], [([[], [], []], some (.inr (false, [(-9, -9)])), czmg6390h3), ([[], [], []], some (.inr (false, [(-3, -3)])), czmg6390h5), ([[], [], []], some (.inr (false, [(-1, -1)])), czmg6390h3), ([[], [], []], some (.inr (false, ar_t32)), czmg6390h7)])
def mgb6390 : sm_P := (fun pc => sm_ch sm_t174 pc, sm_Kn 3 10 none, fun x => sm_lk sm_ca3 x, some .int)
set_option maxRecDepth 100000 in
theorem mgk6390 : ai_ch2 [mgc6340, mgc3, mgc6384, mgc6387, mgc6389] mgc6390 mgb6390 [81, 82, 85, 91, 95] 10 3 [63, 76] [] 2000 [.inr (7, false, [((63, [(0, .inl 81), (1, .inr (false, [(0, 3)])), (2, .inr (false, [(0, 5)])), (3, .inr (false, [(0, 0)])), (4, .inr (false, ar_t32)), (5, .inr (false, ar_t32)), (6, .inr (false, [(-2147483648, 99999)])), (7, .inr (false, [(1, 21)]))], [], czmg6390h2), none), ((76, [(0, .inl 81), (1, .inr (false, [(0, 3)])), (2, .inr (false, [(0, 5)])), (3, .inr (false, [(0, 0)])), (4, .inr (false, ar_t32)), (5, .inr (false, ar_t32)), (6, .inr (false, [(-2147483648, 99999)])), (7, .inr (false, [(1, 20)])), (8, .inr (false, ar_t32)), (9, .inr (false, [(0, 8)]))], [], czmg6390h2), some 9)])] = true := by decide +kernel
/-- MiceRegistersModel.in -/
def mgc6391 : ak_C := (105, [.inr (true, ar_t32), .inr (true, [(0, 0)]), .inr (true, [(320, 320)])], [], [], [([[(0, 320)], [], []], some (.inr (false, [(1, 1)])), []), ([[(-2147483648, -1), (321, 2147483647)], [], []], some (.inr (false, [(0, 0)])), [])])
theorem mgk6391 : ai_chk [] mgc6391 (fun pc => sm_ch sm_t105 pc, sm_Kn 3 6 none, fun x => sm_lk sm_ca3 x, some .boolean) [] 6 6 [] [] 2000 [] = true := by decide +kernel
/-- MiceRegistersModel.noSets -/
def mgc6392 : ak_C := (177, [.inl 81, .inr (false, ar_t32)], mgh10, [], [([[], [(-2147483648, -1), (321, 2147483647)]], some (.inr (false, [(-1, -1)])), []), ([[], [(0, 320)]], some (.inr (false, [(-4, -4)])), []), ([[], [(0, 320)]], some (.inr (false, [(0, 0)])), [])])
theorem mgk6392 : ai_chk [mgc6391] mgc6392 (fun pc => sm_ch sm_t177 pc, sm_Kn 3 2 none, fun x => sm_lk sm_ca3 x, some .int) [] 2 2 [] [] 2000 [] = true := by decide +kernel
/-- MiceRegistersModel.leftOf -/
def mgc6393 : ak_C := (178, [.inl 81, .inr (false, ar_t32)], mgh20389, [], [([], some (.inr (false, [(0, 0)])), []), ([], some (.inr (false, ar_t32)), [])])
theorem mgk6393 : ai_chk [mgc6331] mgc6393 (fun pc => sm_ch sm_t178 pc, sm_Kn 3 4 none, fun x => sm_lk sm_ca3 x, some .int) [] 4 0 [4] [] 2000 [(4, [(0, .inl 81), (1, .inr (false, ar_t32)), (2, .inr (false, [(0, 0)])), (3, .inr (false, [(0, 0)]))], [], mgh20389),
  (4, [(0, .inl 81), (1, .inr (false, ar_t32)), (2, .inr (false, ar_t32)), (3, .inr (false, [(1, 1)]))], [], mgh20517),
  (4, [(0, .inl 81), (1, .inr (false, ar_t32)), (2, .inr (false, ar_t32)), (3, .inr (false, [(2, 2)]))], [], mgh20518),
  (4, [(0, .inl 81), (1, .inr (false, ar_t32)), (2, .inr (false, ar_t32)), (3, .inr (false, [(3, 3)]))], [], mgh20519),
  (4, [(0, .inl 81), (1, .inr (false, ar_t32)), (2, .inr (false, ar_t32)), (3, .inr (false, [(4, 4)]))], [], mgh20520),
  (4, [(0, .inl 81), (1, .inr (false, ar_t32)), (2, .inr (false, ar_t32)), (3, .inr (false, [(5, 5)]))], [], mgh20521),
  (4, [(0, .inl 81), (1, .inr (false, ar_t32)), (2, .inr (false, ar_t32)), (3, .inr (false, [(6, 6)]))], [], mgh20522),
  (4, [(0, .inl 81), (1, .inr (false, ar_t32)), (2, .inr (false, ar_t32)), (3, .inr (false, [(7, 7)]))], [], mgh20523),
  (4, [(0, .inl 81), (1, .inr (false, ar_t32)), (2, .inr (false, ar_t32)), (3, .inr (false, [(8, 8)]))], [], mgh20524)] = true := by decide +kernel
/-- MiceRegistersModel.sets -/
def czmg6394x0 : aw_A := ms_o [(0, 8)] [(0, 4)] [(-9, 255)] ar_t32 [(0, 180)] [(0, 60)] [(-1, 60)] [(0, 8)] [(0, 4)]
def czmg6394h1 : aw_H := [(81, czmg6394x0), (82, ms_r [(0, [(-1, 40)])])]
def czmg6394x2 : aw_A := ms_o [(0, 8)] [(0, 4)] ar_t32 ar_t32 [(0, 180)] [(0, 60)] [(-1, 60)] [(0, 8)] [(0, 4)]
def czmg6394h3 : aw_H := [(81, czmg6394x2)]
def czmg6394x4 : aw_A := .inl (3, [.inl 82, .inr (false, [(0, 8)]), .inl 83, .inl 84, .inr (false, [(0, 4)]), .inl 85, .inl 86, .inl 87, .inl 88, .inl 89, .inl 90, .inr (false, [(-9, 255)]), .inr (true, ar_t32), .inr (true, [(1, 1)]), .inr (false, ar_t32), .inl 91, .inr (false, [(0, 180)]), .inr (false, [(0, 60)]), .inr (false, [(-1, 60)]), .inr (false, [(0, 8)]), .inl 92, .inl 93, .inr (false, [(0, 4)]), .inl 94, .inl 95, .inl 96, .inl 97])
def czmg6394h5 : aw_H := [(81, czmg6394x4)]
def mgc6394 : ak_C := (176, [.inl 81, .inr (false, ar_t32)], mgh20389, [81], [([[], []], some (.inr (false, [(-4, -4)])), czmg6394h3), ([[], []], some (.inr (false, [(-1, -1)])), czmg6394h3), ([[], []], some (.inr (false, [(1, 1)])), czmg6394h5)])
def mgb6394 : sm_P := (fun pc => sm_ch sm_t176 pc, sm_Kn 3 6 none, fun x => sm_lk sm_ca3 x, some .int)
set_option maxRecDepth 100000 in
theorem mgk6394 : ai_ch2 [mgc6392, mgc6393] mgc6394 mgb6394 [81] 6 2 [30] [(14, some (1, 81, 1), 0, 9)] 2000 [.inr (4, true, [((30, [(0, .inl 81), (1, .inr (false, [(0, 320)])), (2, .inr (false, [(0, 0)])), (3, .inr (false, ar_t32)), (4, .inr (false, [(-1, 255)]))], [], czmg6394h1), none)])] = true := by decide +kernel
/-! Contracts over ranges of the reference, and their checks; printed by a program of mine. -/
def mgx21403 : aw_A := ms_o [(0, 8)] [(0, 4)] [(0, 255)] ar_t32 [(0, 180)] [(0, 60)] [(-1, 60)] [(0, 8)] [(0, 4)]
def mgh21404 : aw_H := [(81, mgx21403), (91, .inr (.inl (0, 6, [], [])))]
/-- MiceRegistersModel.sure -/
def mgc6395 : ak_C := (179, [.inl 81, .inr (false, ar_t32)], mgh20448, [81, 91], [([[], [(0, 320)]], some (.inr (false, [(-4, -4)])), mgh3), ([[], [(-2147483648, -1), (321, 2147483647)]], some (.inr (false, [(-1, -1)])), mgh3), ([[], [(0, 320)]], some (.inr (false, [(-3, -3)])), mgh1), ([[], [(0, 320)]], some (.inr (false, [(0, 255)])), mgh21404)])
def mgb6395 : sm_P := (fun pc => sm_ch sm_t179 pc, sm_Kn 3 8 none, fun x => sm_lk sm_ca3 x, some .int)
def czmg6395x0 : aw_A := ms_o [(0, 8)] [(0, 4)] ar_t32 ar_t32 [(0, 180)] [(0, 60)] [(-1, 60)] [(0, 8)] [(0, 4)]
def czmg6395h1 : aw_H := [(81, czmg6395x0), (82, ms_r [(0, [(-1, 40)])]), (91, .inr (.inl (0, 6, [], [])))]
set_option maxRecDepth 100000 in
theorem mgk6395 : ai_ch2 [mgc6392, mgc6393, mgc4] mgc6395 mgb6395 [81, 91] 8 2 [33] [] 2000 [.inr (7, false, [((33, [(0, .inl 81), (1, .inr (false, [(0, 320)])), (2, .inr (false, [(0, 0)])), (3, .inr (false, [(0, 255)])), (4, .inr (false, [(0, 255)])), (5, .inr (false, ar_t32)), (6, .inr (false, [(0, 1)])), (7, .inr (false, [(0, 256)]))], [], czmg6395h1), none)])] = true := by decide +kernel
