/-- MiceRegistersModel.cheeses -/
def m2c12 : ak_C := (147, [.inl 81], m2h28, [], [([], some (.inr (false, ar_t32)), [])])
theorem m2k12 : ai_chk [] m2c12 (fun pc => sm_ch sm_t147 pc, sm_Kn 3 3 none, fun x => sm_lk sm_ca3 x, some .int) [] 3 0 [4] [] 2000 [(4, [(0, .inl 81), (1, .inr (false, [(0, 0)])), (2, .inr (false, [(0, 0)]))], [], m2h28),
  (4, [(0, .inl 81), (1, .inr (false, ar_t32)), (2, .inr (false, [(1, 1)]))], [], m2h28),
  (4, [(0, .inl 81), (1, .inr (false, ar_t32)), (2, .inr (false, [(2, 2)]))], [], m2h28),
  (4, [(0, .inl 81), (1, .inr (false, ar_t32)), (2, .inr (false, [(3, 3)]))], [], m2h28),
  (4, [(0, .inl 81), (1, .inr (false, ar_t32)), (2, .inr (false, [(4, 4)]))], [], m2h28),
  (4, [(0, .inl 81), (1, .inr (false, ar_t32)), (2, .inr (false, [(5, 5)]))], [], m2h28),
  (4, [(0, .inl 81), (1, .inr (false, ar_t32)), (2, .inr (false, [(6, 6)]))], [], m2h28),
  (4, [(0, .inl 81), (1, .inr (false, ar_t32)), (2, .inr (false, [(7, 7)]))], [], m2h28),
  (4, [(0, .inl 81), (1, .inr (false, ar_t32)), (2, .inr (false, [(8, 8)]))], [], m2h28)] = true := by decide +kernel
def m2x37 : aw_A := ms_o [(1, 8)] [(2, 2)] ar_t32 [(1, 5)] [(0, 180)] [(0, 60)] [(-1, 60)] [(0, 8)] [(0, 4)]
def m2h38 : aw_H := [(81, m2x37), (91, .inr (.inl (0, 6, [], [])))]
/-- MiceRegistersModel.find -/
def m2h39 : aw_H := [(81, m2x0), (91, .inr (.inl (0, 6, [], [])))]
def m2c13 : ak_C := (106, [.inl 81, .inr (false, [(1, 5)])], m2h39, [81, 91], [([], some (.inr (false, [(-3, -3)])), m2h38)])
theorem m2k13 : ai_chk [] m2c13 (fun pc => sm_ch sm_t106 pc, sm_Kn 3 2 none, fun x => sm_lk sm_ca3 x, some .int) [81, 91] 2 0 [] [] 2000 [] = true := by decide +kernel
/-- MiceRegistersModel.mark -/
def m2h40 : aw_H := [(81, m2x0), (82, ms_r [(0, [(-1, 40)])]), (83, .inr (.inl (0, 8, [], []))), (85, .inr (.inl (0, 4, [], []))), (86, m2x3), (91, .inr (.inl (0, 6, [], [])))]
def m2c14 : ak_C := (143, [.inl 81, .inr (false, ar_t32), .inr (false, ar_t32)], m2h40, [81, 91], [([[], [], []], some (.inr (false, [(-1, -1)])), m2h39), ([[], [(0, 1)], [(1, 5)]], some (.inr (false, ar_t32)), m2h39), ([[], [(0, 1)], [(1, 5)]], some (.inr (false, [(-3, -3)])), m2h38)])
theorem m2k14 : ai_chk [m2c3, m2c4, m2c5, m2c6, m2c7, m2c11, m2c12, m2c13] m2c14 (fun pc => sm_ch sm_t143 pc, sm_Kn 3 3 none, fun x => sm_lk sm_ca3 x, some .int) [81, 91] 3 3 [] [] 2000 [] = true := by decide +kernel
/-- MiceRegistersModel.in -/
def m2c15 : ak_C := (105, [.inr (true, ar_t32), .inr (true, [(0, 0)]), .inr (true, [(0, 7)])], [], [], [([[(0, 7)], [], []], some (.inr (false, [(1, 1)])), []), ([[(-2147483648, -1), (1, 2147483647)], [], []], some (.inr (false, [(0, 0)])), [])])
theorem m2k15 : ai_chk [] m2c15 (fun pc => sm_ch sm_t105 pc, sm_Kn 3 6 none, fun x => sm_lk sm_ca3 x, some .boolean) [] 6 6 [] [] 2000 [] = true := by decide +kernel
/-- MiceRegistersModel.isLine -/
def m2c16 : ak_C := (131, [.inl 81, .inr (false, ar_t32)], m2h1, [], [([[], [(-2147483648, -1), (1, 2147483647)]], some (.inr (false, [(0, 0)])), []), ([[], [(0, 7)]], some (.inr (false, [(1, 1)])), [])])
theorem m2k16 : ai_chk [m2c15] m2c16 (fun pc => sm_ch sm_t131 pc, sm_Kn 3 2 none, fun x => sm_lk sm_ca3 x, some .boolean) [] 2 2 [] [] 2000 [] = true := by decide +kernel
/-- MiceRegistersModel.in -/
def m2c17 : ak_C := (105, [.inr (true, ar_t32), .inr (true, [(0, 0)]), .inr (true, [(12, 12)])], [], [], [([[(0, 12)], [], []], some (.inr (false, [(1, 1)])), []), ([[(-2147483648, -1), (13, 2147483647)], [], []], some (.inr (false, [(0, 0)])), [])])
theorem m2k17 : ai_chk [] m2c17 (fun pc => sm_ch sm_t105 pc, sm_Kn 3 6 none, fun x => sm_lk sm_ca3 x, some .boolean) [] 6 6 [] [] 2000 [] = true := by decide +kernel
/-- MiceRegistersModel.has -/
def m2c18 : ak_C := (135, [.inr (false, [(0, 0)]), .inr (false, [(0, 0)])], [], [], [([], some (.inr (false, [(0, 0)])), [])])
theorem m2k18 : ai_chk [] m2c18 (fun pc => sm_ch sm_t135 pc, sm_Kn 3 2 none, fun x => sm_lk sm_ca3 x, some .boolean) [] 2 0 [] [] 2000 [] = true := by decide +kernel
/-- MiceRegistersModel.has -/
def m2c19 : ak_C := (135, [.inr (false, [(0, 0)]), .inr (false, [(1, 1)])], [], [], [([], some (.inr (false, [(0, 0)])), [])])
theorem m2k19 : ai_chk [] m2c19 (fun pc => sm_ch sm_t135 pc, sm_Kn 3 2 none, fun x => sm_lk sm_ca3 x, some .boolean) [] 2 0 [] [] 2000 [] = true := by decide +kernel
/-- MiceRegistersModel.chancesOf -/
def m2c20 : ak_C := (185, [.inl 81, .inr (false, [(0, 0)]), .inr (false, [(0, 11)])], m2h1, [], [([], some (.inr (true, [(1, 144)])), [])])
theorem m2k20 : ai_chk [m2c18, m2c19] m2c20 (fun pc => sm_ch sm_t185 pc, sm_Kn 3 6 none, fun x => sm_lk sm_ca3 x, some .long) [] 6 0 [5] [] 2000 [(5, [(0, .inl 81), (1, .inr (false, [(0, 0)])), (2, .inr (false, [(0, 11)])), (3, .inr (true, [(1, 1)])), (5, .inr (false, [(0, 0)]))], [], m2h1),
  (5, [(0, .inl 81), (1, .inr (false, [(0, 0)])), (2, .inr (false, [(0, 11)])), (3, .inr (true, [(1, 12)])), (5, .inr (false, [(1, 1)]))], [], m2h1),
  (5, [(0, .inl 81), (1, .inr (false, [(0, 0)])), (2, .inr (false, [(0, 11)])), (3, .inr (true, [(1, 144)])), (5, .inr (false, [(2, 2)]))], [], m2h1)] = true := by decide +kernel
/-- MiceRegistersModel.wants -/
def m2b25 : sm_P := (fun pc => sm_ch sm_t134 pc, sm_Kn 3 9 none, fun x => sm_lk sm_ca3 x, some .int)

