def m3c8 : ak_C := (137, [.inl 81, .inr (false, [(0, 0)]), .inr (false, [(0, 3)]), .inr (false, [(0, 7)])], m3h28, [], [([], some (.inr (false, [(0, 7)])), [])])
theorem m3k8 : ai_chk [] m3c8 (fun pc => sm_ch sm_t137 pc, sm_Kn 3 5 none, fun x => sm_lk sm_ca3 x, some .int) [] 5 0 [] [] 2000 [] = true := by decide +kernel
/-- MiceRegistersModel.likesBy -/
def m3c9 : ak_C := (138, [.inr (false, ar_t32), .inr (false, ar_t32), .inr (false, ar_t32), .inr (false, ar_t32)], [], [], [([], some (.inr (false, ar_t32)), [])])
theorem m3k9 : ai_chk [] m3c9 (fun pc => sm_ch sm_t138 pc, sm_Kn 3 4 none, fun x => sm_lk sm_ca3 x, some .int) [] 4 0 [] [] 2000 [] = true := by decide +kernel
/-- MiceRegistersModel.likesIn -/
def m3h29 : aw_H := [(81, m3x0), (82, ms_r [(0, [(-1, 40)])]), (83, .inr (.inl (0, 8, [], []))), (85, .inr (.inl (0, 4, [], [])))]
def m3c10 : ak_C := (136, [.inl 81, .inr (false, [(0, 0)]), .inr (false, [(0, 3)]), .inr (false, [(0, 7)])], m3h29, [], [([], some (.inr (false, ar_t32)), [])])
theorem m3k10 : ai_chk [m3c8, m3c9] m3c10 (fun pc => sm_ch sm_t136 pc, sm_Kn 3 4 none, fun x => sm_lk sm_ca3 x, some .int) [] 4 0 [] [] 2000 [] = true := by decide +kernel
/-- MiceRegistersModel.likedBy -/
def m3c11 : ak_C := (145, [.inl 81, .inr (false, [(0, 3)])], m3h29, [], [([], some (.inr (false, [(0, 8)])), [])])
def m3h30 : aw_H := [(81, m3x7), (82, ms_r [(0, [(-1, 40)])]), (83, .inr (.inl (0, 8, [], []))), (85, .inr (.inl (0, 4, [], [])))]
def m3h31 : aw_H := [(81, m3x10), (82, ms_r [(0, [(-1, 40)])]), (83, .inr (.inl (0, 8, [], []))), (85, .inr (.inl (0, 4, [], [])))]
def m3h32 : aw_H := [(81, m3x13), (82, ms_r [(0, [(-1, 40)])]), (83, .inr (.inl (0, 8, [], []))), (85, .inr (.inl (0, 4, [], [])))]
def m3h33 : aw_H := [(81, m3x16), (82, ms_r [(0, [(-1, 40)])]), (83, .inr (.inl (0, 8, [], []))), (85, .inr (.inl (0, 4, [], [])))]
def m3h34 : aw_H := [(81, m3x19), (82, ms_r [(0, [(-1, 40)])]), (83, .inr (.inl (0, 8, [], []))), (85, .inr (.inl (0, 4, [], [])))]
def m3h35 : aw_H := [(81, m3x22), (82, ms_r [(0, [(-1, 40)])]), (83, .inr (.inl (0, 8, [], []))), (85, .inr (.inl (0, 4, [], [])))]
def m3h36 : aw_H := [(81, m3x25), (82, ms_r [(0, [(-1, 40)])]), (83, .inr (.inl (0, 8, [], []))), (85, .inr (.inl (0, 4, [], [])))]
theorem m3k11 : ai_chk [m3c10] m3c11 (fun pc => sm_ch sm_t145 pc, sm_Kn 3 4 none, fun x => sm_lk sm_ca3 x, some .int) [] 4 0 [4] [] 2000 [(4, [(0, .inl 81), (1, .inr (false, [(0, 3)])), (2, .inr (false, [(0, 0)])), (3, .inr (false, [(0, 0)]))], [], m3h29),
  (4, [(0, .inl 81), (1, .inr (false, [(0, 3)])), (2, .inr (false, [(0, 1)])), (3, .inr (false, [(1, 1)]))], [], m3h29),
  (4, [(0, .inl 81), (1, .inr (false, [(0, 3)])), (2, .inr (false, [(0, 2)])), (3, .inr (false, [(2, 2)]))], [], m3h30),
  (4, [(0, .inl 81), (1, .inr (false, [(0, 3)])), (2, .inr (false, [(0, 3)])), (3, .inr (false, [(3, 3)]))], [], m3h31),
  (4, [(0, .inl 81), (1, .inr (false, [(0, 3)])), (2, .inr (false, [(0, 4)])), (3, .inr (false, [(4, 4)]))], [], m3h32),
  (4, [(0, .inl 81), (1, .inr (false, [(0, 3)])), (2, .inr (false, [(0, 5)])), (3, .inr (false, [(5, 5)]))], [], m3h33),
  (4, [(0, .inl 81), (1, .inr (false, [(0, 3)])), (2, .inr (false, [(0, 6)])), (3, .inr (false, [(6, 6)]))], [], m3h34),
  (4, [(0, .inl 81), (1, .inr (false, [(0, 3)])), (2, .inr (false, [(0, 7)])), (3, .inr (false, [(7, 7)]))], [], m3h35),
  (4, [(0, .inl 81), (1, .inr (false, [(0, 3)])), (2, .inr (false, [(0, 8)])), (3, .inr (false, [(8, 8)]))], [], m3h36)] = true := by decide +kernel
/-- MiceRegistersModel.cheeses -/
def m3c12 : ak_C := (147, [.inl 81], m3h28, [], [([], some (.inr (false, ar_t32)), [])])
theorem m3k12 : ai_chk [] m3c12 (fun pc => sm_ch sm_t147 pc, sm_Kn 3 3 none, fun x => sm_lk sm_ca3 x, some .int) [] 3 0 [4] [] 2000 [(4, [(0, .inl 81), (1, .inr (false, [(0, 0)])), (2, .inr (false, [(0, 0)]))], [], m3h28),
  (4, [(0, .inl 81), (1, .inr (false, ar_t32)), (2, .inr (false, [(1, 1)]))], [], m3h28),
  (4, [(0, .inl 81), (1, .inr (false, ar_t32)), (2, .inr (false, [(2, 2)]))], [], m3h28),
  (4, [(0, .inl 81), (1, .inr (false, ar_t32)), (2, .inr (false, [(3, 3)]))], [], m3h28),
  (4, [(0, .inl 81), (1, .inr (false, ar_t32)), (2, .inr (false, [(4, 4)]))], [], m3h28),
  (4, [(0, .inl 81), (1, .inr (false, ar_t32)), (2, .inr (false, [(5, 5)]))], [], m3h28),
  (4, [(0, .inl 81), (1, .inr (false, ar_t32)), (2, .inr (false, [(6, 6)]))], [], m3h28),
  (4, [(0, .inl 81), (1, .inr (false, ar_t32)), (2, .inr (false, [(7, 7)]))], [], m3h28),
  (4, [(0, .inl 81), (1, .inr (false, ar_t32)), (2, .inr (false, [(8, 8)]))], [], m3h28)] = true := by decide +kernel
def m3x37 : aw_A := ms_o [(1, 8)] [(3, 3)] ar_t32 [(1, 5)] [(0, 180)] [(0, 60)] [(-1, 60)] [(0, 8)] [(0, 4)]
def m3h38 : aw_H := [(81, m3x37), (91, .inr (.inl (0, 6, [], [])))]
/-- MiceRegistersModel.find -/
def m3h39 : aw_H := [(81, m3x0), (91, .inr (.inl (0, 6, [], [])))]
def m3c13 : ak_C := (106, [.inl 81, .inr (false, [(1, 5)])], m3h39, [81, 91], [([], some (.inr (false, [(-3, -3)])), m3h38)])
theorem m3k13 : ai_chk [] m3c13 (fun pc => sm_ch sm_t106 pc, sm_Kn 3 2 none, fun x => sm_lk sm_ca3 x, some .int) [81, 91] 2 0 [] [] 2000 [] = true := by decide +kernel
/-- MiceRegistersModel.mark -/
def m3h40 : aw_H := [(81, m3x0), (82, ms_r [(0, [(-1, 40)])]), (83, .inr (.inl (0, 8, [], []))), (85, .inr (.inl (0, 4, [], []))), (86, m3x3), (91, .inr (.inl (0, 6, [], [])))]
def m3c14 : ak_C := (143, [.inl 81, .inr (false, ar_t32), .inr (false, ar_t32)], m3h40, [81, 91], [([[], [], []], some (.inr (false, [(-1, -1)])), m3h39), ([[], [(0, 2)], [(1, 5)]], some (.inr (false, ar_t32)), m3h39), ([[], [(0, 2)], [(1, 5)]], some (.inr (false, [(-3, -3)])), m3h38)])
theorem m3k14 : ai_chk [m3c3, m3c4, m3c5, m3c6, m3c7, m3c11, m3c12, m3c13] m3c14 (fun pc => sm_ch sm_t143 pc, sm_Kn 3 3 none, fun x => sm_lk sm_ca3 x, some .int) [81, 91] 3 3 [] [] 2000 [] = true := by decide +kernel
/-- MiceRegistersModel.in -/
def m3c15 : ak_C := (105, [.inr (true, ar_t32), .inr (true, [(0, 0)]), .inr (true, [(0, 7)])], [], [], [([[(0, 7)], [], []], some (.inr (false, [(1, 1)])), []), ([[(-2147483648, -1), (1, 2147483647)], [], []], some (.inr (false, [(0, 0)])), [])])
theorem m3k15 : ai_chk [] m3c15 (fun pc => sm_ch sm_t105 pc, sm_Kn 3 6 none, fun x => sm_lk sm_ca3 x, some .boolean) [] 6 6 [] [] 2000 [] = true := by decide +kernel
/-- MiceRegistersModel.isLine -/
def m3c16 : ak_C := (131, [.inl 81, .inr (false, ar_t32)], m3h1, [], [([[], [(-2147483648, -1), (1, 2147483647)]], some (.inr (false, [(0, 0)])), []), ([[], [(0, 7)]], some (.inr (false, [(1, 1)])), [])])
theorem m3k16 : ai_chk [m3c15] m3c16 (fun pc => sm_ch sm_t131 pc, sm_Kn 3 2 none, fun x => sm_lk sm_ca3 x, some .boolean) [] 2 2 [] [] 2000 [] = true := by decide +kernel
/-- MiceRegistersModel.in -/
def m3c17 : ak_C := (105, [.inr (true, ar_t32), .inr (true, [(0, 0)]), .inr (true, [(12, 12)])], [], [], [([[(0, 12)], [], []], some (.inr (false, [(1, 1)])), []), ([[(-2147483648, -1), (13, 2147483647)], [], []], some (.inr (false, [(0, 0)])), [])])
theorem m3k17 : ai_chk [] m3c17 (fun pc => sm_ch sm_t105 pc, sm_Kn 3 6 none, fun x => sm_lk sm_ca3 x, some .boolean) [] 6 6 [] [] 2000 [] = true := by decide +kernel
