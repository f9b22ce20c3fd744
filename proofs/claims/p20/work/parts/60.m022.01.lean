def m4x25 : aw_A := ms_o [(8, 8)] [(4, 4)] ar_t32 ar_t32 [(0, 180)] [(0, 60)] [(-1, 60)] [(0, 8)] [(0, 4)]
def m4x26 : aw_A := .inr (.inl (0, 8, [], [(0, ar_t32), (1, ar_t32), (2, ar_t32), (3, ar_t32), (4, ar_t32), (5, ar_t32), (6, ar_t32), (7, ar_t32)]))
def m4h27 : aw_H := [(81, m4x25), (83, m4x26)]
theorem m4k7 : ai_chk [] m4c7 (fun pc => sm_ch sm_t146 pc, sm_Kn 3 3 none, fun x => sm_lk sm_ca3 x, some .int) [] 3 0 [4] [] 2000 [(4, [(0, .inl 81), (1, .inr (false, [(0, 0)])), (2, .inr (false, [(0, 0)]))], [], m4h5),
  (4, [(0, .inl 81), (1, .inr (false, [(0, 1)])), (2, .inr (false, [(1, 1)]))], [], m4h6),
  (4, [(0, .inl 81), (1, .inr (false, [(0, 2)])), (2, .inr (false, [(2, 2)]))], [], m4h9),
  (4, [(0, .inl 81), (1, .inr (false, [(0, 3)])), (2, .inr (false, [(3, 3)]))], [], m4h12),
  (4, [(0, .inl 81), (1, .inr (false, [(0, 4)])), (2, .inr (false, [(4, 4)]))], [], m4h15),
  (4, [(0, .inl 81), (1, .inr (false, [(0, 5)])), (2, .inr (false, [(5, 5)]))], [], m4h18),
  (4, [(0, .inl 81), (1, .inr (false, [(0, 6)])), (2, .inr (false, [(6, 6)]))], [], m4h21),
  (4, [(0, .inl 81), (1, .inr (false, [(0, 7)])), (2, .inr (false, [(7, 7)]))], [], m4h24),
  (4, [(0, .inl 81), (1, .inr (false, [(0, 8)])), (2, .inr (false, [(8, 8)]))], [], m4h27)] = true := by decide +kernel
/-- MiceRegistersModel.farOf -/
def m4h28 : aw_H := [(81, m4x0), (82, ms_r [(0, [(-1, 40)])])]
def m4c8 : ak_C := (137, [.inl 81, .inr (false, [(0, 0)]), .inr (false, [(0, 3)]), .inr (false, [(0, 7)])], m4h28, [], [([], some (.inr (false, [(0, 7)])), [])])
theorem m4k8 : ai_chk [] m4c8 (fun pc => sm_ch sm_t137 pc, sm_Kn 3 5 none, fun x => sm_lk sm_ca3 x, some .int) [] 5 0 [] [] 2000 [] = true := by decide +kernel
/-- MiceRegistersModel.likesBy -/
def m4c9 : ak_C := (138, [.inr (false, ar_t32), .inr (false, ar_t32), .inr (false, ar_t32), .inr (false, ar_t32)], [], [], [([], some (.inr (false, ar_t32)), [])])
theorem m4k9 : ai_chk [] m4c9 (fun pc => sm_ch sm_t138 pc, sm_Kn 3 4 none, fun x => sm_lk sm_ca3 x, some .int) [] 4 0 [] [] 2000 [] = true := by decide +kernel
/-- MiceRegistersModel.likesIn -/
def m4h29 : aw_H := [(81, m4x0), (82, ms_r [(0, [(-1, 40)])]), (83, .inr (.inl (0, 8, [], []))), (85, .inr (.inl (0, 4, [], [])))]
def m4c10 : ak_C := (136, [.inl 81, .inr (false, [(0, 0)]), .inr (false, [(0, 3)]), .inr (false, [(0, 7)])], m4h29, [], [([], some (.inr (false, ar_t32)), [])])
theorem m4k10 : ai_chk [m4c8, m4c9] m4c10 (fun pc => sm_ch sm_t136 pc, sm_Kn 3 4 none, fun x => sm_lk sm_ca3 x, some .int) [] 4 0 [] [] 2000 [] = true := by decide +kernel
/-- MiceRegistersModel.likedBy -/
def m4c11 : ak_C := (145, [.inl 81, .inr (false, [(0, 3)])], m4h29, [], [([], some (.inr (false, [(0, 8)])), [])])
def m4h30 : aw_H := [(81, m4x7), (82, ms_r [(0, [(-1, 40)])]), (83, .inr (.inl (0, 8, [], []))), (85, .inr (.inl (0, 4, [], [])))]
def m4h31 : aw_H := [(81, m4x10), (82, ms_r [(0, [(-1, 40)])]), (83, .inr (.inl (0, 8, [], []))), (85, .inr (.inl (0, 4, [], [])))]
def m4h32 : aw_H := [(81, m4x13), (82, ms_r [(0, [(-1, 40)])]), (83, .inr (.inl (0, 8, [], []))), (85, .inr (.inl (0, 4, [], [])))]
def m4h33 : aw_H := [(81, m4x16), (82, ms_r [(0, [(-1, 40)])]), (83, .inr (.inl (0, 8, [], []))), (85, .inr (.inl (0, 4, [], [])))]
def m4h34 : aw_H := [(81, m4x19), (82, ms_r [(0, [(-1, 40)])]), (83, .inr (.inl (0, 8, [], []))), (85, .inr (.inl (0, 4, [], [])))]
def m4h35 : aw_H := [(81, m4x22), (82, ms_r [(0, [(-1, 40)])]), (83, .inr (.inl (0, 8, [], []))), (85, .inr (.inl (0, 4, [], [])))]
def m4h36 : aw_H := [(81, m4x25), (82, ms_r [(0, [(-1, 40)])]), (83, .inr (.inl (0, 8, [], []))), (85, .inr (.inl (0, 4, [], [])))]
theorem m4k11 : ai_chk [m4c10] m4c11 (fun pc => sm_ch sm_t145 pc, sm_Kn 3 4 none, fun x => sm_lk sm_ca3 x, some .int) [] 4 0 [4] [] 2000 [(4, [(0, .inl 81), (1, .inr (false, [(0, 3)])), (2, .inr (false, [(0, 0)])), (3, .inr (false, [(0, 0)]))], [], m4h29),
  (4, [(0, .inl 81), (1, .inr (false, [(0, 3)])), (2, .inr (false, [(0, 1)])), (3, .inr (false, [(1, 1)]))], [], m4h29),
  (4, [(0, .inl 81), (1, .inr (false, [(0, 3)])), (2, .inr (false, [(0, 2)])), (3, .inr (false, [(2, 2)]))], [], m4h30),
  (4, [(0, .inl 81), (1, .inr (false, [(0, 3)])), (2, .inr (false, [(0, 3)])), (3, .inr (false, [(3, 3)]))], [], m4h31),
  (4, [(0, .inl 81), (1, .inr (false, [(0, 3)])), (2, .inr (false, [(0, 4)])), (3, .inr (false, [(4, 4)]))], [], m4h32),
  (4, [(0, .inl 81), (1, .inr (false, [(0, 3)])), (2, .inr (false, [(0, 5)])), (3, .inr (false, [(5, 5)]))], [], m4h33),
  (4, [(0, .inl 81), (1, .inr (false, [(0, 3)])), (2, .inr (false, [(0, 6)])), (3, .inr (false, [(6, 6)]))], [], m4h34),
  (4, [(0, .inl 81), (1, .inr (false, [(0, 3)])), (2, .inr (false, [(0, 7)])), (3, .inr (false, [(7, 7)]))], [], m4h35),
  (4, [(0, .inl 81), (1, .inr (false, [(0, 3)])), (2, .inr (false, [(0, 8)])), (3, .inr (false, [(8, 8)]))], [], m4h36)] = true := by decide +kernel
/-- MiceRegistersModel.cheeses -/
def m4c12 : ak_C := (147, [.inl 81], m4h28, [], [([], some (.inr (false, ar_t32)), [])])
theorem m4k12 : ai_chk [] m4c12 (fun pc => sm_ch sm_t147 pc, sm_Kn 3 3 none, fun x => sm_lk sm_ca3 x, some .int) [] 3 0 [4] [] 2000 [(4, [(0, .inl 81), (1, .inr (false, [(0, 0)])), (2, .inr (false, [(0, 0)]))], [], m4h28),
  (4, [(0, .inl 81), (1, .inr (false, ar_t32)), (2, .inr (false, [(1, 1)]))], [], m4h28),
  (4, [(0, .inl 81), (1, .inr (false, ar_t32)), (2, .inr (false, [(2, 2)]))], [], m4h28),
  (4, [(0, .inl 81), (1, .inr (false, ar_t32)), (2, .inr (false, [(3, 3)]))], [], m4h28),
  (4, [(0, .inl 81), (1, .inr (false, ar_t32)), (2, .inr (false, [(4, 4)]))], [], m4h28),
  (4, [(0, .inl 81), (1, .inr (false, ar_t32)), (2, .inr (false, [(5, 5)]))], [], m4h28),
  (4, [(0, .inl 81), (1, .inr (false, ar_t32)), (2, .inr (false, [(6, 6)]))], [], m4h28),
  (4, [(0, .inl 81), (1, .inr (false, ar_t32)), (2, .inr (false, [(7, 7)]))], [], m4h28),
  (4, [(0, .inl 81), (1, .inr (false, ar_t32)), (2, .inr (false, [(8, 8)]))], [], m4h28)] = true := by decide +kernel
def m4x37 : aw_A := ms_o [(1, 8)] [(4, 4)] ar_t32 [(1, 5)] [(0, 180)] [(0, 60)] [(-1, 60)] [(0, 8)] [(0, 4)]
def m4h38 : aw_H := [(81, m4x37), (91, .inr (.inl (0, 6, [], [])))]
/-- MiceRegistersModel.find -/
def m4h39 : aw_H := [(81, m4x0), (91, .inr (.inl (0, 6, [], [])))]
def m4c13 : ak_C := (106, [.inl 81, .inr (false, [(1, 5)])], m4h39, [81, 91], [([], some (.inr (false, [(-3, -3)])), m4h38)])
theorem m4k13 : ai_chk [] m4c13 (fun pc => sm_ch sm_t106 pc, sm_Kn 3 2 none, fun x => sm_lk sm_ca3 x, some .int) [81, 91] 2 0 [] [] 2000 [] = true := by decide +kernel
/-- MiceRegistersModel.mark -/
def m4h40 : aw_H := [(81, m4x0), (82, ms_r [(0, [(-1, 40)])]), (83, .inr (.inl (0, 8, [], []))), (85, .inr (.inl (0, 4, [], []))), (86, m4x3), (91, .inr (.inl (0, 6, [], [])))]
def m4c14 : ak_C := (143, [.inl 81, .inr (false, ar_t32), .inr (false, ar_t32)], m4h40, [81, 91], [([[], [], []], some (.inr (false, [(-1, -1)])), m4h39), ([[], [(0, 3)], [(1, 5)]], some (.inr (false, ar_t32)), m4h39), ([[], [(0, 3)], [(1, 5)]], some (.inr (false, [(-3, -3)])), m4h38)])
theorem m4k14 : ai_chk [m4c3, m4c4, m4c5, m4c6, m4c7, m4c11, m4c12, m4c13] m4c14 (fun pc => sm_ch sm_t143 pc, sm_Kn 3 3 none, fun x => sm_lk sm_ca3 x, some .int) [81, 91] 3 3 [] [] 2000 [] = true := by decide +kernel
/-- MiceRegistersModel.in -/
def m4c15 : ak_C := (105, [.inr (true, ar_t32), .inr (true, [(0, 0)]), .inr (true, [(0, 7)])], [], [], [([[(0, 7)], [], []], some (.inr (false, [(1, 1)])), []), ([[(-2147483648, -1), (1, 2147483647)], [], []], some (.inr (false, [(0, 0)])), [])])
theorem m4k15 : ai_chk [] m4c15 (fun pc => sm_ch sm_t105 pc, sm_Kn 3 6 none, fun x => sm_lk sm_ca3 x, some .boolean) [] 6 6 [] [] 2000 [] = true := by decide +kernel
/-- MiceRegistersModel.isLine -/
def m4c16 : ak_C := (131, [.inl 81, .inr (false, ar_t32)], m4h1, [], [([[], [(-2147483648, -1), (1, 2147483647)]], some (.inr (false, [(0, 0)])), []), ([[], [(0, 7)]], some (.inr (false, [(1, 1)])), [])])
theorem m4k16 : ai_chk [m4c15] m4c16 (fun pc => sm_ch sm_t131 pc, sm_Kn 3 2 none, fun x => sm_lk sm_ca3 x, some .boolean) [] 2 2 [] [] 2000 [] = true := by decide +kernel
/-- MiceRegistersModel.in -/
def m4c17 : ak_C := (105, [.inr (true, ar_t32), .inr (true, [(0, 0)]), .inr (true, [(12, 12)])], [], [], [([[(0, 12)], [], []], some (.inr (false, [(1, 1)])), []), ([[(-2147483648, -1), (13, 2147483647)], [], []], some (.inr (false, [(0, 0)])), [])])
theorem m4k17 : ai_chk [] m4c17 (fun pc => sm_ch sm_t105 pc, sm_Kn 3 6 none, fun x => sm_lk sm_ca3 x, some .boolean) [] 6 6 [] [] 2000 [] = true := by decide +kernel
/-- MiceRegistersModel.has -/
def m4c18 : ak_C := (135, [.inr (false, [(0, 0)]), .inr (false, [(0, 0)])], [], [], [([], some (.inr (false, [(0, 0)])), [])])
theorem m4k18 : ai_chk [] m4c18 (fun pc => sm_ch sm_t135 pc, sm_Kn 3 2 none, fun x => sm_lk sm_ca3 x, some .boolean) [] 2 0 [] [] 2000 [] = true := by decide +kernel
/-- MiceRegistersModel.has -/
def m4c19 : ak_C := (135, [.inr (false, [(0, 0)]), .inr (false, [(1, 1)])], [], [], [([], some (.inr (false, [(0, 0)])), [])])
theorem m4k19 : ai_chk [] m4c19 (fun pc => sm_ch sm_t135 pc, sm_Kn 3 2 none, fun x => sm_lk sm_ca3 x, some .boolean) [] 2 0 [] [] 2000 [] = true := by decide +kernel
/-- MiceRegistersModel.has -/
def m4c20 : ak_C := (135, [.inr (false, [(0, 0)]), .inr (false, [(2, 2)])], [], [], [([], some (.inr (false, [(0, 0)])), [])])
theorem m4k20 : ai_chk [] m4c20 (fun pc => sm_ch sm_t135 pc, sm_Kn 3 2 none, fun x => sm_lk sm_ca3 x, some .boolean) [] 2 0 [] [] 2000 [] = true := by decide +kernel
/-- MiceRegistersModel.has -/
def m4c21 : ak_C := (135, [.inr (false, [(0, 0)]), .inr (false, [(3, 3)])], [], [], [([], some (.inr (false, [(0, 0)])), [])])
theorem m4k21 : ai_chk [] m4c21 (fun pc => sm_ch sm_t135 pc, sm_Kn 3 2 none, fun x => sm_lk sm_ca3 x, some .boolean) [] 2 0 [] [] 2000 [] = true := by decide +kernel
/-- MiceRegistersModel.chancesOf -/
def m4c22 : ak_C := (185, [.inl 81, .inr (false, [(0, 0)]), .inr (false, [(0, 11)])], m4h1, [], [([], some (.inr (true, [(1, 20736)])), [])])
theorem m4k22 : ai_chk [m4c18, m4c19, m4c20, m4c21] m4c22 (fun pc => sm_ch sm_t185 pc, sm_Kn 3 6 none, fun x => sm_lk sm_ca3 x, some .long) [] 6 0 [5] [] 2000 [(5, [(0, .inl 81), (1, .inr (false, [(0, 0)])), (2, .inr (false, [(0, 11)])), (3, .inr (true, [(1, 1)])), (5, .inr (false, [(0, 0)]))], [], m4h1),
  (5, [(0, .inl 81), (1, .inr (false, [(0, 0)])), (2, .inr (false, [(0, 11)])), (3, .inr (true, [(1, 12)])), (5, .inr (false, [(1, 1)]))], [], m4h1),
  (5, [(0, .inl 81), (1, .inr (false, [(0, 0)])), (2, .inr (false, [(0, 11)])), (3, .inr (true, [(1, 144)])), (5, .inr (false, [(2, 2)]))], [], m4h1),
  (5, [(0, .inl 81), (1, .inr (false, [(0, 0)])), (2, .inr (false, [(0, 11)])), (3, .inr (true, [(1, 1728)])), (5, .inr (false, [(3, 3)]))], [], m4h1),
  (5, [(0, .inl 81), (1, .inr (false, [(0, 0)])), (2, .inr (false, [(0, 11)])), (3, .inr (true, [(1, 20736)])), (5, .inr (false, [(4, 4)]))], [], m4h1)] = true := by decide +kernel
