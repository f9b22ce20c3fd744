def m2x13 : aw_A := ms_o [(4, 8)] [(2, 2)] ar_t32 ar_t32 [(0, 180)] [(0, 60)] [(-1, 60)] [(0, 8)] [(0, 4)]
def m2x14 : aw_A := .inr (.inl (0, 8, [], [(0, ar_t32), (1, ar_t32), (2, ar_t32), (3, ar_t32)]))
def m2h15 : aw_H := [(81, m2x13), (83, m2x14)]
def m2x16 : aw_A := ms_o [(5, 8)] [(2, 2)] ar_t32 ar_t32 [(0, 180)] [(0, 60)] [(-1, 60)] [(0, 8)] [(0, 4)]
def m2x17 : aw_A := .inr (.inl (0, 8, [], [(0, ar_t32), (1, ar_t32), (2, ar_t32), (3, ar_t32), (4, ar_t32)]))
def m2h18 : aw_H := [(81, m2x16), (83, m2x17)]
def m2x19 : aw_A := ms_o [(6, 8)] [(2, 2)] ar_t32 ar_t32 [(0, 180)] [(0, 60)] [(-1, 60)] [(0, 8)] [(0, 4)]
def m2x20 : aw_A := .inr (.inl (0, 8, [], [(0, ar_t32), (1, ar_t32), (2, ar_t32), (3, ar_t32), (4, ar_t32), (5, ar_t32)]))
def m2h21 : aw_H := [(81, m2x19), (83, m2x20)]
def m2x22 : aw_A := ms_o [(7, 8)] [(2, 2)] ar_t32 ar_t32 [(0, 180)] [(0, 60)] [(-1, 60)] [(0, 8)] [(0, 4)]
def m2x23 : aw_A := .inr (.inl (0, 8, [], [(0, ar_t32), (1, ar_t32), (2, ar_t32), (3, ar_t32), (4, ar_t32), (5, ar_t32), (6, ar_t32)]))
def m2h24 : aw_H := [(81, m2x22), (83, m2x23)]
def m2x25 : aw_A := ms_o [(8, 8)] [(2, 2)] ar_t32 ar_t32 [(0, 180)] [(0, 60)] [(-1, 60)] [(0, 8)] [(0, 4)]
def m2x26 : aw_A := .inr (.inl (0, 8, [], [(0, ar_t32), (1, ar_t32), (2, ar_t32), (3, ar_t32), (4, ar_t32), (5, ar_t32), (6, ar_t32), (7, ar_t32)]))
def m2h27 : aw_H := [(81, m2x25), (83, m2x26)]
theorem m2k7 : ai_chk [] m2c7 (fun pc => sm_ch sm_t146 pc, sm_Kn 3 3 none, fun x => sm_lk sm_ca3 x, some .int) [] 3 0 [4] [] 2000 [(4, [(0, .inl 81), (1, .inr (false, [(0, 0)])), (2, .inr (false, [(0, 0)]))], [], m2h5),
  (4, [(0, .inl 81), (1, .inr (false, [(0, 1)])), (2, .inr (false, [(1, 1)]))], [], m2h6),
  (4, [(0, .inl 81), (1, .inr (false, [(0, 2)])), (2, .inr (false, [(2, 2)]))], [], m2h9),
  (4, [(0, .inl 81), (1, .inr (false, [(0, 3)])), (2, .inr (false, [(3, 3)]))], [], m2h12),
  (4, [(0, .inl 81), (1, .inr (false, [(0, 4)])), (2, .inr (false, [(4, 4)]))], [], m2h15),
  (4, [(0, .inl 81), (1, .inr (false, [(0, 5)])), (2, .inr (false, [(5, 5)]))], [], m2h18),
  (4, [(0, .inl 81), (1, .inr (false, [(0, 6)])), (2, .inr (false, [(6, 6)]))], [], m2h21),
  (4, [(0, .inl 81), (1, .inr (false, [(0, 7)])), (2, .inr (false, [(7, 7)]))], [], m2h24),
  (4, [(0, .inl 81), (1, .inr (false, [(0, 8)])), (2, .inr (false, [(8, 8)]))], [], m2h27)] = true := by decide +kernel
/-- MiceRegistersModel.farOf -/
def m2h28 : aw_H := [(81, m2x0), (82, ms_r [(0, [(-1, 40)])])]
def m2c8 : ak_C := (137, [.inl 81, .inr (false, [(0, 0)]), .inr (false, [(0, 3)]), .inr (false, [(0, 7)])], m2h28, [], [([], some (.inr (false, [(0, 7)])), [])])
theorem m2k8 : ai_chk [] m2c8 (fun pc => sm_ch sm_t137 pc, sm_Kn 3 5 none, fun x => sm_lk sm_ca3 x, some .int) [] 5 0 [] [] 2000 [] = true := by decide +kernel
/-- MiceRegistersModel.likesBy -/
def m2c9 : ak_C := (138, [.inr (false, ar_t32), .inr (false, ar_t32), .inr (false, ar_t32), .inr (false, ar_t32)], [], [], [([], some (.inr (false, ar_t32)), [])])
theorem m2k9 : ai_chk [] m2c9 (fun pc => sm_ch sm_t138 pc, sm_Kn 3 4 none, fun x => sm_lk sm_ca3 x, some .int) [] 4 0 [] [] 2000 [] = true := by decide +kernel
/-- MiceRegistersModel.likesIn -/
def m2h29 : aw_H := [(81, m2x0), (82, ms_r [(0, [(-1, 40)])]), (83, .inr (.inl (0, 8, [], []))), (85, .inr (.inl (0, 4, [], [])))]
def m2c10 : ak_C := (136, [.inl 81, .inr (false, [(0, 0)]), .inr (false, [(0, 3)]), .inr (false, [(0, 7)])], m2h29, [], [([], some (.inr (false, ar_t32)), [])])
theorem m2k10 : ai_chk [m2c8, m2c9] m2c10 (fun pc => sm_ch sm_t136 pc, sm_Kn 3 4 none, fun x => sm_lk sm_ca3 x, some .int) [] 4 0 [] [] 2000 [] = true := by decide +kernel
/-- MiceRegistersModel.likedBy -/
def m2c11 : ak_C := (145, [.inl 81, .inr (false, [(0, 3)])], m2h29, [], [([], some (.inr (false, [(0, 8)])), [])])
def m2h30 : aw_H := [(81, m2x7), (82, ms_r [(0, [(-1, 40)])]), (83, .inr (.inl (0, 8, [], []))), (85, .inr (.inl (0, 4, [], [])))]
def m2h31 : aw_H := [(81, m2x10), (82, ms_r [(0, [(-1, 40)])]), (83, .inr (.inl (0, 8, [], []))), (85, .inr (.inl (0, 4, [], [])))]
def m2h32 : aw_H := [(81, m2x13), (82, ms_r [(0, [(-1, 40)])]), (83, .inr (.inl (0, 8, [], []))), (85, .inr (.inl (0, 4, [], [])))]
def m2h33 : aw_H := [(81, m2x16), (82, ms_r [(0, [(-1, 40)])]), (83, .inr (.inl (0, 8, [], []))), (85, .inr (.inl (0, 4, [], [])))]
def m2h34 : aw_H := [(81, m2x19), (82, ms_r [(0, [(-1, 40)])]), (83, .inr (.inl (0, 8, [], []))), (85, .inr (.inl (0, 4, [], [])))]
def m2h35 : aw_H := [(81, m2x22), (82, ms_r [(0, [(-1, 40)])]), (83, .inr (.inl (0, 8, [], []))), (85, .inr (.inl (0, 4, [], [])))]
def m2h36 : aw_H := [(81, m2x25), (82, ms_r [(0, [(-1, 40)])]), (83, .inr (.inl (0, 8, [], []))), (85, .inr (.inl (0, 4, [], [])))]
theorem m2k11 : ai_chk [m2c10] m2c11 (fun pc => sm_ch sm_t145 pc, sm_Kn 3 4 none, fun x => sm_lk sm_ca3 x, some .int) [] 4 0 [4] [] 2000 [(4, [(0, .inl 81), (1, .inr (false, [(0, 3)])), (2, .inr (false, [(0, 0)])), (3, .inr (false, [(0, 0)]))], [], m2h29),
  (4, [(0, .inl 81), (1, .inr (false, [(0, 3)])), (2, .inr (false, [(0, 1)])), (3, .inr (false, [(1, 1)]))], [], m2h29),
  (4, [(0, .inl 81), (1, .inr (false, [(0, 3)])), (2, .inr (false, [(0, 2)])), (3, .inr (false, [(2, 2)]))], [], m2h30),
  (4, [(0, .inl 81), (1, .inr (false, [(0, 3)])), (2, .inr (false, [(0, 3)])), (3, .inr (false, [(3, 3)]))], [], m2h31),
  (4, [(0, .inl 81), (1, .inr (false, [(0, 3)])), (2, .inr (false, [(0, 4)])), (3, .inr (false, [(4, 4)]))], [], m2h32),
  (4, [(0, .inl 81), (1, .inr (false, [(0, 3)])), (2, .inr (false, [(0, 5)])), (3, .inr (false, [(5, 5)]))], [], m2h33),
  (4, [(0, .inl 81), (1, .inr (false, [(0, 3)])), (2, .inr (false, [(0, 6)])), (3, .inr (false, [(6, 6)]))], [], m2h34),
  (4, [(0, .inl 81), (1, .inr (false, [(0, 3)])), (2, .inr (false, [(0, 7)])), (3, .inr (false, [(7, 7)]))], [], m2h35),
  (4, [(0, .inl 81), (1, .inr (false, [(0, 3)])), (2, .inr (false, [(0, 8)])), (3, .inr (false, [(8, 8)]))], [], m2h36)] = true := by decide +kernel
