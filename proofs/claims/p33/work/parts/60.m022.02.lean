theorem m4k98 : ai_chk [m4c94, m4c95, m4c96, m4c97] m4c98 (fun pc => sm_ch sm_t185 pc, sm_Kn 3 6 none, fun x => sm_lk sm_ca3 x, some .long) [] 6 0 [5] [] 2000 [(5, [(0, .inl 81), (1, .inr (false, [(14, 14)])), (2, .inr (false, [(0, 11)])), (3, .inr (true, [(1, 1)])), (5, .inr (false, [(0, 0)]))], [], m4h1),
  (5, [(0, .inl 81), (1, .inr (false, [(14, 14)])), (2, .inr (false, [(0, 11)])), (3, .inr (true, [(1, 12)])), (5, .inr (false, [(1, 1)]))], [], m4h1),
  (5, [(0, .inl 81), (1, .inr (false, [(14, 14)])), (2, .inr (false, [(0, 11)])), (3, .inr (true, [(0, 132)])), (5, .inr (false, [(2, 2)]))], [], m4h1),
  (5, [(0, .inl 81), (1, .inr (false, [(14, 14)])), (2, .inr (false, [(0, 11)])), (3, .inr (true, [(0, 1452)])), (5, .inr (false, [(3, 3)]))], [], m4h1),
  (5, [(0, .inl 81), (1, .inr (false, [(14, 14)])), (2, .inr (false, [(0, 11)])), (3, .inr (true, [(0, 15972)])), (5, .inr (false, [(4, 4)]))], [], m4h1)] = true := by decide +kernel
/-- MiceRegistersModel.has -/
def m4c99 : ak_C := (135, [.inr (false, [(15, 15)]), .inr (false, [(0, 0)])], [], [], [([], some (.inr (false, [(1, 1)])), [])])
theorem m4k99 : ai_chk [] m4c99 (fun pc => sm_ch sm_t135 pc, sm_Kn 3 2 none, fun x => sm_lk sm_ca3 x, some .boolean) [] 2 0 [] [] 2000 [] = true := by decide +kernel
/-- MiceRegistersModel.has -/
def m4c100 : ak_C := (135, [.inr (false, [(15, 15)]), .inr (false, [(1, 1)])], [], [], [([], some (.inr (false, [(1, 1)])), [])])
theorem m4k100 : ai_chk [] m4c100 (fun pc => sm_ch sm_t135 pc, sm_Kn 3 2 none, fun x => sm_lk sm_ca3 x, some .boolean) [] 2 0 [] [] 2000 [] = true := by decide +kernel
/-- MiceRegistersModel.has -/
def m4c101 : ak_C := (135, [.inr (false, [(15, 15)]), .inr (false, [(2, 2)])], [], [], [([], some (.inr (false, [(1, 1)])), [])])
theorem m4k101 : ai_chk [] m4c101 (fun pc => sm_ch sm_t135 pc, sm_Kn 3 2 none, fun x => sm_lk sm_ca3 x, some .boolean) [] 2 0 [] [] 2000 [] = true := by decide +kernel
/-- MiceRegistersModel.has -/
def m4c102 : ak_C := (135, [.inr (false, [(15, 15)]), .inr (false, [(3, 3)])], [], [], [([], some (.inr (false, [(1, 1)])), [])])
theorem m4k102 : ai_chk [] m4c102 (fun pc => sm_ch sm_t135 pc, sm_Kn 3 2 none, fun x => sm_lk sm_ca3 x, some .boolean) [] 2 0 [] [] 2000 [] = true := by decide +kernel
/-- MiceRegistersModel.chancesOf -/
def m4c103 : ak_C := (185, [.inl 81, .inr (false, [(15, 15)]), .inr (false, [(0, 11)])], m4h1, [], [([], some (.inr (true, [(0, 14641)])), [])])
theorem m4k103 : ai_chk [m4c99, m4c100, m4c101, m4c102] m4c103 (fun pc => sm_ch sm_t185 pc, sm_Kn 3 6 none, fun x => sm_lk sm_ca3 x, some .long) [] 6 0 [5] [] 2000 [(5, [(0, .inl 81), (1, .inr (false, [(15, 15)])), (2, .inr (false, [(0, 11)])), (3, .inr (true, [(1, 1)])), (5, .inr (false, [(0, 0)]))], [], m4h1),
  (5, [(0, .inl 81), (1, .inr (false, [(15, 15)])), (2, .inr (false, [(0, 11)])), (3, .inr (true, [(0, 11)])), (5, .inr (false, [(1, 1)]))], [], m4h1),
  (5, [(0, .inl 81), (1, .inr (false, [(15, 15)])), (2, .inr (false, [(0, 11)])), (3, .inr (true, [(0, 121)])), (5, .inr (false, [(2, 2)]))], [], m4h1),
  (5, [(0, .inl 81), (1, .inr (false, [(15, 15)])), (2, .inr (false, [(0, 11)])), (3, .inr (true, [(0, 1331)])), (5, .inr (false, [(3, 3)]))], [], m4h1),
  (5, [(0, .inl 81), (1, .inr (false, [(15, 15)])), (2, .inr (false, [(0, 11)])), (3, .inr (true, [(0, 14641)])), (5, .inr (false, [(4, 4)]))], [], m4h1)] = true := by decide +kernel
/-- MiceRegistersModel.tellParts -/
def m4c104 : ak_C := (186, [.inl 81, .inr (true, [(-72057594037927936, 72057594037927936)]), .inr (true, [(1, 1099511627776)])], m4h1, [81], [([], none, m4h1)])
/-- MiceRegistersModel.chancesOf -/
def m4c105 : ak_C := (185, [.inl 81, .inr (false, [(0, 0)]), .inr (false, [(12, 12)])], m4h1, [], [([], some (.inr (true, [(0, 0)])), [])])
theorem m4k105 : ai_chk [m4c18, m4c19, m4c20, m4c21] m4c105 (fun pc => sm_ch sm_t185 pc, sm_Kn 3 6 none, fun x => sm_lk sm_ca3 x, some .long) [] 6 0 [5] [] 2000 [(5, [(0, .inl 81), (1, .inr (false, [(0, 0)])), (2, .inr (false, [(12, 12)])), (3, .inr (true, [(1, 1)])), (5, .inr (false, [(0, 0)]))], [], m4h1),
  (5, [(0, .inl 81), (1, .inr (false, [(0, 0)])), (2, .inr (false, [(12, 12)])), (3, .inr (true, [(0, 0)])), (5, .inr (false, [(1, 1)]))], [], m4h1),
  (5, [(0, .inl 81), (1, .inr (false, [(0, 0)])), (2, .inr (false, [(12, 12)])), (3, .inr (true, [(0, 0)])), (5, .inr (false, [(2, 2)]))], [], m4h1),
  (5, [(0, .inl 81), (1, .inr (false, [(0, 0)])), (2, .inr (false, [(12, 12)])), (3, .inr (true, [(0, 0)])), (5, .inr (false, [(3, 3)]))], [], m4h1),
  (5, [(0, .inl 81), (1, .inr (false, [(0, 0)])), (2, .inr (false, [(12, 12)])), (3, .inr (true, [(0, 0)])), (5, .inr (false, [(4, 4)]))], [], m4h1)] = true := by decide +kernel
/-- MiceRegistersModel.chancesOf -/
def m4c106 : ak_C := (185, [.inl 81, .inr (false, [(1, 1)]), .inr (false, [(12, 12)])], m4h1, [], [([], some (.inr (true, [(0, 0)])), [])])
theorem m4k106 : ai_chk [m4c29, m4c30, m4c31, m4c32] m4c106 (fun pc => sm_ch sm_t185 pc, sm_Kn 3 6 none, fun x => sm_lk sm_ca3 x, some .long) [] 6 0 [5] [] 2000 [(5, [(0, .inl 81), (1, .inr (false, [(1, 1)])), (2, .inr (false, [(12, 12)])), (3, .inr (true, [(1, 1)])), (5, .inr (false, [(0, 0)]))], [], m4h1),
  (5, [(0, .inl 81), (1, .inr (false, [(1, 1)])), (2, .inr (false, [(12, 12)])), (3, .inr (true, [(12, 12)])), (5, .inr (false, [(1, 1)]))], [], m4h1),
  (5, [(0, .inl 81), (1, .inr (false, [(1, 1)])), (2, .inr (false, [(12, 12)])), (3, .inr (true, [(0, 0)])), (5, .inr (false, [(2, 2)]))], [], m4h1),
  (5, [(0, .inl 81), (1, .inr (false, [(1, 1)])), (2, .inr (false, [(12, 12)])), (3, .inr (true, [(0, 0)])), (5, .inr (false, [(3, 3)]))], [], m4h1),
  (5, [(0, .inl 81), (1, .inr (false, [(1, 1)])), (2, .inr (false, [(12, 12)])), (3, .inr (true, [(0, 0)])), (5, .inr (false, [(4, 4)]))], [], m4h1)] = true := by decide +kernel
/-- MiceRegistersModel.chancesOf -/
def m4c107 : ak_C := (185, [.inl 81, .inr (false, [(2, 2)]), .inr (false, [(12, 12)])], m4h1, [], [([], some (.inr (true, [(0, 0)])), [])])
theorem m4k107 : ai_chk [m4c34, m4c35, m4c36, m4c37] m4c107 (fun pc => sm_ch sm_t185 pc, sm_Kn 3 6 none, fun x => sm_lk sm_ca3 x, some .long) [] 6 0 [5] [] 2000 [(5, [(0, .inl 81), (1, .inr (false, [(2, 2)])), (2, .inr (false, [(12, 12)])), (3, .inr (true, [(1, 1)])), (5, .inr (false, [(0, 0)]))], [], m4h1),
  (5, [(0, .inl 81), (1, .inr (false, [(2, 2)])), (2, .inr (false, [(12, 12)])), (3, .inr (true, [(0, 0)])), (5, .inr (false, [(1, 1)]))], [], m4h1),
  (5, [(0, .inl 81), (1, .inr (false, [(2, 2)])), (2, .inr (false, [(12, 12)])), (3, .inr (true, [(0, 0)])), (5, .inr (false, [(2, 2)]))], [], m4h1),
  (5, [(0, .inl 81), (1, .inr (false, [(2, 2)])), (2, .inr (false, [(12, 12)])), (3, .inr (true, [(0, 0)])), (5, .inr (false, [(3, 3)]))], [], m4h1),
  (5, [(0, .inl 81), (1, .inr (false, [(2, 2)])), (2, .inr (false, [(12, 12)])), (3, .inr (true, [(0, 0)])), (5, .inr (false, [(4, 4)]))], [], m4h1)] = true := by decide +kernel
/-- MiceRegistersModel.chancesOf -/
def m4c108 : ak_C := (185, [.inl 81, .inr (false, [(3, 3)]), .inr (false, [(12, 12)])], m4h1, [], [([], some (.inr (true, [(0, 0)])), [])])
theorem m4k108 : ai_chk [m4c39, m4c40, m4c41, m4c42] m4c108 (fun pc => sm_ch sm_t185 pc, sm_Kn 3 6 none, fun x => sm_lk sm_ca3 x, some .long) [] 6 0 [5] [] 2000 [(5, [(0, .inl 81), (1, .inr (false, [(3, 3)])), (2, .inr (false, [(12, 12)])), (3, .inr (true, [(1, 1)])), (5, .inr (false, [(0, 0)]))], [], m4h1),
  (5, [(0, .inl 81), (1, .inr (false, [(3, 3)])), (2, .inr (false, [(12, 12)])), (3, .inr (true, [(12, 12)])), (5, .inr (false, [(1, 1)]))], [], m4h1),
  (5, [(0, .inl 81), (1, .inr (false, [(3, 3)])), (2, .inr (false, [(12, 12)])), (3, .inr (true, [(144, 144)])), (5, .inr (false, [(2, 2)]))], [], m4h1),
  (5, [(0, .inl 81), (1, .inr (false, [(3, 3)])), (2, .inr (false, [(12, 12)])), (3, .inr (true, [(0, 0)])), (5, .inr (false, [(3, 3)]))], [], m4h1),
  (5, [(0, .inl 81), (1, .inr (false, [(3, 3)])), (2, .inr (false, [(12, 12)])), (3, .inr (true, [(0, 0)])), (5, .inr (false, [(4, 4)]))], [], m4h1)] = true := by decide +kernel
/-- MiceRegistersModel.chancesOf -/
def m4c109 : ak_C := (185, [.inl 81, .inr (false, [(4, 4)]), .inr (false, [(12, 12)])], m4h1, [], [([], some (.inr (true, [(0, 0)])), [])])
theorem m4k109 : ai_chk [m4c44, m4c45, m4c46, m4c47] m4c109 (fun pc => sm_ch sm_t185 pc, sm_Kn 3 6 none, fun x => sm_lk sm_ca3 x, some .long) [] 6 0 [5] [] 2000 [(5, [(0, .inl 81), (1, .inr (false, [(4, 4)])), (2, .inr (false, [(12, 12)])), (3, .inr (true, [(1, 1)])), (5, .inr (false, [(0, 0)]))], [], m4h1),
  (5, [(0, .inl 81), (1, .inr (false, [(4, 4)])), (2, .inr (false, [(12, 12)])), (3, .inr (true, [(0, 0)])), (5, .inr (false, [(1, 1)]))], [], m4h1),
  (5, [(0, .inl 81), (1, .inr (false, [(4, 4)])), (2, .inr (false, [(12, 12)])), (3, .inr (true, [(0, 0)])), (5, .inr (false, [(2, 2)]))], [], m4h1),
  (5, [(0, .inl 81), (1, .inr (false, [(4, 4)])), (2, .inr (false, [(12, 12)])), (3, .inr (true, [(0, 0)])), (5, .inr (false, [(3, 3)]))], [], m4h1),
  (5, [(0, .inl 81), (1, .inr (false, [(4, 4)])), (2, .inr (false, [(12, 12)])), (3, .inr (true, [(0, 0)])), (5, .inr (false, [(4, 4)]))], [], m4h1)] = true := by decide +kernel
/-- MiceRegistersModel.chancesOf -/
def m4c110 : ak_C := (185, [.inl 81, .inr (false, [(5, 5)]), .inr (false, [(12, 12)])], m4h1, [], [([], some (.inr (true, [(0, 0)])), [])])
theorem m4k110 : ai_chk [m4c49, m4c50, m4c51, m4c52] m4c110 (fun pc => sm_ch sm_t185 pc, sm_Kn 3 6 none, fun x => sm_lk sm_ca3 x, some .long) [] 6 0 [5] [] 2000 [(5, [(0, .inl 81), (1, .inr (false, [(5, 5)])), (2, .inr (false, [(12, 12)])), (3, .inr (true, [(1, 1)])), (5, .inr (false, [(0, 0)]))], [], m4h1),
  (5, [(0, .inl 81), (1, .inr (false, [(5, 5)])), (2, .inr (false, [(12, 12)])), (3, .inr (true, [(12, 12)])), (5, .inr (false, [(1, 1)]))], [], m4h1),
  (5, [(0, .inl 81), (1, .inr (false, [(5, 5)])), (2, .inr (false, [(12, 12)])), (3, .inr (true, [(0, 0)])), (5, .inr (false, [(2, 2)]))], [], m4h1),
  (5, [(0, .inl 81), (1, .inr (false, [(5, 5)])), (2, .inr (false, [(12, 12)])), (3, .inr (true, [(0, 0)])), (5, .inr (false, [(3, 3)]))], [], m4h1),
  (5, [(0, .inl 81), (1, .inr (false, [(5, 5)])), (2, .inr (false, [(12, 12)])), (3, .inr (true, [(0, 0)])), (5, .inr (false, [(4, 4)]))], [], m4h1)] = true := by decide +kernel
/-- MiceRegistersModel.chancesOf -/
def m4c111 : ak_C := (185, [.inl 81, .inr (false, [(6, 6)]), .inr (false, [(12, 12)])], m4h1, [], [([], some (.inr (true, [(0, 0)])), [])])
theorem m4k111 : ai_chk [m4c54, m4c55, m4c56, m4c57] m4c111 (fun pc => sm_ch sm_t185 pc, sm_Kn 3 6 none, fun x => sm_lk sm_ca3 x, some .long) [] 6 0 [5] [] 2000 [(5, [(0, .inl 81), (1, .inr (false, [(6, 6)])), (2, .inr (false, [(12, 12)])), (3, .inr (true, [(1, 1)])), (5, .inr (false, [(0, 0)]))], [], m4h1),
  (5, [(0, .inl 81), (1, .inr (false, [(6, 6)])), (2, .inr (false, [(12, 12)])), (3, .inr (true, [(0, 0)])), (5, .inr (false, [(1, 1)]))], [], m4h1),
  (5, [(0, .inl 81), (1, .inr (false, [(6, 6)])), (2, .inr (false, [(12, 12)])), (3, .inr (true, [(0, 0)])), (5, .inr (false, [(2, 2)]))], [], m4h1),
  (5, [(0, .inl 81), (1, .inr (false, [(6, 6)])), (2, .inr (false, [(12, 12)])), (3, .inr (true, [(0, 0)])), (5, .inr (false, [(3, 3)]))], [], m4h1),
  (5, [(0, .inl 81), (1, .inr (false, [(6, 6)])), (2, .inr (false, [(12, 12)])), (3, .inr (true, [(0, 0)])), (5, .inr (false, [(4, 4)]))], [], m4h1)] = true := by decide +kernel
/-- MiceRegistersModel.chancesOf -/
def m4c112 : ak_C := (185, [.inl 81, .inr (false, [(7, 7)]), .inr (false, [(12, 12)])], m4h1, [], [([], some (.inr (true, [(0, 0)])), [])])
theorem m4k112 : ai_chk [m4c59, m4c60, m4c61, m4c62] m4c112 (fun pc => sm_ch sm_t185 pc, sm_Kn 3 6 none, fun x => sm_lk sm_ca3 x, some .long) [] 6 0 [5] [] 2000 [(5, [(0, .inl 81), (1, .inr (false, [(7, 7)])), (2, .inr (false, [(12, 12)])), (3, .inr (true, [(1, 1)])), (5, .inr (false, [(0, 0)]))], [], m4h1),
  (5, [(0, .inl 81), (1, .inr (false, [(7, 7)])), (2, .inr (false, [(12, 12)])), (3, .inr (true, [(12, 12)])), (5, .inr (false, [(1, 1)]))], [], m4h1),
  (5, [(0, .inl 81), (1, .inr (false, [(7, 7)])), (2, .inr (false, [(12, 12)])), (3, .inr (true, [(144, 144)])), (5, .inr (false, [(2, 2)]))], [], m4h1),
  (5, [(0, .inl 81), (1, .inr (false, [(7, 7)])), (2, .inr (false, [(12, 12)])), (3, .inr (true, [(1728, 1728)])), (5, .inr (false, [(3, 3)]))], [], m4h1),
  (5, [(0, .inl 81), (1, .inr (false, [(7, 7)])), (2, .inr (false, [(12, 12)])), (3, .inr (true, [(0, 0)])), (5, .inr (false, [(4, 4)]))], [], m4h1)] = true := by decide +kernel
/-- MiceRegistersModel.chancesOf -/
def m4c113 : ak_C := (185, [.inl 81, .inr (false, [(8, 8)]), .inr (false, [(12, 12)])], m4h1, [], [([], some (.inr (true, [(0, 0)])), [])])
theorem m4k113 : ai_chk [m4c64, m4c65, m4c66, m4c67] m4c113 (fun pc => sm_ch sm_t185 pc, sm_Kn 3 6 none, fun x => sm_lk sm_ca3 x, some .long) [] 6 0 [5] [] 2000 [(5, [(0, .inl 81), (1, .inr (false, [(8, 8)])), (2, .inr (false, [(12, 12)])), (3, .inr (true, [(1, 1)])), (5, .inr (false, [(0, 0)]))], [], m4h1),
  (5, [(0, .inl 81), (1, .inr (false, [(8, 8)])), (2, .inr (false, [(12, 12)])), (3, .inr (true, [(0, 0)])), (5, .inr (false, [(1, 1)]))], [], m4h1),
  (5, [(0, .inl 81), (1, .inr (false, [(8, 8)])), (2, .inr (false, [(12, 12)])), (3, .inr (true, [(0, 0)])), (5, .inr (false, [(2, 2)]))], [], m4h1),
  (5, [(0, .inl 81), (1, .inr (false, [(8, 8)])), (2, .inr (false, [(12, 12)])), (3, .inr (true, [(0, 0)])), (5, .inr (false, [(3, 3)]))], [], m4h1),
  (5, [(0, .inl 81), (1, .inr (false, [(8, 8)])), (2, .inr (false, [(12, 12)])), (3, .inr (true, [(0, 0)])), (5, .inr (false, [(4, 4)]))], [], m4h1)] = true := by decide +kernel
/-- MiceRegistersModel.chancesOf -/
def m4c114 : ak_C := (185, [.inl 81, .inr (false, [(9, 9)]), .inr (false, [(12, 12)])], m4h1, [], [([], some (.inr (true, [(0, 0)])), [])])
theorem m4k114 : ai_chk [m4c69, m4c70, m4c71, m4c72] m4c114 (fun pc => sm_ch sm_t185 pc, sm_Kn 3 6 none, fun x => sm_lk sm_ca3 x, some .long) [] 6 0 [5] [] 2000 [(5, [(0, .inl 81), (1, .inr (false, [(9, 9)])), (2, .inr (false, [(12, 12)])), (3, .inr (true, [(1, 1)])), (5, .inr (false, [(0, 0)]))], [], m4h1),
  (5, [(0, .inl 81), (1, .inr (false, [(9, 9)])), (2, .inr (false, [(12, 12)])), (3, .inr (true, [(12, 12)])), (5, .inr (false, [(1, 1)]))], [], m4h1),
  (5, [(0, .inl 81), (1, .inr (false, [(9, 9)])), (2, .inr (false, [(12, 12)])), (3, .inr (true, [(0, 0)])), (5, .inr (false, [(2, 2)]))], [], m4h1),
  (5, [(0, .inl 81), (1, .inr (false, [(9, 9)])), (2, .inr (false, [(12, 12)])), (3, .inr (true, [(0, 0)])), (5, .inr (false, [(3, 3)]))], [], m4h1),
  (5, [(0, .inl 81), (1, .inr (false, [(9, 9)])), (2, .inr (false, [(12, 12)])), (3, .inr (true, [(0, 0)])), (5, .inr (false, [(4, 4)]))], [], m4h1)] = true := by decide +kernel
/-- MiceRegistersModel.chancesOf -/
def m4c115 : ak_C := (185, [.inl 81, .inr (false, [(10, 10)]), .inr (false, [(12, 12)])], m4h1, [], [([], some (.inr (true, [(0, 0)])), [])])
theorem m4k115 : ai_chk [m4c74, m4c75, m4c76, m4c77] m4c115 (fun pc => sm_ch sm_t185 pc, sm_Kn 3 6 none, fun x => sm_lk sm_ca3 x, some .long) [] 6 0 [5] [] 2000 [(5, [(0, .inl 81), (1, .inr (false, [(10, 10)])), (2, .inr (false, [(12, 12)])), (3, .inr (true, [(1, 1)])), (5, .inr (false, [(0, 0)]))], [], m4h1),
  (5, [(0, .inl 81), (1, .inr (false, [(10, 10)])), (2, .inr (false, [(12, 12)])), (3, .inr (true, [(0, 0)])), (5, .inr (false, [(1, 1)]))], [], m4h1),
  (5, [(0, .inl 81), (1, .inr (false, [(10, 10)])), (2, .inr (false, [(12, 12)])), (3, .inr (true, [(0, 0)])), (5, .inr (false, [(2, 2)]))], [], m4h1),
  (5, [(0, .inl 81), (1, .inr (false, [(10, 10)])), (2, .inr (false, [(12, 12)])), (3, .inr (true, [(0, 0)])), (5, .inr (false, [(3, 3)]))], [], m4h1),
  (5, [(0, .inl 81), (1, .inr (false, [(10, 10)])), (2, .inr (false, [(12, 12)])), (3, .inr (true, [(0, 0)])), (5, .inr (false, [(4, 4)]))], [], m4h1)] = true := by decide +kernel
/-- MiceRegistersModel.chancesOf -/
def m4c116 : ak_C := (185, [.inl 81, .inr (false, [(11, 11)]), .inr (false, [(12, 12)])], m4h1, [], [([], some (.inr (true, [(0, 0)])), [])])
theorem m4k116 : ai_chk [m4c79, m4c80, m4c81, m4c82] m4c116 (fun pc => sm_ch sm_t185 pc, sm_Kn 3 6 none, fun x => sm_lk sm_ca3 x, some .long) [] 6 0 [5] [] 2000 [(5, [(0, .inl 81), (1, .inr (false, [(11, 11)])), (2, .inr (false, [(12, 12)])), (3, .inr (true, [(1, 1)])), (5, .inr (false, [(0, 0)]))], [], m4h1),
  (5, [(0, .inl 81), (1, .inr (false, [(11, 11)])), (2, .inr (false, [(12, 12)])), (3, .inr (true, [(12, 12)])), (5, .inr (false, [(1, 1)]))], [], m4h1),
  (5, [(0, .inl 81), (1, .inr (false, [(11, 11)])), (2, .inr (false, [(12, 12)])), (3, .inr (true, [(144, 144)])), (5, .inr (false, [(2, 2)]))], [], m4h1),
  (5, [(0, .inl 81), (1, .inr (false, [(11, 11)])), (2, .inr (false, [(12, 12)])), (3, .inr (true, [(0, 0)])), (5, .inr (false, [(3, 3)]))], [], m4h1),
  (5, [(0, .inl 81), (1, .inr (false, [(11, 11)])), (2, .inr (false, [(12, 12)])), (3, .inr (true, [(0, 0)])), (5, .inr (false, [(4, 4)]))], [], m4h1)] = true := by decide +kernel
/-- MiceRegistersModel.chancesOf -/
def m4c117 : ak_C := (185, [.inl 81, .inr (false, [(12, 12)]), .inr (false, [(12, 12)])], m4h1, [], [([], some (.inr (true, [(0, 0)])), [])])
theorem m4k117 : ai_chk [m4c84, m4c85, m4c86, m4c87] m4c117 (fun pc => sm_ch sm_t185 pc, sm_Kn 3 6 none, fun x => sm_lk sm_ca3 x, some .long) [] 6 0 [5] [] 2000 [(5, [(0, .inl 81), (1, .inr (false, [(12, 12)])), (2, .inr (false, [(12, 12)])), (3, .inr (true, [(1, 1)])), (5, .inr (false, [(0, 0)]))], [], m4h1),
  (5, [(0, .inl 81), (1, .inr (false, [(12, 12)])), (2, .inr (false, [(12, 12)])), (3, .inr (true, [(0, 0)])), (5, .inr (false, [(1, 1)]))], [], m4h1),
  (5, [(0, .inl 81), (1, .inr (false, [(12, 12)])), (2, .inr (false, [(12, 12)])), (3, .inr (true, [(0, 0)])), (5, .inr (false, [(2, 2)]))], [], m4h1),
  (5, [(0, .inl 81), (1, .inr (false, [(12, 12)])), (2, .inr (false, [(12, 12)])), (3, .inr (true, [(0, 0)])), (5, .inr (false, [(3, 3)]))], [], m4h1),
  (5, [(0, .inl 81), (1, .inr (false, [(12, 12)])), (2, .inr (false, [(12, 12)])), (3, .inr (true, [(0, 0)])), (5, .inr (false, [(4, 4)]))], [], m4h1)] = true := by decide +kernel
/-- MiceRegistersModel.chancesOf -/
def m4c118 : ak_C := (185, [.inl 81, .inr (false, [(13, 13)]), .inr (false, [(12, 12)])], m4h1, [], [([], some (.inr (true, [(0, 0)])), [])])
theorem m4k118 : ai_chk [m4c89, m4c90, m4c91, m4c92] m4c118 (fun pc => sm_ch sm_t185 pc, sm_Kn 3 6 none, fun x => sm_lk sm_ca3 x, some .long) [] 6 0 [5] [] 2000 [(5, [(0, .inl 81), (1, .inr (false, [(13, 13)])), (2, .inr (false, [(12, 12)])), (3, .inr (true, [(1, 1)])), (5, .inr (false, [(0, 0)]))], [], m4h1),
  (5, [(0, .inl 81), (1, .inr (false, [(13, 13)])), (2, .inr (false, [(12, 12)])), (3, .inr (true, [(12, 12)])), (5, .inr (false, [(1, 1)]))], [], m4h1),
  (5, [(0, .inl 81), (1, .inr (false, [(13, 13)])), (2, .inr (false, [(12, 12)])), (3, .inr (true, [(0, 0)])), (5, .inr (false, [(2, 2)]))], [], m4h1),
  (5, [(0, .inl 81), (1, .inr (false, [(13, 13)])), (2, .inr (false, [(12, 12)])), (3, .inr (true, [(0, 0)])), (5, .inr (false, [(3, 3)]))], [], m4h1),
  (5, [(0, .inl 81), (1, .inr (false, [(13, 13)])), (2, .inr (false, [(12, 12)])), (3, .inr (true, [(0, 0)])), (5, .inr (false, [(4, 4)]))], [], m4h1)] = true := by decide +kernel
/-- MiceRegistersModel.chancesOf -/
def m4c119 : ak_C := (185, [.inl 81, .inr (false, [(14, 14)]), .inr (false, [(12, 12)])], m4h1, [], [([], some (.inr (true, [(0, 0)])), [])])
theorem m4k119 : ai_chk [m4c94, m4c95, m4c96, m4c97] m4c119 (fun pc => sm_ch sm_t185 pc, sm_Kn 3 6 none, fun x => sm_lk sm_ca3 x, some .long) [] 6 0 [5] [] 2000 [(5, [(0, .inl 81), (1, .inr (false, [(14, 14)])), (2, .inr (false, [(12, 12)])), (3, .inr (true, [(1, 1)])), (5, .inr (false, [(0, 0)]))], [], m4h1),
  (5, [(0, .inl 81), (1, .inr (false, [(14, 14)])), (2, .inr (false, [(12, 12)])), (3, .inr (true, [(0, 0)])), (5, .inr (false, [(1, 1)]))], [], m4h1),
  (5, [(0, .inl 81), (1, .inr (false, [(14, 14)])), (2, .inr (false, [(12, 12)])), (3, .inr (true, [(0, 0)])), (5, .inr (false, [(2, 2)]))], [], m4h1),
  (5, [(0, .inl 81), (1, .inr (false, [(14, 14)])), (2, .inr (false, [(12, 12)])), (3, .inr (true, [(0, 0)])), (5, .inr (false, [(3, 3)]))], [], m4h1),
  (5, [(0, .inl 81), (1, .inr (false, [(14, 14)])), (2, .inr (false, [(12, 12)])), (3, .inr (true, [(0, 0)])), (5, .inr (false, [(4, 4)]))], [], m4h1)] = true := by decide +kernel
/-- MiceRegistersModel.chancesOf -/
def m4c120 : ak_C := (185, [.inl 81, .inr (false, [(15, 15)]), .inr (false, [(12, 12)])], m4h1, [], [([], some (.inr (true, [(20736, 20736)])), [])])
theorem m4k120 : ai_chk [m4c99, m4c100, m4c101, m4c102] m4c120 (fun pc => sm_ch sm_t185 pc, sm_Kn 3 6 none, fun x => sm_lk sm_ca3 x, some .long) [] 6 0 [5] [] 2000 [(5, [(0, .inl 81), (1, .inr (false, [(15, 15)])), (2, .inr (false, [(12, 12)])), (3, .inr (true, [(1, 1)])), (5, .inr (false, [(0, 0)]))], [], m4h1),
  (5, [(0, .inl 81), (1, .inr (false, [(15, 15)])), (2, .inr (false, [(12, 12)])), (3, .inr (true, [(12, 12)])), (5, .inr (false, [(1, 1)]))], [], m4h1),
  (5, [(0, .inl 81), (1, .inr (false, [(15, 15)])), (2, .inr (false, [(12, 12)])), (3, .inr (true, [(144, 144)])), (5, .inr (false, [(2, 2)]))], [], m4h1),
  (5, [(0, .inl 81), (1, .inr (false, [(15, 15)])), (2, .inr (false, [(12, 12)])), (3, .inr (true, [(1728, 1728)])), (5, .inr (false, [(3, 3)]))], [], m4h1),
  (5, [(0, .inl 81), (1, .inr (false, [(15, 15)])), (2, .inr (false, [(12, 12)])), (3, .inr (true, [(20736, 20736)])), (5, .inr (false, [(4, 4)]))], [], m4h1)] = true := by decide +kernel
def m4h74 : aw_H := [(81, m4x0), (82, ms_r [(0, [(-1, 40)]), (3788, ar_t32)])]
/-- MiceRegistersModel.odds -/
def m4c121 : ak_C := (184, [.inl 81, .inr (false, ar_t32), .inr (false, ar_t32)], m4h58, [81, 82], [([[], [], []], some (.inr (false, [(-1, -1)])), m4h28), ([[], [(0, 7)], [(0, 12)]], some (.inr (false, [(1, 1)])), m4h74)])
def m4h75 : aw_H := [(81, m4x0), (82, ms_r [(0, [(-1, 40)]), (3788, ar_t32)]), (83, .inr (.inl (0, 8, [], []))), (85, .inr (.inl (0, 4, [], []))), (86, m4x3)]
set_option maxRecDepth 100000 in
theorem m4k121 : ai_chk [m4c16, m4c17, m4c22, m4c23, m4c28, m4c33, m4c38, m4c43, m4c48, m4c53, m4c58, m4c63, m4c68, m4c73, m4c78, m4c83, m4c88, m4c93, m4c98, m4c103, m4c104, m4c105, m4c106, m4c107, m4c108, m4c109, m4c110, m4c111, m4c112, m4c113, m4c114, m4c115, m4c116, m4c117, m4c118, m4c119, m4c120] m4c121 (fun pc => sm_ch sm_t184 pc, sm_Kn 3 10 none, fun x => sm_lk sm_ca3 x, some .int) [81, 82] 10 3 [30] [(22, some (0, 2, 0), 12, 1)] 2000 [(30, [(0, .inl 81), (1, .inr (false, [(0, 7)])), (2, .inr (false, [(0, 11)])), (3, .inr (true, [(0, 0)])), (5, .inr (true, [(0, 0)])), (7, .inr (false, [(0, 0)]))], [], m4h58),
  (30, [(0, .inl 81), (1, .inr (false, [(0, 7)])), (2, .inr (false, [(0, 11)])), (3, .inr (true, [(0, 20736)])), (5, .inr (true, [(1, 20736)])), (7, .inr (false, [(1, 1)])), (8, .inr (true, [(1, 20736)]))], [], m4h75),
  (30, [(0, .inl 81), (1, .inr (false, [(0, 7)])), (2, .inr (false, [(0, 11)])), (3, .inr (true, [(0, 39744)])), (5, .inr (true, [(1, 39744)])), (7, .inr (false, [(2, 2)])), (8, .inr (true, [(0, 19008)]))], [], m4h75),
  (30, [(0, .inl 81), (1, .inr (false, [(0, 7)])), (2, .inr (false, [(0, 11)])), (3, .inr (true, [(0, 58752)])), (5, .inr (true, [(1, 58752)])), (7, .inr (false, [(3, 3)])), (8, .inr (true, [(0, 19008)]))], [], m4h75),
  (30, [(0, .inl 81), (1, .inr (false, [(0, 7)])), (2, .inr (false, [(0, 11)])), (3, .inr (true, [(0, 76176)])), (5, .inr (true, [(1, 76176)])), (7, .inr (false, [(4, 4)])), (8, .inr (true, [(0, 17424)]))], [], m4h75),
  (30, [(0, .inl 81), (1, .inr (false, [(0, 7)])), (2, .inr (false, [(0, 11)])), (3, .inr (true, [(0, 95184)])), (5, .inr (true, [(1, 95184)])), (7, .inr (false, [(5, 5)])), (8, .inr (true, [(0, 19008)]))], [], m4h75),
  (30, [(0, .inl 81), (1, .inr (false, [(0, 7)])), (2, .inr (false, [(0, 11)])), (3, .inr (true, [(0, 112608)])), (5, .inr (true, [(1, 112608)])), (7, .inr (false, [(6, 6)])), (8, .inr (true, [(0, 17424)]))], [], m4h75),
  (30, [(0, .inl 81), (1, .inr (false, [(0, 7)])), (2, .inr (false, [(0, 11)])), (3, .inr (true, [(0, 130032)])), (5, .inr (true, [(1, 130032)])), (7, .inr (false, [(7, 7)])), (8, .inr (true, [(0, 17424)]))], [], m4h75),
  (30, [(0, .inl 81), (1, .inr (false, [(0, 7)])), (2, .inr (false, [(0, 11)])), (3, .inr (true, [(0, 146004)])), (5, .inr (true, [(1, 146004)])), (7, .inr (false, [(8, 8)])), (8, .inr (true, [(0, 15972)]))], [], m4h75),
  (30, [(0, .inl 81), (1, .inr (false, [(0, 7)])), (2, .inr (false, [(0, 11)])), (3, .inr (true, [(0, 165012)])), (5, .inr (true, [(1, 165012)])), (7, .inr (false, [(9, 9)])), (8, .inr (true, [(0, 19008)]))], [], m4h75),
  (30, [(0, .inl 81), (1, .inr (false, [(0, 7)])), (2, .inr (false, [(0, 11)])), (3, .inr (true, [(0, 182436)])), (5, .inr (true, [(1, 182436)])), (7, .inr (false, [(10, 10)])), (8, .inr (true, [(0, 17424)]))], [], m4h75),
  (30, [(0, .inl 81), (1, .inr (false, [(0, 7)])), (2, .inr (false, [(0, 11)])), (3, .inr (true, [(0, 199860)])), (5, .inr (true, [(1, 199860)])), (7, .inr (false, [(11, 11)])), (8, .inr (true, [(0, 17424)]))], [], m4h75),
  (30, [(0, .inl 81), (1, .inr (false, [(0, 7)])), (2, .inr (false, [(0, 11)])), (3, .inr (true, [(0, 215832)])), (5, .inr (true, [(1, 215832)])), (7, .inr (false, [(12, 12)])), (8, .inr (true, [(0, 15972)]))], [], m4h75),
  (30, [(0, .inl 81), (1, .inr (false, [(0, 7)])), (2, .inr (false, [(0, 11)])), (3, .inr (true, [(0, 233256)])), (5, .inr (true, [(1, 233256)])), (7, .inr (false, [(13, 13)])), (8, .inr (true, [(0, 17424)]))], [], m4h75),
  (30, [(0, .inl 81), (1, .inr (false, [(0, 7)])), (2, .inr (false, [(0, 11)])), (3, .inr (true, [(0, 249228)])), (5, .inr (true, [(1, 249228)])), (7, .inr (false, [(14, 14)])), (8, .inr (true, [(0, 15972)]))], [], m4h75),
  (30, [(0, .inl 81), (1, .inr (false, [(0, 7)])), (2, .inr (false, [(0, 11)])), (3, .inr (true, [(0, 265200)])), (5, .inr (true, [(1, 265200)])), (7, .inr (false, [(15, 15)])), (8, .inr (true, [(0, 15972)]))], [], m4h75),
  (30, [(0, .inl 81), (1, .inr (false, [(0, 7)])), (2, .inr (false, [(0, 11)])), (3, .inr (true, [(0, 279841)])), (5, .inr (true, [(1, 279841)])), (7, .inr (false, [(16, 16)])), (8, .inr (true, [(0, 14641)]))], [], m4h75),
  (30, [(0, .inl 81), (1, .inr (false, [(0, 7)])), (2, .inr (false, [(12, 12)])), (3, .inr (true, [(0, 0)])), (5, .inr (true, [(0, 0)])), (7, .inr (false, [(0, 0)]))], [], m4h58),
  (30, [(0, .inl 81), (1, .inr (false, [(0, 7)])), (2, .inr (false, [(12, 12)])), (3, .inr (true, [(0, 0)])), (5, .inr (true, [(0, 0)])), (7, .inr (false, [(1, 1)])), (8, .inr (true, [(0, 0)]))], [], m4h75),
  (30, [(0, .inl 81), (1, .inr (false, [(0, 7)])), (2, .inr (false, [(12, 12)])), (3, .inr (true, [(0, 0)])), (5, .inr (true, [(0, 0)])), (7, .inr (false, [(2, 2)])), (8, .inr (true, [(0, 0)]))], [], m4h75),
  (30, [(0, .inl 81), (1, .inr (false, [(0, 7)])), (2, .inr (false, [(12, 12)])), (3, .inr (true, [(0, 0)])), (5, .inr (true, [(0, 0)])), (7, .inr (false, [(3, 3)])), (8, .inr (true, [(0, 0)]))], [], m4h75),
  (30, [(0, .inl 81), (1, .inr (false, [(0, 7)])), (2, .inr (false, [(12, 12)])), (3, .inr (true, [(0, 0)])), (5, .inr (true, [(0, 0)])), (7, .inr (false, [(4, 4)])), (8, .inr (true, [(0, 0)]))], [], m4h75),
  (30, [(0, .inl 81), (1, .inr (false, [(0, 7)])), (2, .inr (false, [(12, 12)])), (3, .inr (true, [(0, 0)])), (5, .inr (true, [(0, 0)])), (7, .inr (false, [(5, 5)])), (8, .inr (true, [(0, 0)]))], [], m4h75),
  (30, [(0, .inl 81), (1, .inr (false, [(0, 7)])), (2, .inr (false, [(12, 12)])), (3, .inr (true, [(0, 0)])), (5, .inr (true, [(0, 0)])), (7, .inr (false, [(6, 6)])), (8, .inr (true, [(0, 0)]))], [], m4h75),
  (30, [(0, .inl 81), (1, .inr (false, [(0, 7)])), (2, .inr (false, [(12, 12)])), (3, .inr (true, [(0, 0)])), (5, .inr (true, [(0, 0)])), (7, .inr (false, [(7, 7)])), (8, .inr (true, [(0, 0)]))], [], m4h75),
  (30, [(0, .inl 81), (1, .inr (false, [(0, 7)])), (2, .inr (false, [(12, 12)])), (3, .inr (true, [(0, 0)])), (5, .inr (true, [(0, 0)])), (7, .inr (false, [(8, 8)])), (8, .inr (true, [(0, 0)]))], [], m4h75),
  (30, [(0, .inl 81), (1, .inr (false, [(0, 7)])), (2, .inr (false, [(12, 12)])), (3, .inr (true, [(0, 0)])), (5, .inr (true, [(0, 0)])), (7, .inr (false, [(9, 9)])), (8, .inr (true, [(0, 0)]))], [], m4h75),
  (30, [(0, .inl 81), (1, .inr (false, [(0, 7)])), (2, .inr (false, [(12, 12)])), (3, .inr (true, [(0, 0)])), (5, .inr (true, [(0, 0)])), (7, .inr (false, [(10, 10)])), (8, .inr (true, [(0, 0)]))], [], m4h75),
  (30, [(0, .inl 81), (1, .inr (false, [(0, 7)])), (2, .inr (false, [(12, 12)])), (3, .inr (true, [(0, 0)])), (5, .inr (true, [(0, 0)])), (7, .inr (false, [(11, 11)])), (8, .inr (true, [(0, 0)]))], [], m4h75),
  (30, [(0, .inl 81), (1, .inr (false, [(0, 7)])), (2, .inr (false, [(12, 12)])), (3, .inr (true, [(0, 0)])), (5, .inr (true, [(0, 0)])), (7, .inr (false, [(12, 12)])), (8, .inr (true, [(0, 0)]))], [], m4h75),
  (30, [(0, .inl 81), (1, .inr (false, [(0, 7)])), (2, .inr (false, [(12, 12)])), (3, .inr (true, [(0, 0)])), (5, .inr (true, [(0, 0)])), (7, .inr (false, [(13, 13)])), (8, .inr (true, [(0, 0)]))], [], m4h75),
  (30, [(0, .inl 81), (1, .inr (false, [(0, 7)])), (2, .inr (false, [(12, 12)])), (3, .inr (true, [(0, 0)])), (5, .inr (true, [(0, 0)])), (7, .inr (false, [(14, 14)])), (8, .inr (true, [(0, 0)]))], [], m4h75),
  (30, [(0, .inl 81), (1, .inr (false, [(0, 7)])), (2, .inr (false, [(12, 12)])), (3, .inr (true, [(0, 0)])), (5, .inr (true, [(0, 0)])), (7, .inr (false, [(15, 15)])), (8, .inr (true, [(0, 0)]))], [], m4h75),
  (30, [(0, .inl 81), (1, .inr (false, [(0, 7)])), (2, .inr (false, [(12, 12)])), (3, .inr (true, [(0, 0), (20736, 20736)])), (5, .inr (true, [(20736, 20736)])), (7, .inr (false, [(16, 16)])), (8, .inr (true, [(20736, 20736)]))], [], m4h75)] = true := by decide +kernel


