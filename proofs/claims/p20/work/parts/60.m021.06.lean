theorem m3k53 : ai_chk [] m3c53 (fun pc => sm_ch sm_t135 pc, sm_Kn 3 2 none, fun x => sm_lk sm_ca3 x, some .boolean) [] 2 0 [] [] 2000 [] = true := by decide +kernel
/-- MiceRegistersModel.has -/
def m3c54 : ak_C := (135, [.inr (false, [(7, 7)]), .inr (false, [(2, 2)])], [], [], [([], some (.inr (false, [(1, 1)])), [])])
theorem m3k54 : ai_chk [] m3c54 (fun pc => sm_ch sm_t135 pc, sm_Kn 3 2 none, fun x => sm_lk sm_ca3 x, some .boolean) [] 2 0 [] [] 2000 [] = true := by decide +kernel
/-- MiceRegistersModel.chancesOf -/
def m3c55 : ak_C := (185, [.inl 81, .inr (false, [(7, 7)]), .inr (false, [(0, 11)])], m3h1, [], [([], some (.inr (true, [(0, 1331)])), [])])
theorem m3k55 : ai_chk [m3c52, m3c53, m3c54] m3c55 (fun pc => sm_ch sm_t185 pc, sm_Kn 3 6 none, fun x => sm_lk sm_ca3 x, some .long) [] 6 0 [5] [] 2000 [(5, [(0, .inl 81), (1, .inr (false, [(7, 7)])), (2, .inr (false, [(0, 11)])), (3, .inr (true, [(1, 1)])), (5, .inr (false, [(0, 0)]))], [], m3h1),
  (5, [(0, .inl 81), (1, .inr (false, [(7, 7)])), (2, .inr (false, [(0, 11)])), (3, .inr (true, [(0, 11)])), (5, .inr (false, [(1, 1)]))], [], m3h1),
  (5, [(0, .inl 81), (1, .inr (false, [(7, 7)])), (2, .inr (false, [(0, 11)])), (3, .inr (true, [(0, 121)])), (5, .inr (false, [(2, 2)]))], [], m3h1),
  (5, [(0, .inl 81), (1, .inr (false, [(7, 7)])), (2, .inr (false, [(0, 11)])), (3, .inr (true, [(0, 1331)])), (5, .inr (false, [(3, 3)]))], [], m3h1)] = true := by decide +kernel
/-- MiceRegistersModel.tellParts -/
def m3c56 : ak_C := (186, [.inl 81, .inr (true, [(-72057594037927936, 72057594037927936)]), .inr (true, [(1, 1099511627776)])], m3h1, [81], [([], none, m3h1)])
/-- MiceRegistersModel.chancesOf -/
def m3c57 : ak_C := (185, [.inl 81, .inr (false, [(0, 0)]), .inr (false, [(12, 12)])], m3h1, [], [([], some (.inr (true, [(0, 0)])), [])])
theorem m3k57 : ai_chk [m3c18, m3c19, m3c20] m3c57 (fun pc => sm_ch sm_t185 pc, sm_Kn 3 6 none, fun x => sm_lk sm_ca3 x, some .long) [] 6 0 [5] [] 2000 [(5, [(0, .inl 81), (1, .inr (false, [(0, 0)])), (2, .inr (false, [(12, 12)])), (3, .inr (true, [(1, 1)])), (5, .inr (false, [(0, 0)]))], [], m3h1),
  (5, [(0, .inl 81), (1, .inr (false, [(0, 0)])), (2, .inr (false, [(12, 12)])), (3, .inr (true, [(0, 0)])), (5, .inr (false, [(1, 1)]))], [], m3h1),
  (5, [(0, .inl 81), (1, .inr (false, [(0, 0)])), (2, .inr (false, [(12, 12)])), (3, .inr (true, [(0, 0)])), (5, .inr (false, [(2, 2)]))], [], m3h1),
  (5, [(0, .inl 81), (1, .inr (false, [(0, 0)])), (2, .inr (false, [(12, 12)])), (3, .inr (true, [(0, 0)])), (5, .inr (false, [(3, 3)]))], [], m3h1)] = true := by decide +kernel
/-- MiceRegistersModel.chancesOf -/
def m3c58 : ak_C := (185, [.inl 81, .inr (false, [(1, 1)]), .inr (false, [(12, 12)])], m3h1, [], [([], some (.inr (true, [(0, 0)])), [])])
theorem m3k58 : ai_chk [m3c28, m3c29, m3c30] m3c58 (fun pc => sm_ch sm_t185 pc, sm_Kn 3 6 none, fun x => sm_lk sm_ca3 x, some .long) [] 6 0 [5] [] 2000 [(5, [(0, .inl 81), (1, .inr (false, [(1, 1)])), (2, .inr (false, [(12, 12)])), (3, .inr (true, [(1, 1)])), (5, .inr (false, [(0, 0)]))], [], m3h1),
  (5, [(0, .inl 81), (1, .inr (false, [(1, 1)])), (2, .inr (false, [(12, 12)])), (3, .inr (true, [(12, 12)])), (5, .inr (false, [(1, 1)]))], [], m3h1),
  (5, [(0, .inl 81), (1, .inr (false, [(1, 1)])), (2, .inr (false, [(12, 12)])), (3, .inr (true, [(0, 0)])), (5, .inr (false, [(2, 2)]))], [], m3h1),
  (5, [(0, .inl 81), (1, .inr (false, [(1, 1)])), (2, .inr (false, [(12, 12)])), (3, .inr (true, [(0, 0)])), (5, .inr (false, [(3, 3)]))], [], m3h1)] = true := by decide +kernel
/-- MiceRegistersModel.chancesOf -/
def m3c59 : ak_C := (185, [.inl 81, .inr (false, [(2, 2)]), .inr (false, [(12, 12)])], m3h1, [], [([], some (.inr (true, [(0, 0)])), [])])
theorem m3k59 : ai_chk [m3c32, m3c33, m3c34] m3c59 (fun pc => sm_ch sm_t185 pc, sm_Kn 3 6 none, fun x => sm_lk sm_ca3 x, some .long) [] 6 0 [5] [] 2000 [(5, [(0, .inl 81), (1, .inr (false, [(2, 2)])), (2, .inr (false, [(12, 12)])), (3, .inr (true, [(1, 1)])), (5, .inr (false, [(0, 0)]))], [], m3h1),
  (5, [(0, .inl 81), (1, .inr (false, [(2, 2)])), (2, .inr (false, [(12, 12)])), (3, .inr (true, [(0, 0)])), (5, .inr (false, [(1, 1)]))], [], m3h1),
  (5, [(0, .inl 81), (1, .inr (false, [(2, 2)])), (2, .inr (false, [(12, 12)])), (3, .inr (true, [(0, 0)])), (5, .inr (false, [(2, 2)]))], [], m3h1),
  (5, [(0, .inl 81), (1, .inr (false, [(2, 2)])), (2, .inr (false, [(12, 12)])), (3, .inr (true, [(0, 0)])), (5, .inr (false, [(3, 3)]))], [], m3h1)] = true := by decide +kernel
/-- MiceRegistersModel.chancesOf -/
def m3c60 : ak_C := (185, [.inl 81, .inr (false, [(3, 3)]), .inr (false, [(12, 12)])], m3h1, [], [([], some (.inr (true, [(0, 0)])), [])])
theorem m3k60 : ai_chk [m3c36, m3c37, m3c38] m3c60 (fun pc => sm_ch sm_t185 pc, sm_Kn 3 6 none, fun x => sm_lk sm_ca3 x, some .long) [] 6 0 [5] [] 2000 [(5, [(0, .inl 81), (1, .inr (false, [(3, 3)])), (2, .inr (false, [(12, 12)])), (3, .inr (true, [(1, 1)])), (5, .inr (false, [(0, 0)]))], [], m3h1),
  (5, [(0, .inl 81), (1, .inr (false, [(3, 3)])), (2, .inr (false, [(12, 12)])), (3, .inr (true, [(12, 12)])), (5, .inr (false, [(1, 1)]))], [], m3h1),
  (5, [(0, .inl 81), (1, .inr (false, [(3, 3)])), (2, .inr (false, [(12, 12)])), (3, .inr (true, [(144, 144)])), (5, .inr (false, [(2, 2)]))], [], m3h1),
  (5, [(0, .inl 81), (1, .inr (false, [(3, 3)])), (2, .inr (false, [(12, 12)])), (3, .inr (true, [(0, 0)])), (5, .inr (false, [(3, 3)]))], [], m3h1)] = true := by decide +kernel
/-- MiceRegistersModel.chancesOf -/
def m3c61 : ak_C := (185, [.inl 81, .inr (false, [(4, 4)]), .inr (false, [(12, 12)])], m3h1, [], [([], some (.inr (true, [(0, 0)])), [])])
theorem m3k61 : ai_chk [m3c40, m3c41, m3c42] m3c61 (fun pc => sm_ch sm_t185 pc, sm_Kn 3 6 none, fun x => sm_lk sm_ca3 x, some .long) [] 6 0 [5] [] 2000 [(5, [(0, .inl 81), (1, .inr (false, [(4, 4)])), (2, .inr (false, [(12, 12)])), (3, .inr (true, [(1, 1)])), (5, .inr (false, [(0, 0)]))], [], m3h1),
  (5, [(0, .inl 81), (1, .inr (false, [(4, 4)])), (2, .inr (false, [(12, 12)])), (3, .inr (true, [(0, 0)])), (5, .inr (false, [(1, 1)]))], [], m3h1),
  (5, [(0, .inl 81), (1, .inr (false, [(4, 4)])), (2, .inr (false, [(12, 12)])), (3, .inr (true, [(0, 0)])), (5, .inr (false, [(2, 2)]))], [], m3h1),
  (5, [(0, .inl 81), (1, .inr (false, [(4, 4)])), (2, .inr (false, [(12, 12)])), (3, .inr (true, [(0, 0)])), (5, .inr (false, [(3, 3)]))], [], m3h1)] = true := by decide +kernel
/-- MiceRegistersModel.chancesOf -/
def m3c62 : ak_C := (185, [.inl 81, .inr (false, [(5, 5)]), .inr (false, [(12, 12)])], m3h1, [], [([], some (.inr (true, [(0, 0)])), [])])
theorem m3k62 : ai_chk [m3c44, m3c45, m3c46] m3c62 (fun pc => sm_ch sm_t185 pc, sm_Kn 3 6 none, fun x => sm_lk sm_ca3 x, some .long) [] 6 0 [5] [] 2000 [(5, [(0, .inl 81), (1, .inr (false, [(5, 5)])), (2, .inr (false, [(12, 12)])), (3, .inr (true, [(1, 1)])), (5, .inr (false, [(0, 0)]))], [], m3h1),
  (5, [(0, .inl 81), (1, .inr (false, [(5, 5)])), (2, .inr (false, [(12, 12)])), (3, .inr (true, [(12, 12)])), (5, .inr (false, [(1, 1)]))], [], m3h1),
  (5, [(0, .inl 81), (1, .inr (false, [(5, 5)])), (2, .inr (false, [(12, 12)])), (3, .inr (true, [(0, 0)])), (5, .inr (false, [(2, 2)]))], [], m3h1),
  (5, [(0, .inl 81), (1, .inr (false, [(5, 5)])), (2, .inr (false, [(12, 12)])), (3, .inr (true, [(0, 0)])), (5, .inr (false, [(3, 3)]))], [], m3h1)] = true := by decide +kernel
