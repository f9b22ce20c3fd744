/-- MiceRegistersModel.has -/
def m4c50 : ak_C := (135, [.inr (false, [(5, 5)]), .inr (false, [(1, 1)])], [], [], [([], some (.inr (false, [(0, 0)])), [])])
theorem m4k50 : ai_chk [] m4c50 (fun pc => sm_ch sm_t135 pc, sm_Kn 3 2 none, fun x => sm_lk sm_ca3 x, some .boolean) [] 2 0 [] [] 2000 [] = true := by decide +kernel
/-- MiceRegistersModel.has -/
def m4c51 : ak_C := (135, [.inr (false, [(5, 5)]), .inr (false, [(2, 2)])], [], [], [([], some (.inr (false, [(1, 1)])), [])])
theorem m4k51 : ai_chk [] m4c51 (fun pc => sm_ch sm_t135 pc, sm_Kn 3 2 none, fun x => sm_lk sm_ca3 x, some .boolean) [] 2 0 [] [] 2000 [] = true := by decide +kernel
/-- MiceRegistersModel.has -/
def m4c52 : ak_C := (135, [.inr (false, [(5, 5)]), .inr (false, [(3, 3)])], [], [], [([], some (.inr (false, [(0, 0)])), [])])
theorem m4k52 : ai_chk [] m4c52 (fun pc => sm_ch sm_t135 pc, sm_Kn 3 2 none, fun x => sm_lk sm_ca3 x, some .boolean) [] 2 0 [] [] 2000 [] = true := by decide +kernel
/-- MiceRegistersModel.chancesOf -/
def m4c53 : ak_C := (185, [.inl 81, .inr (false, [(5, 5)]), .inr (false, [(0, 11)])], m4h1, [], [([], some (.inr (true, [(0, 17424)])), [])])
theorem m4k53 : ai_chk [m4c49, m4c50, m4c51, m4c52] m4c53 (fun pc => sm_ch sm_t185 pc, sm_Kn 3 6 none, fun x => sm_lk sm_ca3 x, some .long) [] 6 0 [5] [] 2000 [(5, [(0, .inl 81), (1, .inr (false, [(5, 5)])), (2, .inr (false, [(0, 11)])), (3, .inr (true, [(1, 1)])), (5, .inr (false, [(0, 0)]))], [], m4h1),
  (5, [(0, .inl 81), (1, .inr (false, [(5, 5)])), (2, .inr (false, [(0, 11)])), (3, .inr (true, [(0, 11)])), (5, .inr (false, [(1, 1)]))], [], m4h1),
  (5, [(0, .inl 81), (1, .inr (false, [(5, 5)])), (2, .inr (false, [(0, 11)])), (3, .inr (true, [(0, 132)])), (5, .inr (false, [(2, 2)]))], [], m4h1),
  (5, [(0, .inl 81), (1, .inr (false, [(5, 5)])), (2, .inr (false, [(0, 11)])), (3, .inr (true, [(0, 1452)])), (5, .inr (false, [(3, 3)]))], [], m4h1),
  (5, [(0, .inl 81), (1, .inr (false, [(5, 5)])), (2, .inr (false, [(0, 11)])), (3, .inr (true, [(0, 17424)])), (5, .inr (false, [(4, 4)]))], [], m4h1)] = true := by decide +kernel
/-- MiceRegistersModel.has -/
def m4c54 : ak_C := (135, [.inr (false, [(6, 6)]), .inr (false, [(0, 0)])], [], [], [([], some (.inr (false, [(0, 0)])), [])])
theorem m4k54 : ai_chk [] m4c54 (fun pc => sm_ch sm_t135 pc, sm_Kn 3 2 none, fun x => sm_lk sm_ca3 x, some .boolean) [] 2 0 [] [] 2000 [] = true := by decide +kernel
/-- MiceRegistersModel.has -/
def m4c55 : ak_C := (135, [.inr (false, [(6, 6)]), .inr (false, [(1, 1)])], [], [], [([], some (.inr (false, [(1, 1)])), [])])
theorem m4k55 : ai_chk [] m4c55 (fun pc => sm_ch sm_t135 pc, sm_Kn 3 2 none, fun x => sm_lk sm_ca3 x, some .boolean) [] 2 0 [] [] 2000 [] = true := by decide +kernel
/-- MiceRegistersModel.has -/
def m4c56 : ak_C := (135, [.inr (false, [(6, 6)]), .inr (false, [(2, 2)])], [], [], [([], some (.inr (false, [(1, 1)])), [])])
theorem m4k56 : ai_chk [] m4c56 (fun pc => sm_ch sm_t135 pc, sm_Kn 3 2 none, fun x => sm_lk sm_ca3 x, some .boolean) [] 2 0 [] [] 2000 [] = true := by decide +kernel
/-- MiceRegistersModel.has -/
def m4c57 : ak_C := (135, [.inr (false, [(6, 6)]), .inr (false, [(3, 3)])], [], [], [([], some (.inr (false, [(0, 0)])), [])])
theorem m4k57 : ai_chk [] m4c57 (fun pc => sm_ch sm_t135 pc, sm_Kn 3 2 none, fun x => sm_lk sm_ca3 x, some .boolean) [] 2 0 [] [] 2000 [] = true := by decide +kernel
/-- MiceRegistersModel.chancesOf -/
def m4c58 : ak_C := (185, [.inl 81, .inr (false, [(6, 6)]), .inr (false, [(0, 11)])], m4h1, [], [([], some (.inr (true, [(0, 17424)])), [])])
theorem m4k58 : ai_chk [m4c54, m4c55, m4c56, m4c57] m4c58 (fun pc => sm_ch sm_t185 pc, sm_Kn 3 6 none, fun x => sm_lk sm_ca3 x, some .long) [] 6 0 [5] [] 2000 [(5, [(0, .inl 81), (1, .inr (false, [(6, 6)])), (2, .inr (false, [(0, 11)])), (3, .inr (true, [(1, 1)])), (5, .inr (false, [(0, 0)]))], [], m4h1),
  (5, [(0, .inl 81), (1, .inr (false, [(6, 6)])), (2, .inr (false, [(0, 11)])), (3, .inr (true, [(1, 12)])), (5, .inr (false, [(1, 1)]))], [], m4h1),
  (5, [(0, .inl 81), (1, .inr (false, [(6, 6)])), (2, .inr (false, [(0, 11)])), (3, .inr (true, [(0, 132)])), (5, .inr (false, [(2, 2)]))], [], m4h1),
  (5, [(0, .inl 81), (1, .inr (false, [(6, 6)])), (2, .inr (false, [(0, 11)])), (3, .inr (true, [(0, 1452)])), (5, .inr (false, [(3, 3)]))], [], m4h1),
  (5, [(0, .inl 81), (1, .inr (false, [(6, 6)])), (2, .inr (false, [(0, 11)])), (3, .inr (true, [(0, 17424)])), (5, .inr (false, [(4, 4)]))], [], m4h1)] = true := by decide +kernel
/-- MiceRegistersModel.has -/
def m4c59 : ak_C := (135, [.inr (false, [(7, 7)]), .inr (false, [(0, 0)])], [], [], [([], some (.inr (false, [(1, 1)])), [])])
theorem m4k59 : ai_chk [] m4c59 (fun pc => sm_ch sm_t135 pc, sm_Kn 3 2 none, fun x => sm_lk sm_ca3 x, some .boolean) [] 2 0 [] [] 2000 [] = true := by decide +kernel
/-- MiceRegistersModel.has -/
def m4c60 : ak_C := (135, [.inr (false, [(7, 7)]), .inr (false, [(1, 1)])], [], [], [([], some (.inr (false, [(1, 1)])), [])])
theorem m4k60 : ai_chk [] m4c60 (fun pc => sm_ch sm_t135 pc, sm_Kn 3 2 none, fun x => sm_lk sm_ca3 x, some .boolean) [] 2 0 [] [] 2000 [] = true := by decide +kernel
/-- MiceRegistersModel.has -/
def m4c61 : ak_C := (135, [.inr (false, [(7, 7)]), .inr (false, [(2, 2)])], [], [], [([], some (.inr (false, [(1, 1)])), [])])
theorem m4k61 : ai_chk [] m4c61 (fun pc => sm_ch sm_t135 pc, sm_Kn 3 2 none, fun x => sm_lk sm_ca3 x, some .boolean) [] 2 0 [] [] 2000 [] = true := by decide +kernel
/-- MiceRegistersModel.has -/
def m4c62 : ak_C := (135, [.inr (false, [(7, 7)]), .inr (false, [(3, 3)])], [], [], [([], some (.inr (false, [(0, 0)])), [])])
theorem m4k62 : ai_chk [] m4c62 (fun pc => sm_ch sm_t135 pc, sm_Kn 3 2 none, fun x => sm_lk sm_ca3 x, some .boolean) [] 2 0 [] [] 2000 [] = true := by decide +kernel
/-- MiceRegistersModel.chancesOf -/
def m4c63 : ak_C := (185, [.inl 81, .inr (false, [(7, 7)]), .inr (false, [(0, 11)])], m4h1, [], [([], some (.inr (true, [(0, 15972)])), [])])
theorem m4k63 : ai_chk [m4c59, m4c60, m4c61, m4c62] m4c63 (fun pc => sm_ch sm_t185 pc, sm_Kn 3 6 none, fun x => sm_lk sm_ca3 x, some .long) [] 6 0 [5] [] 2000 [(5, [(0, .inl 81), (1, .inr (false, [(7, 7)])), (2, .inr (false, [(0, 11)])), (3, .inr (true, [(1, 1)])), (5, .inr (false, [(0, 0)]))], [], m4h1),
  (5, [(0, .inl 81), (1, .inr (false, [(7, 7)])), (2, .inr (false, [(0, 11)])), (3, .inr (true, [(0, 11)])), (5, .inr (false, [(1, 1)]))], [], m4h1),
  (5, [(0, .inl 81), (1, .inr (false, [(7, 7)])), (2, .inr (false, [(0, 11)])), (3, .inr (true, [(0, 121)])), (5, .inr (false, [(2, 2)]))], [], m4h1),
  (5, [(0, .inl 81), (1, .inr (false, [(7, 7)])), (2, .inr (false, [(0, 11)])), (3, .inr (true, [(0, 1331)])), (5, .inr (false, [(3, 3)]))], [], m4h1),
  (5, [(0, .inl 81), (1, .inr (false, [(7, 7)])), (2, .inr (false, [(0, 11)])), (3, .inr (true, [(0, 15972)])), (5, .inr (false, [(4, 4)]))], [], m4h1)] = true := by decide +kernel
/-- MiceRegistersModel.has -/
def m4c64 : ak_C := (135, [.inr (false, [(8, 8)]), .inr (false, [(0, 0)])], [], [], [([], some (.inr (false, [(0, 0)])), [])])
theorem m4k64 : ai_chk [] m4c64 (fun pc => sm_ch sm_t135 pc, sm_Kn 3 2 none, fun x => sm_lk sm_ca3 x, some .boolean) [] 2 0 [] [] 2000 [] = true := by decide +kernel
/-- MiceRegistersModel.has -/
def m4c65 : ak_C := (135, [.inr (false, [(8, 8)]), .inr (false, [(1, 1)])], [], [], [([], some (.inr (false, [(0, 0)])), [])])
theorem m4k65 : ai_chk [] m4c65 (fun pc => sm_ch sm_t135 pc, sm_Kn 3 2 none, fun x => sm_lk sm_ca3 x, some .boolean) [] 2 0 [] [] 2000 [] = true := by decide +kernel
/-- MiceRegistersModel.has -/
def m4c66 : ak_C := (135, [.inr (false, [(8, 8)]), .inr (false, [(2, 2)])], [], [], [([], some (.inr (false, [(0, 0)])), [])])
theorem m4k66 : ai_chk [] m4c66 (fun pc => sm_ch sm_t135 pc, sm_Kn 3 2 none, fun x => sm_lk sm_ca3 x, some .boolean) [] 2 0 [] [] 2000 [] = true := by decide +kernel
/-- MiceRegistersModel.has -/
def m4c67 : ak_C := (135, [.inr (false, [(8, 8)]), .inr (false, [(3, 3)])], [], [], [([], some (.inr (false, [(1, 1)])), [])])
theorem m4k67 : ai_chk [] m4c67 (fun pc => sm_ch sm_t135 pc, sm_Kn 3 2 none, fun x => sm_lk sm_ca3 x, some .boolean) [] 2 0 [] [] 2000 [] = true := by decide +kernel
/-- MiceRegistersModel.chancesOf -/
def m4c68 : ak_C := (185, [.inl 81, .inr (false, [(8, 8)]), .inr (false, [(0, 11)])], m4h1, [], [([], some (.inr (true, [(0, 19008)])), [])])
theorem m4k68 : ai_chk [m4c64, m4c65, m4c66, m4c67] m4c68 (fun pc => sm_ch sm_t185 pc, sm_Kn 3 6 none, fun x => sm_lk sm_ca3 x, some .long) [] 6 0 [5] [] 2000 [(5, [(0, .inl 81), (1, .inr (false, [(8, 8)])), (2, .inr (false, [(0, 11)])), (3, .inr (true, [(1, 1)])), (5, .inr (false, [(0, 0)]))], [], m4h1),
  (5, [(0, .inl 81), (1, .inr (false, [(8, 8)])), (2, .inr (false, [(0, 11)])), (3, .inr (true, [(1, 12)])), (5, .inr (false, [(1, 1)]))], [], m4h1),
  (5, [(0, .inl 81), (1, .inr (false, [(8, 8)])), (2, .inr (false, [(0, 11)])), (3, .inr (true, [(1, 144)])), (5, .inr (false, [(2, 2)]))], [], m4h1),
  (5, [(0, .inl 81), (1, .inr (false, [(8, 8)])), (2, .inr (false, [(0, 11)])), (3, .inr (true, [(1, 1728)])), (5, .inr (false, [(3, 3)]))], [], m4h1),
  (5, [(0, .inl 81), (1, .inr (false, [(8, 8)])), (2, .inr (false, [(0, 11)])), (3, .inr (true, [(0, 19008)])), (5, .inr (false, [(4, 4)]))], [], m4h1)] = true := by decide +kernel
/-- MiceRegistersModel.has -/
def m4c69 : ak_C := (135, [.inr (false, [(9, 9)]), .inr (false, [(0, 0)])], [], [], [([], some (.inr (false, [(1, 1)])), [])])
theorem m4k69 : ai_chk [] m4c69 (fun pc => sm_ch sm_t135 pc, sm_Kn 3 2 none, fun x => sm_lk sm_ca3 x, some .boolean) [] 2 0 [] [] 2000 [] = true := by decide +kernel
/-- MiceRegistersModel.has -/
def m4c70 : ak_C := (135, [.inr (false, [(9, 9)]), .inr (false, [(1, 1)])], [], [], [([], some (.inr (false, [(0, 0)])), [])])
theorem m4k70 : ai_chk [] m4c70 (fun pc => sm_ch sm_t135 pc, sm_Kn 3 2 none, fun x => sm_lk sm_ca3 x, some .boolean) [] 2 0 [] [] 2000 [] = true := by decide +kernel
/-- MiceRegistersModel.has -/
def m4c71 : ak_C := (135, [.inr (false, [(9, 9)]), .inr (false, [(2, 2)])], [], [], [([], some (.inr (false, [(0, 0)])), [])])
theorem m4k71 : ai_chk [] m4c71 (fun pc => sm_ch sm_t135 pc, sm_Kn 3 2 none, fun x => sm_lk sm_ca3 x, some .boolean) [] 2 0 [] [] 2000 [] = true := by decide +kernel
/-- MiceRegistersModel.has -/
def m4c72 : ak_C := (135, [.inr (false, [(9, 9)]), .inr (false, [(3, 3)])], [], [], [([], some (.inr (false, [(1, 1)])), [])])
theorem m4k72 : ai_chk [] m4c72 (fun pc => sm_ch sm_t135 pc, sm_Kn 3 2 none, fun x => sm_lk sm_ca3 x, some .boolean) [] 2 0 [] [] 2000 [] = true := by decide +kernel
/-- MiceRegistersModel.chancesOf -/
def m4c73 : ak_C := (185, [.inl 81, .inr (false, [(9, 9)]), .inr (false, [(0, 11)])], m4h1, [], [([], some (.inr (true, [(0, 17424)])), [])])
