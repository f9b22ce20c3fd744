theorem m4k73 : ai_chk [m4c69, m4c70, m4c71, m4c72] m4c73 (fun pc => sm_ch sm_t185 pc, sm_Kn 3 6 none, fun x => sm_lk sm_ca3 x, some .long) [] 6 0 [5] [] 2000 [(5, [(0, .inl 81), (1, .inr (false, [(9, 9)])), (2, .inr (false, [(0, 11)])), (3, .inr (true, [(1, 1)])), (5, .inr (false, [(0, 0)]))], [], m4h1),
  (5, [(0, .inl 81), (1, .inr (false, [(9, 9)])), (2, .inr (false, [(0, 11)])), (3, .inr (true, [(0, 11)])), (5, .inr (false, [(1, 1)]))], [], m4h1),
  (5, [(0, .inl 81), (1, .inr (false, [(9, 9)])), (2, .inr (false, [(0, 11)])), (3, .inr (true, [(0, 132)])), (5, .inr (false, [(2, 2)]))], [], m4h1),
  (5, [(0, .inl 81), (1, .inr (false, [(9, 9)])), (2, .inr (false, [(0, 11)])), (3, .inr (true, [(0, 1584)])), (5, .inr (false, [(3, 3)]))], [], m4h1),
  (5, [(0, .inl 81), (1, .inr (false, [(9, 9)])), (2, .inr (false, [(0, 11)])), (3, .inr (true, [(0, 17424)])), (5, .inr (false, [(4, 4)]))], [], m4h1)] = true := by decide +kernel
/-- MiceRegistersModel.has -/
def m4c74 : ak_C := (135, [.inr (false, [(10, 10)]), .inr (false, [(0, 0)])], [], [], [([], some (.inr (false, [(0, 0)])), [])])
theorem m4k74 : ai_chk [] m4c74 (fun pc => sm_ch sm_t135 pc, sm_Kn 3 2 none, fun x => sm_lk sm_ca3 x, some .boolean) [] 2 0 [] [] 2000 [] = true := by decide +kernel
/-- MiceRegistersModel.has -/
def m4c75 : ak_C := (135, [.inr (false, [(10, 10)]), .inr (false, [(1, 1)])], [], [], [([], some (.inr (false, [(1, 1)])), [])])
theorem m4k75 : ai_chk [] m4c75 (fun pc => sm_ch sm_t135 pc, sm_Kn 3 2 none, fun x => sm_lk sm_ca3 x, some .boolean) [] 2 0 [] [] 2000 [] = true := by decide +kernel
/-- MiceRegistersModel.has -/
def m4c76 : ak_C := (135, [.inr (false, [(10, 10)]), .inr (false, [(2, 2)])], [], [], [([], some (.inr (false, [(0, 0)])), [])])
theorem m4k76 : ai_chk [] m4c76 (fun pc => sm_ch sm_t135 pc, sm_Kn 3 2 none, fun x => sm_lk sm_ca3 x, some .boolean) [] 2 0 [] [] 2000 [] = true := by decide +kernel
/-- MiceRegistersModel.has -/
def m4c77 : ak_C := (135, [.inr (false, [(10, 10)]), .inr (false, [(3, 3)])], [], [], [([], some (.inr (false, [(1, 1)])), [])])
theorem m4k77 : ai_chk [] m4c77 (fun pc => sm_ch sm_t135 pc, sm_Kn 3 2 none, fun x => sm_lk sm_ca3 x, some .boolean) [] 2 0 [] [] 2000 [] = true := by decide +kernel
/-- MiceRegistersModel.chancesOf -/
def m4c78 : ak_C := (185, [.inl 81, .inr (false, [(10, 10)]), .inr (false, [(0, 11)])], m4h1, [], [([], some (.inr (true, [(0, 17424)])), [])])
theorem m4k78 : ai_chk [m4c74, m4c75, m4c76, m4c77] m4c78 (fun pc => sm_ch sm_t185 pc, sm_Kn 3 6 none, fun x => sm_lk sm_ca3 x, some .long) [] 6 0 [5] [] 2000 [(5, [(0, .inl 81), (1, .inr (false, [(10, 10)])), (2, .inr (false, [(0, 11)])), (3, .inr (true, [(1, 1)])), (5, .inr (false, [(0, 0)]))], [], m4h1),
  (5, [(0, .inl 81), (1, .inr (false, [(10, 10)])), (2, .inr (false, [(0, 11)])), (3, .inr (true, [(1, 12)])), (5, .inr (false, [(1, 1)]))], [], m4h1),
  (5, [(0, .inl 81), (1, .inr (false, [(10, 10)])), (2, .inr (false, [(0, 11)])), (3, .inr (true, [(0, 132)])), (5, .inr (false, [(2, 2)]))], [], m4h1),
  (5, [(0, .inl 81), (1, .inr (false, [(10, 10)])), (2, .inr (false, [(0, 11)])), (3, .inr (true, [(0, 1584)])), (5, .inr (false, [(3, 3)]))], [], m4h1),
  (5, [(0, .inl 81), (1, .inr (false, [(10, 10)])), (2, .inr (false, [(0, 11)])), (3, .inr (true, [(0, 17424)])), (5, .inr (false, [(4, 4)]))], [], m4h1)] = true := by decide +kernel
/-- MiceRegistersModel.has -/
def m4c79 : ak_C := (135, [.inr (false, [(11, 11)]), .inr (false, [(0, 0)])], [], [], [([], some (.inr (false, [(1, 1)])), [])])
theorem m4k79 : ai_chk [] m4c79 (fun pc => sm_ch sm_t135 pc, sm_Kn 3 2 none, fun x => sm_lk sm_ca3 x, some .boolean) [] 2 0 [] [] 2000 [] = true := by decide +kernel
/-- MiceRegistersModel.has -/
def m4c80 : ak_C := (135, [.inr (false, [(11, 11)]), .inr (false, [(1, 1)])], [], [], [([], some (.inr (false, [(1, 1)])), [])])
theorem m4k80 : ai_chk [] m4c80 (fun pc => sm_ch sm_t135 pc, sm_Kn 3 2 none, fun x => sm_lk sm_ca3 x, some .boolean) [] 2 0 [] [] 2000 [] = true := by decide +kernel
/-- MiceRegistersModel.has -/
def m4c81 : ak_C := (135, [.inr (false, [(11, 11)]), .inr (false, [(2, 2)])], [], [], [([], some (.inr (false, [(0, 0)])), [])])
theorem m4k81 : ai_chk [] m4c81 (fun pc => sm_ch sm_t135 pc, sm_Kn 3 2 none, fun x => sm_lk sm_ca3 x, some .boolean) [] 2 0 [] [] 2000 [] = true := by decide +kernel
/-- MiceRegistersModel.has -/
def m4c82 : ak_C := (135, [.inr (false, [(11, 11)]), .inr (false, [(3, 3)])], [], [], [([], some (.inr (false, [(1, 1)])), [])])
theorem m4k82 : ai_chk [] m4c82 (fun pc => sm_ch sm_t135 pc, sm_Kn 3 2 none, fun x => sm_lk sm_ca3 x, some .boolean) [] 2 0 [] [] 2000 [] = true := by decide +kernel
/-- MiceRegistersModel.chancesOf -/
def m4c83 : ak_C := (185, [.inl 81, .inr (false, [(11, 11)]), .inr (false, [(0, 11)])], m4h1, [], [([], some (.inr (true, [(0, 15972)])), [])])
theorem m4k83 : ai_chk [m4c79, m4c80, m4c81, m4c82] m4c83 (fun pc => sm_ch sm_t185 pc, sm_Kn 3 6 none, fun x => sm_lk sm_ca3 x, some .long) [] 6 0 [5] [] 2000 [(5, [(0, .inl 81), (1, .inr (false, [(11, 11)])), (2, .inr (false, [(0, 11)])), (3, .inr (true, [(1, 1)])), (5, .inr (false, [(0, 0)]))], [], m4h1),
  (5, [(0, .inl 81), (1, .inr (false, [(11, 11)])), (2, .inr (false, [(0, 11)])), (3, .inr (true, [(0, 11)])), (5, .inr (false, [(1, 1)]))], [], m4h1),
  (5, [(0, .inl 81), (1, .inr (false, [(11, 11)])), (2, .inr (false, [(0, 11)])), (3, .inr (true, [(0, 121)])), (5, .inr (false, [(2, 2)]))], [], m4h1),
  (5, [(0, .inl 81), (1, .inr (false, [(11, 11)])), (2, .inr (false, [(0, 11)])), (3, .inr (true, [(0, 1452)])), (5, .inr (false, [(3, 3)]))], [], m4h1),
  (5, [(0, .inl 81), (1, .inr (false, [(11, 11)])), (2, .inr (false, [(0, 11)])), (3, .inr (true, [(0, 15972)])), (5, .inr (false, [(4, 4)]))], [], m4h1)] = true := by decide +kernel
/-- MiceRegistersModel.has -/
def m4c84 : ak_C := (135, [.inr (false, [(12, 12)]), .inr (false, [(0, 0)])], [], [], [([], some (.inr (false, [(0, 0)])), [])])
theorem m4k84 : ai_chk [] m4c84 (fun pc => sm_ch sm_t135 pc, sm_Kn 3 2 none, fun x => sm_lk sm_ca3 x, some .boolean) [] 2 0 [] [] 2000 [] = true := by decide +kernel
/-- MiceRegistersModel.has -/
def m4c85 : ak_C := (135, [.inr (false, [(12, 12)]), .inr (false, [(1, 1)])], [], [], [([], some (.inr (false, [(0, 0)])), [])])
theorem m4k85 : ai_chk [] m4c85 (fun pc => sm_ch sm_t135 pc, sm_Kn 3 2 none, fun x => sm_lk sm_ca3 x, some .boolean) [] 2 0 [] [] 2000 [] = true := by decide +kernel
/-- MiceRegistersModel.has -/
def m4c86 : ak_C := (135, [.inr (false, [(12, 12)]), .inr (false, [(2, 2)])], [], [], [([], some (.inr (false, [(1, 1)])), [])])
theorem m4k86 : ai_chk [] m4c86 (fun pc => sm_ch sm_t135 pc, sm_Kn 3 2 none, fun x => sm_lk sm_ca3 x, some .boolean) [] 2 0 [] [] 2000 [] = true := by decide +kernel
/-- MiceRegistersModel.has -/
def m4c87 : ak_C := (135, [.inr (false, [(12, 12)]), .inr (false, [(3, 3)])], [], [], [([], some (.inr (false, [(1, 1)])), [])])
theorem m4k87 : ai_chk [] m4c87 (fun pc => sm_ch sm_t135 pc, sm_Kn 3 2 none, fun x => sm_lk sm_ca3 x, some .boolean) [] 2 0 [] [] 2000 [] = true := by decide +kernel
/-- MiceRegistersModel.chancesOf -/
def m4c88 : ak_C := (185, [.inl 81, .inr (false, [(12, 12)]), .inr (false, [(0, 11)])], m4h1, [], [([], some (.inr (true, [(0, 17424)])), [])])
theorem m4k88 : ai_chk [m4c84, m4c85, m4c86, m4c87] m4c88 (fun pc => sm_ch sm_t185 pc, sm_Kn 3 6 none, fun x => sm_lk sm_ca3 x, some .long) [] 6 0 [5] [] 2000 [(5, [(0, .inl 81), (1, .inr (false, [(12, 12)])), (2, .inr (false, [(0, 11)])), (3, .inr (true, [(1, 1)])), (5, .inr (false, [(0, 0)]))], [], m4h1),
  (5, [(0, .inl 81), (1, .inr (false, [(12, 12)])), (2, .inr (false, [(0, 11)])), (3, .inr (true, [(1, 12)])), (5, .inr (false, [(1, 1)]))], [], m4h1),
  (5, [(0, .inl 81), (1, .inr (false, [(12, 12)])), (2, .inr (false, [(0, 11)])), (3, .inr (true, [(1, 144)])), (5, .inr (false, [(2, 2)]))], [], m4h1),
  (5, [(0, .inl 81), (1, .inr (false, [(12, 12)])), (2, .inr (false, [(0, 11)])), (3, .inr (true, [(0, 1584)])), (5, .inr (false, [(3, 3)]))], [], m4h1),
  (5, [(0, .inl 81), (1, .inr (false, [(12, 12)])), (2, .inr (false, [(0, 11)])), (3, .inr (true, [(0, 17424)])), (5, .inr (false, [(4, 4)]))], [], m4h1)] = true := by decide +kernel
/-- MiceRegistersModel.has -/
def m4c89 : ak_C := (135, [.inr (false, [(13, 13)]), .inr (false, [(0, 0)])], [], [], [([], some (.inr (false, [(1, 1)])), [])])
theorem m4k89 : ai_chk [] m4c89 (fun pc => sm_ch sm_t135 pc, sm_Kn 3 2 none, fun x => sm_lk sm_ca3 x, some .boolean) [] 2 0 [] [] 2000 [] = true := by decide +kernel
/-- MiceRegistersModel.has -/
def m4c90 : ak_C := (135, [.inr (false, [(13, 13)]), .inr (false, [(1, 1)])], [], [], [([], some (.inr (false, [(0, 0)])), [])])
theorem m4k90 : ai_chk [] m4c90 (fun pc => sm_ch sm_t135 pc, sm_Kn 3 2 none, fun x => sm_lk sm_ca3 x, some .boolean) [] 2 0 [] [] 2000 [] = true := by decide +kernel
/-- MiceRegistersModel.has -/
def m4c91 : ak_C := (135, [.inr (false, [(13, 13)]), .inr (false, [(2, 2)])], [], [], [([], some (.inr (false, [(1, 1)])), [])])
theorem m4k91 : ai_chk [] m4c91 (fun pc => sm_ch sm_t135 pc, sm_Kn 3 2 none, fun x => sm_lk sm_ca3 x, some .boolean) [] 2 0 [] [] 2000 [] = true := by decide +kernel
/-- MiceRegistersModel.has -/
def m4c92 : ak_C := (135, [.inr (false, [(13, 13)]), .inr (false, [(3, 3)])], [], [], [([], some (.inr (false, [(1, 1)])), [])])
theorem m4k92 : ai_chk [] m4c92 (fun pc => sm_ch sm_t135 pc, sm_Kn 3 2 none, fun x => sm_lk sm_ca3 x, some .boolean) [] 2 0 [] [] 2000 [] = true := by decide +kernel
/-- MiceRegistersModel.chancesOf -/
def m4c93 : ak_C := (185, [.inl 81, .inr (false, [(13, 13)]), .inr (false, [(0, 11)])], m4h1, [], [([], some (.inr (true, [(0, 15972)])), [])])
theorem m4k93 : ai_chk [m4c89, m4c90, m4c91, m4c92] m4c93 (fun pc => sm_ch sm_t185 pc, sm_Kn 3 6 none, fun x => sm_lk sm_ca3 x, some .long) [] 6 0 [5] [] 2000 [(5, [(0, .inl 81), (1, .inr (false, [(13, 13)])), (2, .inr (false, [(0, 11)])), (3, .inr (true, [(1, 1)])), (5, .inr (false, [(0, 0)]))], [], m4h1),
  (5, [(0, .inl 81), (1, .inr (false, [(13, 13)])), (2, .inr (false, [(0, 11)])), (3, .inr (true, [(0, 11)])), (5, .inr (false, [(1, 1)]))], [], m4h1),
  (5, [(0, .inl 81), (1, .inr (false, [(13, 13)])), (2, .inr (false, [(0, 11)])), (3, .inr (true, [(0, 132)])), (5, .inr (false, [(2, 2)]))], [], m4h1),
  (5, [(0, .inl 81), (1, .inr (false, [(13, 13)])), (2, .inr (false, [(0, 11)])), (3, .inr (true, [(0, 1452)])), (5, .inr (false, [(3, 3)]))], [], m4h1),
  (5, [(0, .inl 81), (1, .inr (false, [(13, 13)])), (2, .inr (false, [(0, 11)])), (3, .inr (true, [(0, 15972)])), (5, .inr (false, [(4, 4)]))], [], m4h1)] = true := by decide +kernel
