theorem m3k39 : ai_chk [m3c36, m3c37, m3c38] m3c39 (fun pc => sm_ch sm_t185 pc, sm_Kn 3 6 none, fun x => sm_lk sm_ca3 x, some .long) [] 6 0 [5] [] 2000 [(5, [(0, .inl 81), (1, .inr (false, [(3, 3)])), (2, .inr (false, [(0, 11)])), (3, .inr (true, [(1, 1)])), (5, .inr (false, [(0, 0)]))], [], m3h1),
  (5, [(0, .inl 81), (1, .inr (false, [(3, 3)])), (2, .inr (false, [(0, 11)])), (3, .inr (true, [(0, 11)])), (5, .inr (false, [(1, 1)]))], [], m3h1),
  (5, [(0, .inl 81), (1, .inr (false, [(3, 3)])), (2, .inr (false, [(0, 11)])), (3, .inr (true, [(0, 121)])), (5, .inr (false, [(2, 2)]))], [], m3h1),
  (5, [(0, .inl 81), (1, .inr (false, [(3, 3)])), (2, .inr (false, [(0, 11)])), (3, .inr (true, [(0, 1452)])), (5, .inr (false, [(3, 3)]))], [], m3h1)] = true := by decide +kernel
/-- MiceRegistersModel.has -/
def m3c40 : ak_C := (135, [.inr (false, [(4, 4)]), .inr (false, [(0, 0)])], [], [], [([], some (.inr (false, [(0, 0)])), [])])
theorem m3k40 : ai_chk [] m3c40 (fun pc => sm_ch sm_t135 pc, sm_Kn 3 2 none, fun x => sm_lk sm_ca3 x, some .boolean) [] 2 0 [] [] 2000 [] = true := by decide +kernel
/-- MiceRegistersModel.has -/
def m3c41 : ak_C := (135, [.inr (false, [(4, 4)]), .inr (false, [(1, 1)])], [], [], [([], some (.inr (false, [(0, 0)])), [])])
theorem m3k41 : ai_chk [] m3c41 (fun pc => sm_ch sm_t135 pc, sm_Kn 3 2 none, fun x => sm_lk sm_ca3 x, some .boolean) [] 2 0 [] [] 2000 [] = true := by decide +kernel
/-- MiceRegistersModel.has -/
def m3c42 : ak_C := (135, [.inr (false, [(4, 4)]), .inr (false, [(2, 2)])], [], [], [([], some (.inr (false, [(1, 1)])), [])])
theorem m3k42 : ai_chk [] m3c42 (fun pc => sm_ch sm_t135 pc, sm_Kn 3 2 none, fun x => sm_lk sm_ca3 x, some .boolean) [] 2 0 [] [] 2000 [] = true := by decide +kernel
/-- MiceRegistersModel.chancesOf -/
def m3c43 : ak_C := (185, [.inl 81, .inr (false, [(4, 4)]), .inr (false, [(0, 11)])], m3h1, [], [([], some (.inr (true, [(0, 1584)])), [])])
theorem m3k43 : ai_chk [m3c40, m3c41, m3c42] m3c43 (fun pc => sm_ch sm_t185 pc, sm_Kn 3 6 none, fun x => sm_lk sm_ca3 x, some .long) [] 6 0 [5] [] 2000 [(5, [(0, .inl 81), (1, .inr (false, [(4, 4)])), (2, .inr (false, [(0, 11)])), (3, .inr (true, [(1, 1)])), (5, .inr (false, [(0, 0)]))], [], m3h1),
  (5, [(0, .inl 81), (1, .inr (false, [(4, 4)])), (2, .inr (false, [(0, 11)])), (3, .inr (true, [(1, 12)])), (5, .inr (false, [(1, 1)]))], [], m3h1),
  (5, [(0, .inl 81), (1, .inr (false, [(4, 4)])), (2, .inr (false, [(0, 11)])), (3, .inr (true, [(1, 144)])), (5, .inr (false, [(2, 2)]))], [], m3h1),
  (5, [(0, .inl 81), (1, .inr (false, [(4, 4)])), (2, .inr (false, [(0, 11)])), (3, .inr (true, [(0, 1584)])), (5, .inr (false, [(3, 3)]))], [], m3h1)] = true := by decide +kernel
/-- MiceRegistersModel.has -/
def m3c44 : ak_C := (135, [.inr (false, [(5, 5)]), .inr (false, [(0, 0)])], [], [], [([], some (.inr (false, [(1, 1)])), [])])
theorem m3k44 : ai_chk [] m3c44 (fun pc => sm_ch sm_t135 pc, sm_Kn 3 2 none, fun x => sm_lk sm_ca3 x, some .boolean) [] 2 0 [] [] 2000 [] = true := by decide +kernel
/-- MiceRegistersModel.has -/
def m3c45 : ak_C := (135, [.inr (false, [(5, 5)]), .inr (false, [(1, 1)])], [], [], [([], some (.inr (false, [(0, 0)])), [])])
theorem m3k45 : ai_chk [] m3c45 (fun pc => sm_ch sm_t135 pc, sm_Kn 3 2 none, fun x => sm_lk sm_ca3 x, some .boolean) [] 2 0 [] [] 2000 [] = true := by decide +kernel
/-- MiceRegistersModel.has -/
def m3c46 : ak_C := (135, [.inr (false, [(5, 5)]), .inr (false, [(2, 2)])], [], [], [([], some (.inr (false, [(1, 1)])), [])])
theorem m3k46 : ai_chk [] m3c46 (fun pc => sm_ch sm_t135 pc, sm_Kn 3 2 none, fun x => sm_lk sm_ca3 x, some .boolean) [] 2 0 [] [] 2000 [] = true := by decide +kernel
/-- MiceRegistersModel.chancesOf -/
def m3c47 : ak_C := (185, [.inl 81, .inr (false, [(5, 5)]), .inr (false, [(0, 11)])], m3h1, [], [([], some (.inr (true, [(0, 1452)])), [])])
theorem m3k47 : ai_chk [m3c44, m3c45, m3c46] m3c47 (fun pc => sm_ch sm_t185 pc, sm_Kn 3 6 none, fun x => sm_lk sm_ca3 x, some .long) [] 6 0 [5] [] 2000 [(5, [(0, .inl 81), (1, .inr (false, [(5, 5)])), (2, .inr (false, [(0, 11)])), (3, .inr (true, [(1, 1)])), (5, .inr (false, [(0, 0)]))], [], m3h1),
  (5, [(0, .inl 81), (1, .inr (false, [(5, 5)])), (2, .inr (false, [(0, 11)])), (3, .inr (true, [(0, 11)])), (5, .inr (false, [(1, 1)]))], [], m3h1),
  (5, [(0, .inl 81), (1, .inr (false, [(5, 5)])), (2, .inr (false, [(0, 11)])), (3, .inr (true, [(0, 132)])), (5, .inr (false, [(2, 2)]))], [], m3h1),
  (5, [(0, .inl 81), (1, .inr (false, [(5, 5)])), (2, .inr (false, [(0, 11)])), (3, .inr (true, [(0, 1452)])), (5, .inr (false, [(3, 3)]))], [], m3h1)] = true := by decide +kernel
/-- MiceRegistersModel.has -/
def m3c48 : ak_C := (135, [.inr (false, [(6, 6)]), .inr (false, [(0, 0)])], [], [], [([], some (.inr (false, [(0, 0)])), [])])
theorem m3k48 : ai_chk [] m3c48 (fun pc => sm_ch sm_t135 pc, sm_Kn 3 2 none, fun x => sm_lk sm_ca3 x, some .boolean) [] 2 0 [] [] 2000 [] = true := by decide +kernel
/-- MiceRegistersModel.has -/
def m3c49 : ak_C := (135, [.inr (false, [(6, 6)]), .inr (false, [(1, 1)])], [], [], [([], some (.inr (false, [(1, 1)])), [])])
theorem m3k49 : ai_chk [] m3c49 (fun pc => sm_ch sm_t135 pc, sm_Kn 3 2 none, fun x => sm_lk sm_ca3 x, some .boolean) [] 2 0 [] [] 2000 [] = true := by decide +kernel
/-- MiceRegistersModel.has -/
def m3c50 : ak_C := (135, [.inr (false, [(6, 6)]), .inr (false, [(2, 2)])], [], [], [([], some (.inr (false, [(1, 1)])), [])])
theorem m3k50 : ai_chk [] m3c50 (fun pc => sm_ch sm_t135 pc, sm_Kn 3 2 none, fun x => sm_lk sm_ca3 x, some .boolean) [] 2 0 [] [] 2000 [] = true := by decide +kernel
/-- MiceRegistersModel.chancesOf -/
def m3c51 : ak_C := (185, [.inl 81, .inr (false, [(6, 6)]), .inr (false, [(0, 11)])], m3h1, [], [([], some (.inr (true, [(0, 1452)])), [])])
theorem m3k51 : ai_chk [m3c48, m3c49, m3c50] m3c51 (fun pc => sm_ch sm_t185 pc, sm_Kn 3 6 none, fun x => sm_lk sm_ca3 x, some .long) [] 6 0 [5] [] 2000 [(5, [(0, .inl 81), (1, .inr (false, [(6, 6)])), (2, .inr (false, [(0, 11)])), (3, .inr (true, [(1, 1)])), (5, .inr (false, [(0, 0)]))], [], m3h1),
  (5, [(0, .inl 81), (1, .inr (false, [(6, 6)])), (2, .inr (false, [(0, 11)])), (3, .inr (true, [(1, 12)])), (5, .inr (false, [(1, 1)]))], [], m3h1),
  (5, [(0, .inl 81), (1, .inr (false, [(6, 6)])), (2, .inr (false, [(0, 11)])), (3, .inr (true, [(0, 132)])), (5, .inr (false, [(2, 2)]))], [], m3h1),
  (5, [(0, .inl 81), (1, .inr (false, [(6, 6)])), (2, .inr (false, [(0, 11)])), (3, .inr (true, [(0, 1452)])), (5, .inr (false, [(3, 3)]))], [], m3h1)] = true := by decide +kernel
/-- MiceRegistersModel.has -/
def m3c52 : ak_C := (135, [.inr (false, [(7, 7)]), .inr (false, [(0, 0)])], [], [], [([], some (.inr (false, [(1, 1)])), [])])
theorem m3k52 : ai_chk [] m3c52 (fun pc => sm_ch sm_t135 pc, sm_Kn 3 2 none, fun x => sm_lk sm_ca3 x, some .boolean) [] 2 0 [] [] 2000 [] = true := by decide +kernel
/-- MiceRegistersModel.has -/
def m3c53 : ak_C := (135, [.inr (false, [(7, 7)]), .inr (false, [(1, 1)])], [], [], [([], some (.inr (false, [(1, 1)])), [])])
