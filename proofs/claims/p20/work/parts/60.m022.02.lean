/-- MiceRegistersModel.wants -/
def m4b27 : sm_P := (fun pc => sm_ch sm_t134 pc, sm_Kn 3 9 none, fun x => sm_lk sm_ca3 x, some .int)
/-- MiceRegistersModel.passes -/
def m4h58 : aw_H := [(81, m4x0), (82, ms_r [(0, [(-1, 40)])]), (83, .inr (.inl (0, 8, [], []))), (85, .inr (.inl (0, 4, [], []))), (86, m4x3)]
/-- MiceRegistersModel.has -/
def m4c29 : ak_C := (135, [.inr (false, [(1, 1)]), .inr (false, [(0, 0)])], [], [], [([], some (.inr (false, [(1, 1)])), [])])
theorem m4k29 : ai_chk [] m4c29 (fun pc => sm_ch sm_t135 pc, sm_Kn 3 2 none, fun x => sm_lk sm_ca3 x, some .boolean) [] 2 0 [] [] 2000 [] = true := by decide +kernel
/-- MiceRegistersModel.has -/
def m4c30 : ak_C := (135, [.inr (false, [(1, 1)]), .inr (false, [(1, 1)])], [], [], [([], some (.inr (false, [(0, 0)])), [])])
theorem m4k30 : ai_chk [] m4c30 (fun pc => sm_ch sm_t135 pc, sm_Kn 3 2 none, fun x => sm_lk sm_ca3 x, some .boolean) [] 2 0 [] [] 2000 [] = true := by decide +kernel
/-- MiceRegistersModel.has -/
def m4c31 : ak_C := (135, [.inr (false, [(1, 1)]), .inr (false, [(2, 2)])], [], [], [([], some (.inr (false, [(0, 0)])), [])])
theorem m4k31 : ai_chk [] m4c31 (fun pc => sm_ch sm_t135 pc, sm_Kn 3 2 none, fun x => sm_lk sm_ca3 x, some .boolean) [] 2 0 [] [] 2000 [] = true := by decide +kernel
/-- MiceRegistersModel.has -/
def m4c32 : ak_C := (135, [.inr (false, [(1, 1)]), .inr (false, [(3, 3)])], [], [], [([], some (.inr (false, [(0, 0)])), [])])
theorem m4k32 : ai_chk [] m4c32 (fun pc => sm_ch sm_t135 pc, sm_Kn 3 2 none, fun x => sm_lk sm_ca3 x, some .boolean) [] 2 0 [] [] 2000 [] = true := by decide +kernel
/-- MiceRegistersModel.chancesOf -/
def m4c33 : ak_C := (185, [.inl 81, .inr (false, [(1, 1)]), .inr (false, [(0, 11)])], m4h1, [], [([], some (.inr (true, [(0, 19008)])), [])])
theorem m4k33 : ai_chk [m4c29, m4c30, m4c31, m4c32] m4c33 (fun pc => sm_ch sm_t185 pc, sm_Kn 3 6 none, fun x => sm_lk sm_ca3 x, some .long) [] 6 0 [5] [] 2000 [(5, [(0, .inl 81), (1, .inr (false, [(1, 1)])), (2, .inr (false, [(0, 11)])), (3, .inr (true, [(1, 1)])), (5, .inr (false, [(0, 0)]))], [], m4h1),
  (5, [(0, .inl 81), (1, .inr (false, [(1, 1)])), (2, .inr (false, [(0, 11)])), (3, .inr (true, [(0, 11)])), (5, .inr (false, [(1, 1)]))], [], m4h1),
  (5, [(0, .inl 81), (1, .inr (false, [(1, 1)])), (2, .inr (false, [(0, 11)])), (3, .inr (true, [(0, 132)])), (5, .inr (false, [(2, 2)]))], [], m4h1),
  (5, [(0, .inl 81), (1, .inr (false, [(1, 1)])), (2, .inr (false, [(0, 11)])), (3, .inr (true, [(0, 1584)])), (5, .inr (false, [(3, 3)]))], [], m4h1),
  (5, [(0, .inl 81), (1, .inr (false, [(1, 1)])), (2, .inr (false, [(0, 11)])), (3, .inr (true, [(0, 19008)])), (5, .inr (false, [(4, 4)]))], [], m4h1)] = true := by decide +kernel
/-- MiceRegistersModel.has -/
def m4c34 : ak_C := (135, [.inr (false, [(2, 2)]), .inr (false, [(0, 0)])], [], [], [([], some (.inr (false, [(0, 0)])), [])])
theorem m4k34 : ai_chk [] m4c34 (fun pc => sm_ch sm_t135 pc, sm_Kn 3 2 none, fun x => sm_lk sm_ca3 x, some .boolean) [] 2 0 [] [] 2000 [] = true := by decide +kernel
/-- MiceRegistersModel.has -/
def m4c35 : ak_C := (135, [.inr (false, [(2, 2)]), .inr (false, [(1, 1)])], [], [], [([], some (.inr (false, [(1, 1)])), [])])
theorem m4k35 : ai_chk [] m4c35 (fun pc => sm_ch sm_t135 pc, sm_Kn 3 2 none, fun x => sm_lk sm_ca3 x, some .boolean) [] 2 0 [] [] 2000 [] = true := by decide +kernel
/-- MiceRegistersModel.has -/
def m4c36 : ak_C := (135, [.inr (false, [(2, 2)]), .inr (false, [(2, 2)])], [], [], [([], some (.inr (false, [(0, 0)])), [])])
theorem m4k36 : ai_chk [] m4c36 (fun pc => sm_ch sm_t135 pc, sm_Kn 3 2 none, fun x => sm_lk sm_ca3 x, some .boolean) [] 2 0 [] [] 2000 [] = true := by decide +kernel
/-- MiceRegistersModel.has -/
def m4c37 : ak_C := (135, [.inr (false, [(2, 2)]), .inr (false, [(3, 3)])], [], [], [([], some (.inr (false, [(0, 0)])), [])])
theorem m4k37 : ai_chk [] m4c37 (fun pc => sm_ch sm_t135 pc, sm_Kn 3 2 none, fun x => sm_lk sm_ca3 x, some .boolean) [] 2 0 [] [] 2000 [] = true := by decide +kernel
/-- MiceRegistersModel.chancesOf -/
def m4c38 : ak_C := (185, [.inl 81, .inr (false, [(2, 2)]), .inr (false, [(0, 11)])], m4h1, [], [([], some (.inr (true, [(0, 19008)])), [])])
theorem m4k38 : ai_chk [m4c34, m4c35, m4c36, m4c37] m4c38 (fun pc => sm_ch sm_t185 pc, sm_Kn 3 6 none, fun x => sm_lk sm_ca3 x, some .long) [] 6 0 [5] [] 2000 [(5, [(0, .inl 81), (1, .inr (false, [(2, 2)])), (2, .inr (false, [(0, 11)])), (3, .inr (true, [(1, 1)])), (5, .inr (false, [(0, 0)]))], [], m4h1),
  (5, [(0, .inl 81), (1, .inr (false, [(2, 2)])), (2, .inr (false, [(0, 11)])), (3, .inr (true, [(1, 12)])), (5, .inr (false, [(1, 1)]))], [], m4h1),
  (5, [(0, .inl 81), (1, .inr (false, [(2, 2)])), (2, .inr (false, [(0, 11)])), (3, .inr (true, [(0, 132)])), (5, .inr (false, [(2, 2)]))], [], m4h1),
  (5, [(0, .inl 81), (1, .inr (false, [(2, 2)])), (2, .inr (false, [(0, 11)])), (3, .inr (true, [(0, 1584)])), (5, .inr (false, [(3, 3)]))], [], m4h1),
  (5, [(0, .inl 81), (1, .inr (false, [(2, 2)])), (2, .inr (false, [(0, 11)])), (3, .inr (true, [(0, 19008)])), (5, .inr (false, [(4, 4)]))], [], m4h1)] = true := by decide +kernel
/-- MiceRegistersModel.has -/
def m4c39 : ak_C := (135, [.inr (false, [(3, 3)]), .inr (false, [(0, 0)])], [], [], [([], some (.inr (false, [(1, 1)])), [])])
theorem m4k39 : ai_chk [] m4c39 (fun pc => sm_ch sm_t135 pc, sm_Kn 3 2 none, fun x => sm_lk sm_ca3 x, some .boolean) [] 2 0 [] [] 2000 [] = true := by decide +kernel
/-- MiceRegistersModel.has -/
def m4c40 : ak_C := (135, [.inr (false, [(3, 3)]), .inr (false, [(1, 1)])], [], [], [([], some (.inr (false, [(1, 1)])), [])])
theorem m4k40 : ai_chk [] m4c40 (fun pc => sm_ch sm_t135 pc, sm_Kn 3 2 none, fun x => sm_lk sm_ca3 x, some .boolean) [] 2 0 [] [] 2000 [] = true := by decide +kernel
/-- MiceRegistersModel.has -/
def m4c41 : ak_C := (135, [.inr (false, [(3, 3)]), .inr (false, [(2, 2)])], [], [], [([], some (.inr (false, [(0, 0)])), [])])
theorem m4k41 : ai_chk [] m4c41 (fun pc => sm_ch sm_t135 pc, sm_Kn 3 2 none, fun x => sm_lk sm_ca3 x, some .boolean) [] 2 0 [] [] 2000 [] = true := by decide +kernel
/-- MiceRegistersModel.has -/
def m4c42 : ak_C := (135, [.inr (false, [(3, 3)]), .inr (false, [(3, 3)])], [], [], [([], some (.inr (false, [(0, 0)])), [])])
theorem m4k42 : ai_chk [] m4c42 (fun pc => sm_ch sm_t135 pc, sm_Kn 3 2 none, fun x => sm_lk sm_ca3 x, some .boolean) [] 2 0 [] [] 2000 [] = true := by decide +kernel
/-- MiceRegistersModel.chancesOf -/
def m4c43 : ak_C := (185, [.inl 81, .inr (false, [(3, 3)]), .inr (false, [(0, 11)])], m4h1, [], [([], some (.inr (true, [(0, 17424)])), [])])
theorem m4k43 : ai_chk [m4c39, m4c40, m4c41, m4c42] m4c43 (fun pc => sm_ch sm_t185 pc, sm_Kn 3 6 none, fun x => sm_lk sm_ca3 x, some .long) [] 6 0 [5] [] 2000 [(5, [(0, .inl 81), (1, .inr (false, [(3, 3)])), (2, .inr (false, [(0, 11)])), (3, .inr (true, [(1, 1)])), (5, .inr (false, [(0, 0)]))], [], m4h1),
  (5, [(0, .inl 81), (1, .inr (false, [(3, 3)])), (2, .inr (false, [(0, 11)])), (3, .inr (true, [(0, 11)])), (5, .inr (false, [(1, 1)]))], [], m4h1),
  (5, [(0, .inl 81), (1, .inr (false, [(3, 3)])), (2, .inr (false, [(0, 11)])), (3, .inr (true, [(0, 121)])), (5, .inr (false, [(2, 2)]))], [], m4h1),
  (5, [(0, .inl 81), (1, .inr (false, [(3, 3)])), (2, .inr (false, [(0, 11)])), (3, .inr (true, [(0, 1452)])), (5, .inr (false, [(3, 3)]))], [], m4h1),
  (5, [(0, .inl 81), (1, .inr (false, [(3, 3)])), (2, .inr (false, [(0, 11)])), (3, .inr (true, [(0, 17424)])), (5, .inr (false, [(4, 4)]))], [], m4h1)] = true := by decide +kernel
/-- MiceRegistersModel.has -/
def m4c44 : ak_C := (135, [.inr (false, [(4, 4)]), .inr (false, [(0, 0)])], [], [], [([], some (.inr (false, [(0, 0)])), [])])
theorem m4k44 : ai_chk [] m4c44 (fun pc => sm_ch sm_t135 pc, sm_Kn 3 2 none, fun x => sm_lk sm_ca3 x, some .boolean) [] 2 0 [] [] 2000 [] = true := by decide +kernel
/-- MiceRegistersModel.has -/
def m4c45 : ak_C := (135, [.inr (false, [(4, 4)]), .inr (false, [(1, 1)])], [], [], [([], some (.inr (false, [(0, 0)])), [])])
theorem m4k45 : ai_chk [] m4c45 (fun pc => sm_ch sm_t135 pc, sm_Kn 3 2 none, fun x => sm_lk sm_ca3 x, some .boolean) [] 2 0 [] [] 2000 [] = true := by decide +kernel
/-- MiceRegistersModel.has -/
def m4c46 : ak_C := (135, [.inr (false, [(4, 4)]), .inr (false, [(2, 2)])], [], [], [([], some (.inr (false, [(1, 1)])), [])])
theorem m4k46 : ai_chk [] m4c46 (fun pc => sm_ch sm_t135 pc, sm_Kn 3 2 none, fun x => sm_lk sm_ca3 x, some .boolean) [] 2 0 [] [] 2000 [] = true := by decide +kernel
/-- MiceRegistersModel.has -/
def m4c47 : ak_C := (135, [.inr (false, [(4, 4)]), .inr (false, [(3, 3)])], [], [], [([], some (.inr (false, [(0, 0)])), [])])
theorem m4k47 : ai_chk [] m4c47 (fun pc => sm_ch sm_t135 pc, sm_Kn 3 2 none, fun x => sm_lk sm_ca3 x, some .boolean) [] 2 0 [] [] 2000 [] = true := by decide +kernel
/-- MiceRegistersModel.chancesOf -/
def m4c48 : ak_C := (185, [.inl 81, .inr (false, [(4, 4)]), .inr (false, [(0, 11)])], m4h1, [], [([], some (.inr (true, [(0, 19008)])), [])])
theorem m4k48 : ai_chk [m4c44, m4c45, m4c46, m4c47] m4c48 (fun pc => sm_ch sm_t185 pc, sm_Kn 3 6 none, fun x => sm_lk sm_ca3 x, some .long) [] 6 0 [5] [] 2000 [(5, [(0, .inl 81), (1, .inr (false, [(4, 4)])), (2, .inr (false, [(0, 11)])), (3, .inr (true, [(1, 1)])), (5, .inr (false, [(0, 0)]))], [], m4h1),
  (5, [(0, .inl 81), (1, .inr (false, [(4, 4)])), (2, .inr (false, [(0, 11)])), (3, .inr (true, [(1, 12)])), (5, .inr (false, [(1, 1)]))], [], m4h1),
  (5, [(0, .inl 81), (1, .inr (false, [(4, 4)])), (2, .inr (false, [(0, 11)])), (3, .inr (true, [(1, 144)])), (5, .inr (false, [(2, 2)]))], [], m4h1),
  (5, [(0, .inl 81), (1, .inr (false, [(4, 4)])), (2, .inr (false, [(0, 11)])), (3, .inr (true, [(0, 1584)])), (5, .inr (false, [(3, 3)]))], [], m4h1),
  (5, [(0, .inl 81), (1, .inr (false, [(4, 4)])), (2, .inr (false, [(0, 11)])), (3, .inr (true, [(0, 19008)])), (5, .inr (false, [(4, 4)]))], [], m4h1)] = true := by decide +kernel
/-- MiceRegistersModel.has -/
def m4c49 : ak_C := (135, [.inr (false, [(5, 5)]), .inr (false, [(0, 0)])], [], [], [([], some (.inr (false, [(1, 1)])), [])])
theorem m4k49 : ai_chk [] m4c49 (fun pc => sm_ch sm_t135 pc, sm_Kn 3 2 none, fun x => sm_lk sm_ca3 x, some .boolean) [] 2 0 [] [] 2000 [] = true := by decide +kernel
