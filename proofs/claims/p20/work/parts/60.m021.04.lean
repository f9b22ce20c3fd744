/-- MiceRegistersModel.has -/
def m3c18 : ak_C := (135, [.inr (false, [(0, 0)]), .inr (false, [(0, 0)])], [], [], [([], some (.inr (false, [(0, 0)])), [])])
theorem m3k18 : ai_chk [] m3c18 (fun pc => sm_ch sm_t135 pc, sm_Kn 3 2 none, fun x => sm_lk sm_ca3 x, some .boolean) [] 2 0 [] [] 2000 [] = true := by decide +kernel
/-- MiceRegistersModel.has -/
def m3c19 : ak_C := (135, [.inr (false, [(0, 0)]), .inr (false, [(1, 1)])], [], [], [([], some (.inr (false, [(0, 0)])), [])])
theorem m3k19 : ai_chk [] m3c19 (fun pc => sm_ch sm_t135 pc, sm_Kn 3 2 none, fun x => sm_lk sm_ca3 x, some .boolean) [] 2 0 [] [] 2000 [] = true := by decide +kernel
/-- MiceRegistersModel.has -/
def m3c20 : ak_C := (135, [.inr (false, [(0, 0)]), .inr (false, [(2, 2)])], [], [], [([], some (.inr (false, [(0, 0)])), [])])
theorem m3k20 : ai_chk [] m3c20 (fun pc => sm_ch sm_t135 pc, sm_Kn 3 2 none, fun x => sm_lk sm_ca3 x, some .boolean) [] 2 0 [] [] 2000 [] = true := by decide +kernel
/-- MiceRegistersModel.chancesOf -/
def m3c21 : ak_C := (185, [.inl 81, .inr (false, [(0, 0)]), .inr (false, [(0, 11)])], m3h1, [], [([], some (.inr (true, [(1, 1728)])), [])])
theorem m3k21 : ai_chk [m3c18, m3c19, m3c20] m3c21 (fun pc => sm_ch sm_t185 pc, sm_Kn 3 6 none, fun x => sm_lk sm_ca3 x, some .long) [] 6 0 [5] [] 2000 [(5, [(0, .inl 81), (1, .inr (false, [(0, 0)])), (2, .inr (false, [(0, 11)])), (3, .inr (true, [(1, 1)])), (5, .inr (false, [(0, 0)]))], [], m3h1),
  (5, [(0, .inl 81), (1, .inr (false, [(0, 0)])), (2, .inr (false, [(0, 11)])), (3, .inr (true, [(1, 12)])), (5, .inr (false, [(1, 1)]))], [], m3h1),
  (5, [(0, .inl 81), (1, .inr (false, [(0, 0)])), (2, .inr (false, [(0, 11)])), (3, .inr (true, [(1, 144)])), (5, .inr (false, [(2, 2)]))], [], m3h1),
  (5, [(0, .inl 81), (1, .inr (false, [(0, 0)])), (2, .inr (false, [(0, 11)])), (3, .inr (true, [(1, 1728)])), (5, .inr (false, [(3, 3)]))], [], m3h1)] = true := by decide +kernel
/-- MiceRegistersModel.wants -/
def m3b26 : sm_P := (fun pc => sm_ch sm_t134 pc, sm_Kn 3 9 none, fun x => sm_lk sm_ca3 x, some .int)
/-- MiceRegistersModel.passes -/
def m3h58 : aw_H := [(81, m3x0), (82, ms_r [(0, [(-1, 40)])]), (83, .inr (.inl (0, 8, [], []))), (85, .inr (.inl (0, 4, [], []))), (86, m3x3)]
/-- MiceRegistersModel.has -/
def m3c28 : ak_C := (135, [.inr (false, [(1, 1)]), .inr (false, [(0, 0)])], [], [], [([], some (.inr (false, [(1, 1)])), [])])
theorem m3k28 : ai_chk [] m3c28 (fun pc => sm_ch sm_t135 pc, sm_Kn 3 2 none, fun x => sm_lk sm_ca3 x, some .boolean) [] 2 0 [] [] 2000 [] = true := by decide +kernel
/-- MiceRegistersModel.has -/
def m3c29 : ak_C := (135, [.inr (false, [(1, 1)]), .inr (false, [(1, 1)])], [], [], [([], some (.inr (false, [(0, 0)])), [])])
theorem m3k29 : ai_chk [] m3c29 (fun pc => sm_ch sm_t135 pc, sm_Kn 3 2 none, fun x => sm_lk sm_ca3 x, some .boolean) [] 2 0 [] [] 2000 [] = true := by decide +kernel
/-- MiceRegistersModel.has -/
def m3c30 : ak_C := (135, [.inr (false, [(1, 1)]), .inr (false, [(2, 2)])], [], [], [([], some (.inr (false, [(0, 0)])), [])])
theorem m3k30 : ai_chk [] m3c30 (fun pc => sm_ch sm_t135 pc, sm_Kn 3 2 none, fun x => sm_lk sm_ca3 x, some .boolean) [] 2 0 [] [] 2000 [] = true := by decide +kernel
/-- MiceRegistersModel.chancesOf -/
def m3c31 : ak_C := (185, [.inl 81, .inr (false, [(1, 1)]), .inr (false, [(0, 11)])], m3h1, [], [([], some (.inr (true, [(0, 1584)])), [])])
theorem m3k31 : ai_chk [m3c28, m3c29, m3c30] m3c31 (fun pc => sm_ch sm_t185 pc, sm_Kn 3 6 none, fun x => sm_lk sm_ca3 x, some .long) [] 6 0 [5] [] 2000 [(5, [(0, .inl 81), (1, .inr (false, [(1, 1)])), (2, .inr (false, [(0, 11)])), (3, .inr (true, [(1, 1)])), (5, .inr (false, [(0, 0)]))], [], m3h1),
  (5, [(0, .inl 81), (1, .inr (false, [(1, 1)])), (2, .inr (false, [(0, 11)])), (3, .inr (true, [(0, 11)])), (5, .inr (false, [(1, 1)]))], [], m3h1),
  (5, [(0, .inl 81), (1, .inr (false, [(1, 1)])), (2, .inr (false, [(0, 11)])), (3, .inr (true, [(0, 132)])), (5, .inr (false, [(2, 2)]))], [], m3h1),
  (5, [(0, .inl 81), (1, .inr (false, [(1, 1)])), (2, .inr (false, [(0, 11)])), (3, .inr (true, [(0, 1584)])), (5, .inr (false, [(3, 3)]))], [], m3h1)] = true := by decide +kernel
/-- MiceRegistersModel.has -/
def m3c32 : ak_C := (135, [.inr (false, [(2, 2)]), .inr (false, [(0, 0)])], [], [], [([], some (.inr (false, [(0, 0)])), [])])
theorem m3k32 : ai_chk [] m3c32 (fun pc => sm_ch sm_t135 pc, sm_Kn 3 2 none, fun x => sm_lk sm_ca3 x, some .boolean) [] 2 0 [] [] 2000 [] = true := by decide +kernel
/-- MiceRegistersModel.has -/
def m3c33 : ak_C := (135, [.inr (false, [(2, 2)]), .inr (false, [(1, 1)])], [], [], [([], some (.inr (false, [(1, 1)])), [])])
theorem m3k33 : ai_chk [] m3c33 (fun pc => sm_ch sm_t135 pc, sm_Kn 3 2 none, fun x => sm_lk sm_ca3 x, some .boolean) [] 2 0 [] [] 2000 [] = true := by decide +kernel
/-- MiceRegistersModel.has -/
def m3c34 : ak_C := (135, [.inr (false, [(2, 2)]), .inr (false, [(2, 2)])], [], [], [([], some (.inr (false, [(0, 0)])), [])])
theorem m3k34 : ai_chk [] m3c34 (fun pc => sm_ch sm_t135 pc, sm_Kn 3 2 none, fun x => sm_lk sm_ca3 x, some .boolean) [] 2 0 [] [] 2000 [] = true := by decide +kernel
/-- MiceRegistersModel.chancesOf -/
def m3c35 : ak_C := (185, [.inl 81, .inr (false, [(2, 2)]), .inr (false, [(0, 11)])], m3h1, [], [([], some (.inr (true, [(0, 1584)])), [])])
theorem m3k35 : ai_chk [m3c32, m3c33, m3c34] m3c35 (fun pc => sm_ch sm_t185 pc, sm_Kn 3 6 none, fun x => sm_lk sm_ca3 x, some .long) [] 6 0 [5] [] 2000 [(5, [(0, .inl 81), (1, .inr (false, [(2, 2)])), (2, .inr (false, [(0, 11)])), (3, .inr (true, [(1, 1)])), (5, .inr (false, [(0, 0)]))], [], m3h1),
  (5, [(0, .inl 81), (1, .inr (false, [(2, 2)])), (2, .inr (false, [(0, 11)])), (3, .inr (true, [(1, 12)])), (5, .inr (false, [(1, 1)]))], [], m3h1),
  (5, [(0, .inl 81), (1, .inr (false, [(2, 2)])), (2, .inr (false, [(0, 11)])), (3, .inr (true, [(0, 132)])), (5, .inr (false, [(2, 2)]))], [], m3h1),
  (5, [(0, .inl 81), (1, .inr (false, [(2, 2)])), (2, .inr (false, [(0, 11)])), (3, .inr (true, [(0, 1584)])), (5, .inr (false, [(3, 3)]))], [], m3h1)] = true := by decide +kernel
/-- MiceRegistersModel.has -/
def m3c36 : ak_C := (135, [.inr (false, [(3, 3)]), .inr (false, [(0, 0)])], [], [], [([], some (.inr (false, [(1, 1)])), [])])
theorem m3k36 : ai_chk [] m3c36 (fun pc => sm_ch sm_t135 pc, sm_Kn 3 2 none, fun x => sm_lk sm_ca3 x, some .boolean) [] 2 0 [] [] 2000 [] = true := by decide +kernel
/-- MiceRegistersModel.has -/
def m3c37 : ak_C := (135, [.inr (false, [(3, 3)]), .inr (false, [(1, 1)])], [], [], [([], some (.inr (false, [(1, 1)])), [])])
theorem m3k37 : ai_chk [] m3c37 (fun pc => sm_ch sm_t135 pc, sm_Kn 3 2 none, fun x => sm_lk sm_ca3 x, some .boolean) [] 2 0 [] [] 2000 [] = true := by decide +kernel
/-- MiceRegistersModel.has -/
def m3c38 : ak_C := (135, [.inr (false, [(3, 3)]), .inr (false, [(2, 2)])], [], [], [([], some (.inr (false, [(0, 0)])), [])])
theorem m3k38 : ai_chk [] m3c38 (fun pc => sm_ch sm_t135 pc, sm_Kn 3 2 none, fun x => sm_lk sm_ca3 x, some .boolean) [] 2 0 [] [] 2000 [] = true := by decide +kernel
/-- MiceRegistersModel.chancesOf -/
def m3c39 : ak_C := (185, [.inl 81, .inr (false, [(3, 3)]), .inr (false, [(0, 11)])], m3h1, [], [([], some (.inr (true, [(0, 1452)])), [])])
