/-! Contracts over ranges of the class, and their checks; printed by a program of mine. -/
/-- MiceRegisters.readLine -/
def kcc135 : ak_C := (17, [.inl 0, .inl 13, .inr (false, [(-1, 60)]), .inr (false, [(7, 7)])], kch46, [24, 25, 26], [([[], [], [], []], some (.inr (false, [(-1, 60)])), kch26), ([[], [], [(1, 60)], []], some (.inr (false, [(-9, -9)])), kch28)])
theorem kck135 : ai_chk [kcc37] kcc135 (fun pc => sm_ch sm_t17 pc, sm_Kn 2 6 none, fun x => sm_lk sm_ca2 x, some .int) [24, 25, 26] 6 4 [29] [] 2000 [(29, [(0, .inl 0), (1, .inl 13), (2, .inr (false, [(-1, 60)])), (3, .inr (false, [(7, 7)])), (4, .inr (false, [(8, 8)]))], [], kch47),
  (29, [(0, .inl 0), (1, .inl 13), (2, .inr (false, [(1, 60)])), (3, .inr (false, [(7, 7)])), (4, .inr (false, [(9, 9)])), (5, .inr (false, [(-9, -9)]))], [], kch47),
  (29, [(0, .inl 0), (1, .inl 13), (2, .inr (false, [(1, 60)])), (3, .inr (false, [(7, 7)])), (4, .inr (false, [(10, 10)])), (5, .inr (false, [(-9, -9)]))], [], kch47),
  (29, [(0, .inl 0), (1, .inl 13), (2, .inr (false, [(1, 60)])), (3, .inr (false, [(7, 7)])), (4, .inr (false, [(11, 11)])), (5, .inr (false, [(-9, -9)]))], [], kch47)] = true := by decide +kernel
def kch112 : aw_H := [(13, kcx106)]
/-- MiceRegisters.faultOfFigure -/
def kcc136 : ak_C := (18, [.inl 13, .inr (false, [(-1, 60)]), .inr (false, [(8, 8)]), .inr (false, [(0, 0)]), .inr (false, [(0, 7)])], kch22, [], [([], some (.inr (false, [(-9, -9)])), kch112), ([], some (.inr (false, [(-1, 63)])), [])])
def kch113 : aw_H := [(13, kcx108)]
/-- MiceRegisters.faultOfFigure -/
def kcc137 : ak_C := (18, [.inl 13, .inr (false, [(-1, 60)]), .inr (false, [(9, 9)]), .inr (false, [(1, 1)]), .inr (false, [(9, 9)])], kch112, [], [([], some (.inr (false, [(-9, -9)])), kch113), ([], some (.inr (false, [(-1, 63)])), [])])
/-- MiceRegisters.readMouse -/
def kcc138 : ak_C := (19, [.inl 0, .inl 13, .inr (false, [(-1, 60)]), .inr (false, [(7, 7)])], kch50, [24, 29, 30, 31], [([], some (.inr (false, [(-1, 63)])), kch37), ([], some (.inr (false, [(-9, -9)])), kch39)])
theorem kck138 : ai_chk [kcc28, kcc136, kcc137] kcc138 (fun pc => sm_ch sm_t19 pc, sm_Kn 2 6 none, fun x => sm_lk sm_ca2 x, some .int) [24, 29, 30, 31] 6 0 [] [] 2000 [] = true := by decide +kernel
/-- MiceRegisters.readLine -/
def kcc139 : ak_C := (17, [.inl 0, .inl 14, .inr (false, [(-1, 60)]), .inr (false, [(7, 7)])], kch51, [24, 25, 26], [([[], [], [], []], some (.inr (false, [(-1, 60)])), kch26), ([[], [], [(1, 60)], []], some (.inr (false, [(-9, -9)])), kch28)])
theorem kck139 : ai_chk [kcc42] kcc139 (fun pc => sm_ch sm_t17 pc, sm_Kn 2 6 none, fun x => sm_lk sm_ca2 x, some .int) [24, 25, 26] 6 4 [29] [] 2000 [(29, [(0, .inl 0), (1, .inl 14), (2, .inr (false, [(-1, 60)])), (3, .inr (false, [(7, 7)])), (4, .inr (false, [(8, 8)]))], [], kch52),
  (29, [(0, .inl 0), (1, .inl 14), (2, .inr (false, [(1, 60)])), (3, .inr (false, [(7, 7)])), (4, .inr (false, [(9, 9)])), (5, .inr (false, [(-9, -9)]))], [], kch52),
  (29, [(0, .inl 0), (1, .inl 14), (2, .inr (false, [(1, 60)])), (3, .inr (false, [(7, 7)])), (4, .inr (false, [(10, 10)])), (5, .inr (false, [(-9, -9)]))], [], kch52),
  (29, [(0, .inl 0), (1, .inl 14), (2, .inr (false, [(1, 60)])), (3, .inr (false, [(7, 7)])), (4, .inr (false, [(11, 11)])), (5, .inr (false, [(-9, -9)]))], [], kch52)] = true := by decide +kernel
def kch114 : aw_H := [(14, kcx106)]
/-- MiceRegisters.faultOfFigure -/
def kcc140 : ak_C := (18, [.inl 14, .inr (false, [(-1, 60)]), .inr (false, [(8, 8)]), .inr (false, [(0, 0)]), .inr (false, [(0, 7)])], kch21, [], [([], some (.inr (false, [(-9, -9)])), kch114), ([], some (.inr (false, [(-1, 63)])), [])])
def kch115 : aw_H := [(14, kcx108)]
/-- MiceRegisters.faultOfFigure -/
def kcc141 : ak_C := (18, [.inl 14, .inr (false, [(-1, 60)]), .inr (false, [(9, 9)]), .inr (false, [(1, 1)]), .inr (false, [(9, 9)])], kch114, [], [([], some (.inr (false, [(-9, -9)])), kch115), ([], some (.inr (false, [(-1, 63)])), [])])
/-- MiceRegisters.readMouse -/
def kcc142 : ak_C := (19, [.inl 0, .inl 14, .inr (false, [(-1, 60)]), .inr (false, [(7, 7)])], kch55, [24, 29, 30, 31], [([], some (.inr (false, [(-1, 63)])), kch37), ([], some (.inr (false, [(-9, -9)])), kch39)])
theorem kck142 : ai_chk [kcc28, kcc140, kcc141] kcc142 (fun pc => sm_ch sm_t19 pc, sm_Kn 2 6 none, fun x => sm_lk sm_ca2 x, some .int) [24, 29, 30, 31] 6 0 [] [] 2000 [] = true := by decide +kernel
/-- MiceRegisters.readLine -/
def kcc143 : ak_C := (17, [.inl 0, .inl 11, .inr (false, [(-1, 60)]), .inr (false, [(8, 8)])], kch29, [24, 25, 26], [([[], [], [], []], some (.inr (false, [(-1, 60)])), kch26), ([[], [], [(1, 60)], []], some (.inr (false, [(-9, -9)])), kch28)])
theorem kck143 : ai_chk [kcc26] kcc143 (fun pc => sm_ch sm_t17 pc, sm_Kn 2 6 none, fun x => sm_lk sm_ca2 x, some .int) [24, 25, 26] 6 4 [29] [] 2000 [(29, [(0, .inl 0), (1, .inl 11), (2, .inr (false, [(-1, 60)])), (3, .inr (false, [(8, 8)])), (4, .inr (false, [(9, 9)]))], [], kch31),
  (29, [(0, .inl 0), (1, .inl 11), (2, .inr (false, [(1, 60)])), (3, .inr (false, [(8, 8)])), (4, .inr (false, [(10, 10)])), (5, .inr (false, [(-9, -9)]))], [], kch31),
  (29, [(0, .inl 0), (1, .inl 11), (2, .inr (false, [(1, 60)])), (3, .inr (false, [(8, 8)])), (4, .inr (false, [(11, 11)])), (5, .inr (false, [(-9, -9)]))], [], kch31),
  (29, [(0, .inl 0), (1, .inl 11), (2, .inr (false, [(1, 60)])), (3, .inr (false, [(8, 8)])), (4, .inr (false, [(12, 12)])), (5, .inr (false, [(-9, -9)]))], [], kch31)] = true := by decide +kernel
def kcx116 : aw_A := .inr (.inl (1, 60, [], [(9, [(48, 55)])]))
def kch117 : aw_H := [(11, kcx116)]
/-- MiceRegisters.faultOfFigure -/
def kcc144 : ak_C := (18, [.inl 11, .inr (false, [(-1, 60)]), .inr (false, [(9, 9)]), .inr (false, [(0, 0)]), .inr (false, [(0, 7)])], kch24, [], [([], some (.inr (false, [(-9, -9)])), kch117), ([], some (.inr (false, [(-1, 63)])), [])])
def kcx118 : aw_A := .inr (.inl (1, 60, [], [(10, [(49, 57)]), (9, [(48, 55)])]))
def kch119 : aw_H := [(11, kcx118)]
/-- MiceRegisters.faultOfFigure -/
def kcc145 : ak_C := (18, [.inl 11, .inr (false, [(-1, 60)]), .inr (false, [(10, 10)]), .inr (false, [(1, 1)]), .inr (false, [(9, 9)])], kch117, [], [([], some (.inr (false, [(-9, -9)])), kch119), ([], some (.inr (false, [(-1, 63)])), [])])
/-- MiceRegisters.readMouse -/
def kcc146 : ak_C := (19, [.inl 0, .inl 11, .inr (false, [(-1, 60)]), .inr (false, [(8, 8)])], kch40, [24, 29, 30, 31], [([], some (.inr (false, [(-1, 63)])), kch37), ([], some (.inr (false, [(-9, -9)])), kch39)])
theorem kck146 : ai_chk [kcc28, kcc144, kcc145] kcc146 (fun pc => sm_ch sm_t19 pc, sm_Kn 2 6 none, fun x => sm_lk sm_ca2 x, some .int) [24, 29, 30, 31] 6 0 [] [] 2000 [] = true := by decide +kernel
/-- MiceRegisters.readLine -/
def kcc147 : ak_C := (17, [.inl 0, .inl 12, .inr (false, [(-1, 60)]), .inr (false, [(8, 8)])], kch41, [24, 25, 26], [([[], [], [], []], some (.inr (false, [(-1, 60)])), kch26), ([[], [], [(1, 60)], []], some (.inr (false, [(-9, -9)])), kch28)])
theorem kck147 : ai_chk [kcc32] kcc147 (fun pc => sm_ch sm_t17 pc, sm_Kn 2 6 none, fun x => sm_lk sm_ca2 x, some .int) [24, 25, 26] 6 4 [29] [] 2000 [(29, [(0, .inl 0), (1, .inl 12), (2, .inr (false, [(-1, 60)])), (3, .inr (false, [(8, 8)])), (4, .inr (false, [(9, 9)]))], [], kch42),
  (29, [(0, .inl 0), (1, .inl 12), (2, .inr (false, [(1, 60)])), (3, .inr (false, [(8, 8)])), (4, .inr (false, [(10, 10)])), (5, .inr (false, [(-9, -9)]))], [], kch42),
  (29, [(0, .inl 0), (1, .inl 12), (2, .inr (false, [(1, 60)])), (3, .inr (false, [(8, 8)])), (4, .inr (false, [(11, 11)])), (5, .inr (false, [(-9, -9)]))], [], kch42),
  (29, [(0, .inl 0), (1, .inl 12), (2, .inr (false, [(1, 60)])), (3, .inr (false, [(8, 8)])), (4, .inr (false, [(12, 12)])), (5, .inr (false, [(-9, -9)]))], [], kch42)] = true := by decide +kernel
def kch120 : aw_H := [(12, kcx116)]
/-- MiceRegisters.faultOfFigure -/
def kcc148 : ak_C := (18, [.inl 12, .inr (false, [(-1, 60)]), .inr (false, [(9, 9)]), .inr (false, [(0, 0)]), .inr (false, [(0, 7)])], kch23, [], [([], some (.inr (false, [(-9, -9)])), kch120), ([], some (.inr (false, [(-1, 63)])), [])])
def kch121 : aw_H := [(12, kcx118)]
/-- MiceRegisters.faultOfFigure -/
def kcc149 : ak_C := (18, [.inl 12, .inr (false, [(-1, 60)]), .inr (false, [(10, 10)]), .inr (false, [(1, 1)]), .inr (false, [(9, 9)])], kch120, [], [([], some (.inr (false, [(-9, -9)])), kch121), ([], some (.inr (false, [(-1, 63)])), [])])
/-- MiceRegisters.readMouse -/
def kcc150 : ak_C := (19, [.inl 0, .inl 12, .inr (false, [(-1, 60)]), .inr (false, [(8, 8)])], kch45, [24, 29, 30, 31], [([], some (.inr (false, [(-1, 63)])), kch37), ([], some (.inr (false, [(-9, -9)])), kch39)])
theorem kck150 : ai_chk [kcc28, kcc148, kcc149] kcc150 (fun pc => sm_ch sm_t19 pc, sm_Kn 2 6 none, fun x => sm_lk sm_ca2 x, some .int) [24, 29, 30, 31] 6 0 [] [] 2000 [] = true := by decide +kernel
/-- MiceRegisters.readLine -/
def kcc151 : ak_C := (17, [.inl 0, .inl 13, .inr (false, [(-1, 60)]), .inr (false, [(8, 8)])], kch46, [24, 25, 26], [([[], [], [], []], some (.inr (false, [(-1, 60)])), kch26), ([[], [], [(1, 60)], []], some (.inr (false, [(-9, -9)])), kch28)])
theorem kck151 : ai_chk [kcc37] kcc151 (fun pc => sm_ch sm_t17 pc, sm_Kn 2 6 none, fun x => sm_lk sm_ca2 x, some .int) [24, 25, 26] 6 4 [29] [] 2000 [(29, [(0, .inl 0), (1, .inl 13), (2, .inr (false, [(-1, 60)])), (3, .inr (false, [(8, 8)])), (4, .inr (false, [(9, 9)]))], [], kch47),
  (29, [(0, .inl 0), (1, .inl 13), (2, .inr (false, [(1, 60)])), (3, .inr (false, [(8, 8)])), (4, .inr (false, [(10, 10)])), (5, .inr (false, [(-9, -9)]))], [], kch47),
  (29, [(0, .inl 0), (1, .inl 13), (2, .inr (false, [(1, 60)])), (3, .inr (false, [(8, 8)])), (4, .inr (false, [(11, 11)])), (5, .inr (false, [(-9, -9)]))], [], kch47),
  (29, [(0, .inl 0), (1, .inl 13), (2, .inr (false, [(1, 60)])), (3, .inr (false, [(8, 8)])), (4, .inr (false, [(12, 12)])), (5, .inr (false, [(-9, -9)]))], [], kch47)] = true := by decide +kernel
def kch122 : aw_H := [(13, kcx116)]
/-- MiceRegisters.faultOfFigure -/
def kcc152 : ak_C := (18, [.inl 13, .inr (false, [(-1, 60)]), .inr (false, [(9, 9)]), .inr (false, [(0, 0)]), .inr (false, [(0, 7)])], kch22, [], [([], some (.inr (false, [(-9, -9)])), kch122), ([], some (.inr (false, [(-1, 63)])), [])])
def kch123 : aw_H := [(13, kcx118)]
/-- MiceRegisters.faultOfFigure -/
def kcc153 : ak_C := (18, [.inl 13, .inr (false, [(-1, 60)]), .inr (false, [(10, 10)]), .inr (false, [(1, 1)]), .inr (false, [(9, 9)])], kch122, [], [([], some (.inr (false, [(-9, -9)])), kch123), ([], some (.inr (false, [(-1, 63)])), [])])
/-- MiceRegisters.readMouse -/
def kcc154 : ak_C := (19, [.inl 0, .inl 13, .inr (false, [(-1, 60)]), .inr (false, [(8, 8)])], kch50, [24, 29, 30, 31], [([], some (.inr (false, [(-1, 63)])), kch37), ([], some (.inr (false, [(-9, -9)])), kch39)])
theorem kck154 : ai_chk [kcc28, kcc152, kcc153] kcc154 (fun pc => sm_ch sm_t19 pc, sm_Kn 2 6 none, fun x => sm_lk sm_ca2 x, some .int) [24, 29, 30, 31] 6 0 [] [] 2000 [] = true := by decide +kernel
/-- MiceRegisters.readLine -/
def kcc155 : ak_C := (17, [.inl 0, .inl 14, .inr (false, [(-1, 60)]), .inr (false, [(8, 8)])], kch51, [24, 25, 26], [([[], [], [], []], some (.inr (false, [(-1, 60)])), kch26), ([[], [], [(1, 60)], []], some (.inr (false, [(-9, -9)])), kch28)])
theorem kck155 : ai_chk [kcc42] kcc155 (fun pc => sm_ch sm_t17 pc, sm_Kn 2 6 none, fun x => sm_lk sm_ca2 x, some .int) [24, 25, 26] 6 4 [29] [] 2000 [(29, [(0, .inl 0), (1, .inl 14), (2, .inr (false, [(-1, 60)])), (3, .inr (false, [(8, 8)])), (4, .inr (false, [(9, 9)]))], [], kch52),
  (29, [(0, .inl 0), (1, .inl 14), (2, .inr (false, [(1, 60)])), (3, .inr (false, [(8, 8)])), (4, .inr (false, [(10, 10)])), (5, .inr (false, [(-9, -9)]))], [], kch52),
  (29, [(0, .inl 0), (1, .inl 14), (2, .inr (false, [(1, 60)])), (3, .inr (false, [(8, 8)])), (4, .inr (false, [(11, 11)])), (5, .inr (false, [(-9, -9)]))], [], kch52),
  (29, [(0, .inl 0), (1, .inl 14), (2, .inr (false, [(1, 60)])), (3, .inr (false, [(8, 8)])), (4, .inr (false, [(12, 12)])), (5, .inr (false, [(-9, -9)]))], [], kch52)] = true := by decide +kernel
def kch124 : aw_H := [(14, kcx116)]
/-- MiceRegisters.faultOfFigure -/
def kcc156 : ak_C := (18, [.inl 14, .inr (false, [(-1, 60)]), .inr (false, [(9, 9)]), .inr (false, [(0, 0)]), .inr (false, [(0, 7)])], kch21, [], [([], some (.inr (false, [(-9, -9)])), kch124), ([], some (.inr (false, [(-1, 63)])), [])])
def kch125 : aw_H := [(14, kcx118)]
/-- MiceRegisters.faultOfFigure -/
def kcc157 : ak_C := (18, [.inl 14, .inr (false, [(-1, 60)]), .inr (false, [(10, 10)]), .inr (false, [(1, 1)]), .inr (false, [(9, 9)])], kch124, [], [([], some (.inr (false, [(-9, -9)])), kch125), ([], some (.inr (false, [(-1, 63)])), [])])
/-- MiceRegisters.readMouse -/
def kcc158 : ak_C := (19, [.inl 0, .inl 14, .inr (false, [(-1, 60)]), .inr (false, [(8, 8)])], kch55, [24, 29, 30, 31], [([], some (.inr (false, [(-1, 63)])), kch37), ([], some (.inr (false, [(-9, -9)])), kch39)])
theorem kck158 : ai_chk [kcc28, kcc156, kcc157] kcc158 (fun pc => sm_ch sm_t19 pc, sm_Kn 2 6 none, fun x => sm_lk sm_ca2 x, some .int) [24, 29, 30, 31] 6 0 [] [] 2000 [] = true := by decide +kernel
/-- MiceRegisters.readLine -/
def kcc159 : ak_C := (17, [.inl 0, .inl 11, .inr (false, [(-1, 60)]), .inr (false, [(9, 9)])], kch29, [24, 25, 26], [([[], [], [], []], some (.inr (false, [(-1, 60)])), kch26), ([[], [], [(1, 60)], []], some (.inr (false, [(-9, -9)])), kch28)])
theorem kck159 : ai_chk [kcc26] kcc159 (fun pc => sm_ch sm_t17 pc, sm_Kn 2 6 none, fun x => sm_lk sm_ca2 x, some .int) [24, 25, 26] 6 4 [29] [] 2000 [(29, [(0, .inl 0), (1, .inl 11), (2, .inr (false, [(-1, 60)])), (3, .inr (false, [(9, 9)])), (4, .inr (false, [(10, 10)]))], [], kch31),
  (29, [(0, .inl 0), (1, .inl 11), (2, .inr (false, [(1, 60)])), (3, .inr (false, [(9, 9)])), (4, .inr (false, [(11, 11)])), (5, .inr (false, [(-9, -9)]))], [], kch31),
  (29, [(0, .inl 0), (1, .inl 11), (2, .inr (false, [(1, 60)])), (3, .inr (false, [(9, 9)])), (4, .inr (false, [(12, 12)])), (5, .inr (false, [(-9, -9)]))], [], kch31),
  (29, [(0, .inl 0), (1, .inl 11), (2, .inr (false, [(1, 60)])), (3, .inr (false, [(9, 9)])), (4, .inr (false, [(13, 13)])), (5, .inr (false, [(-9, -9)]))], [], kch31)] = true := by decide +kernel
def kcx126 : aw_A := .inr (.inl (1, 60, [], [(10, [(48, 55)])]))
def kch127 : aw_H := [(11, kcx126)]
/-- MiceRegisters.faultOfFigure -/
def kcc160 : ak_C := (18, [.inl 11, .inr (false, [(-1, 60)]), .inr (false, [(10, 10)]), .inr (false, [(0, 0)]), .inr (false, [(0, 7)])], kch24, [], [([], some (.inr (false, [(-9, -9)])), kch127), ([], some (.inr (false, [(-1, 63)])), [])])
def kcx128 : aw_A := .inr (.inl (1, 60, [], [(11, [(49, 57)]), (10, [(48, 55)])]))
def kch129 : aw_H := [(11, kcx128)]
/-- MiceRegisters.faultOfFigure -/
def kcc161 : ak_C := (18, [.inl 11, .inr (false, [(-1, 60)]), .inr (false, [(11, 11)]), .inr (false, [(1, 1)]), .inr (false, [(9, 9)])], kch127, [], [([], some (.inr (false, [(-9, -9)])), kch129), ([], some (.inr (false, [(-1, 63)])), [])])
/-- MiceRegisters.readMouse -/
def kcc162 : ak_C := (19, [.inl 0, .inl 11, .inr (false, [(-1, 60)]), .inr (false, [(9, 9)])], kch40, [24, 29, 30, 31], [([], some (.inr (false, [(-1, 63)])), kch37), ([], some (.inr (false, [(-9, -9)])), kch39)])
theorem kck162 : ai_chk [kcc28, kcc160, kcc161] kcc162 (fun pc => sm_ch sm_t19 pc, sm_Kn 2 6 none, fun x => sm_lk sm_ca2 x, some .int) [24, 29, 30, 31] 6 0 [] [] 2000 [] = true := by decide +kernel
/-- MiceRegisters.readLine -/
def kcc163 : ak_C := (17, [.inl 0, .inl 12, .inr (false, [(-1, 60)]), .inr (false, [(9, 9)])], kch41, [24, 25, 26], [([[], [], [], []], some (.inr (false, [(-1, 60)])), kch26), ([[], [], [(1, 60)], []], some (.inr (false, [(-9, -9)])), kch28)])
theorem kck163 : ai_chk [kcc32] kcc163 (fun pc => sm_ch sm_t17 pc, sm_Kn 2 6 none, fun x => sm_lk sm_ca2 x, some .int) [24, 25, 26] 6 4 [29] [] 2000 [(29, [(0, .inl 0), (1, .inl 12), (2, .inr (false, [(-1, 60)])), (3, .inr (false, [(9, 9)])), (4, .inr (false, [(10, 10)]))], [], kch42),
  (29, [(0, .inl 0), (1, .inl 12), (2, .inr (false, [(1, 60)])), (3, .inr (false, [(9, 9)])), (4, .inr (false, [(11, 11)])), (5, .inr (false, [(-9, -9)]))], [], kch42),
  (29, [(0, .inl 0), (1, .inl 12), (2, .inr (false, [(1, 60)])), (3, .inr (false, [(9, 9)])), (4, .inr (false, [(12, 12)])), (5, .inr (false, [(-9, -9)]))], [], kch42),
  (29, [(0, .inl 0), (1, .inl 12), (2, .inr (false, [(1, 60)])), (3, .inr (false, [(9, 9)])), (4, .inr (false, [(13, 13)])), (5, .inr (false, [(-9, -9)]))], [], kch42)] = true := by decide +kernel
def kch130 : aw_H := [(12, kcx126)]
/-- MiceRegisters.faultOfFigure -/
def kcc164 : ak_C := (18, [.inl 12, .inr (false, [(-1, 60)]), .inr (false, [(10, 10)]), .inr (false, [(0, 0)]), .inr (false, [(0, 7)])], kch23, [], [([], some (.inr (false, [(-9, -9)])), kch130), ([], some (.inr (false, [(-1, 63)])), [])])
def kch131 : aw_H := [(12, kcx128)]
/-- MiceRegisters.faultOfFigure -/
def kcc165 : ak_C := (18, [.inl 12, .inr (false, [(-1, 60)]), .inr (false, [(11, 11)]), .inr (false, [(1, 1)]), .inr (false, [(9, 9)])], kch130, [], [([], some (.inr (false, [(-9, -9)])), kch131), ([], some (.inr (false, [(-1, 63)])), [])])
/-- MiceRegisters.readMouse -/
def kcc166 : ak_C := (19, [.inl 0, .inl 12, .inr (false, [(-1, 60)]), .inr (false, [(9, 9)])], kch45, [24, 29, 30, 31], [([], some (.inr (false, [(-1, 63)])), kch37), ([], some (.inr (false, [(-9, -9)])), kch39)])
theorem kck166 : ai_chk [kcc28, kcc164, kcc165] kcc166 (fun pc => sm_ch sm_t19 pc, sm_Kn 2 6 none, fun x => sm_lk sm_ca2 x, some .int) [24, 29, 30, 31] 6 0 [] [] 2000 [] = true := by decide +kernel
/-- MiceRegisters.readLine -/
def kcc167 : ak_C := (17, [.inl 0, .inl 13, .inr (false, [(-1, 60)]), .inr (false, [(9, 9)])], kch46, [24, 25, 26], [([[], [], [], []], some (.inr (false, [(-1, 60)])), kch26), ([[], [], [(1, 60)], []], some (.inr (false, [(-9, -9)])), kch28)])
theorem kck167 : ai_chk [kcc37] kcc167 (fun pc => sm_ch sm_t17 pc, sm_Kn 2 6 none, fun x => sm_lk sm_ca2 x, some .int) [24, 25, 26] 6 4 [29] [] 2000 [(29, [(0, .inl 0), (1, .inl 13), (2, .inr (false, [(-1, 60)])), (3, .inr (false, [(9, 9)])), (4, .inr (false, [(10, 10)]))], [], kch47),
  (29, [(0, .inl 0), (1, .inl 13), (2, .inr (false, [(1, 60)])), (3, .inr (false, [(9, 9)])), (4, .inr (false, [(11, 11)])), (5, .inr (false, [(-9, -9)]))], [], kch47),
  (29, [(0, .inl 0), (1, .inl 13), (2, .inr (false, [(1, 60)])), (3, .inr (false, [(9, 9)])), (4, .inr (false, [(12, 12)])), (5, .inr (false, [(-9, -9)]))], [], kch47),
  (29, [(0, .inl 0), (1, .inl 13), (2, .inr (false, [(1, 60)])), (3, .inr (false, [(9, 9)])), (4, .inr (false, [(13, 13)])), (5, .inr (false, [(-9, -9)]))], [], kch47)] = true := by decide +kernel
def kch132 : aw_H := [(13, kcx126)]
/-- MiceRegisters.faultOfFigure -/
def kcc168 : ak_C := (18, [.inl 13, .inr (false, [(-1, 60)]), .inr (false, [(10, 10)]), .inr (false, [(0, 0)]), .inr (false, [(0, 7)])], kch22, [], [([], some (.inr (false, [(-9, -9)])), kch132), ([], some (.inr (false, [(-1, 63)])), [])])
def kch133 : aw_H := [(13, kcx128)]
/-- MiceRegisters.faultOfFigure -/
def kcc169 : ak_C := (18, [.inl 13, .inr (false, [(-1, 60)]), .inr (false, [(11, 11)]), .inr (false, [(1, 1)]), .inr (false, [(9, 9)])], kch132, [], [([], some (.inr (false, [(-9, -9)])), kch133), ([], some (.inr (false, [(-1, 63)])), [])])
/-- MiceRegisters.readMouse -/
def kcc170 : ak_C := (19, [.inl 0, .inl 13, .inr (false, [(-1, 60)]), .inr (false, [(9, 9)])], kch50, [24, 29, 30, 31], [([], some (.inr (false, [(-1, 63)])), kch37), ([], some (.inr (false, [(-9, -9)])), kch39)])
theorem kck170 : ai_chk [kcc28, kcc168, kcc169] kcc170 (fun pc => sm_ch sm_t19 pc, sm_Kn 2 6 none, fun x => sm_lk sm_ca2 x, some .int) [24, 29, 30, 31] 6 0 [] [] 2000 [] = true := by decide +kernel
/-- MiceRegisters.readLine -/
def kcc171 : ak_C := (17, [.inl 0, .inl 14, .inr (false, [(-1, 60)]), .inr (false, [(9, 9)])], kch51, [24, 25, 26], [([[], [], [], []], some (.inr (false, [(-1, 60)])), kch26), ([[], [], [(1, 60)], []], some (.inr (false, [(-9, -9)])), kch28)])
theorem kck171 : ai_chk [kcc42] kcc171 (fun pc => sm_ch sm_t17 pc, sm_Kn 2 6 none, fun x => sm_lk sm_ca2 x, some .int) [24, 25, 26] 6 4 [29] [] 2000 [(29, [(0, .inl 0), (1, .inl 14), (2, .inr (false, [(-1, 60)])), (3, .inr (false, [(9, 9)])), (4, .inr (false, [(10, 10)]))], [], kch52),
  (29, [(0, .inl 0), (1, .inl 14), (2, .inr (false, [(1, 60)])), (3, .inr (false, [(9, 9)])), (4, .inr (false, [(11, 11)])), (5, .inr (false, [(-9, -9)]))], [], kch52),
  (29, [(0, .inl 0), (1, .inl 14), (2, .inr (false, [(1, 60)])), (3, .inr (false, [(9, 9)])), (4, .inr (false, [(12, 12)])), (5, .inr (false, [(-9, -9)]))], [], kch52),
  (29, [(0, .inl 0), (1, .inl 14), (2, .inr (false, [(1, 60)])), (3, .inr (false, [(9, 9)])), (4, .inr (false, [(13, 13)])), (5, .inr (false, [(-9, -9)]))], [], kch52)] = true := by decide +kernel
def kch134 : aw_H := [(14, kcx126)]
/-- MiceRegisters.faultOfFigure -/
def kcc172 : ak_C := (18, [.inl 14, .inr (false, [(-1, 60)]), .inr (false, [(10, 10)]), .inr (false, [(0, 0)]), .inr (false, [(0, 7)])], kch21, [], [([], some (.inr (false, [(-9, -9)])), kch134), ([], some (.inr (false, [(-1, 63)])), [])])
def kch135 : aw_H := [(14, kcx128)]
/-- MiceRegisters.faultOfFigure -/
def kcc173 : ak_C := (18, [.inl 14, .inr (false, [(-1, 60)]), .inr (false, [(11, 11)]), .inr (false, [(1, 1)]), .inr (false, [(9, 9)])], kch134, [], [([], some (.inr (false, [(-9, -9)])), kch135), ([], some (.inr (false, [(-1, 63)])), [])])
/-- MiceRegisters.readMouse -/
def kcc174 : ak_C := (19, [.inl 0, .inl 14, .inr (false, [(-1, 60)]), .inr (false, [(9, 9)])], kch55, [24, 29, 30, 31], [([], some (.inr (false, [(-1, 63)])), kch37), ([], some (.inr (false, [(-9, -9)])), kch39)])
theorem kck174 : ai_chk [kcc28, kcc172, kcc173] kcc174 (fun pc => sm_ch sm_t19 pc, sm_Kn 2 6 none, fun x => sm_lk sm_ca2 x, some .int) [24, 29, 30, 31] 6 0 [] [] 2000 [] = true := by decide +kernel
/-- MiceRegisters.readLine -/
def kcc175 : ak_C := (17, [.inl 0, .inl 11, .inr (false, [(-1, 60)]), .inr (false, [(10, 10)])], kch29, [24, 25, 26], [([[], [], [], []], some (.inr (false, [(-1, 60)])), kch26), ([[], [], [(1, 60)], []], some (.inr (false, [(-9, -9)])), kch28)])
theorem kck175 : ai_chk [kcc26] kcc175 (fun pc => sm_ch sm_t17 pc, sm_Kn 2 6 none, fun x => sm_lk sm_ca2 x, some .int) [24, 25, 26] 6 4 [29] [] 2000 [(29, [(0, .inl 0), (1, .inl 11), (2, .inr (false, [(-1, 60)])), (3, .inr (false, [(10, 10)])), (4, .inr (false, [(11, 11)]))], [], kch31),
  (29, [(0, .inl 0), (1, .inl 11), (2, .inr (false, [(1, 60)])), (3, .inr (false, [(10, 10)])), (4, .inr (false, [(12, 12)])), (5, .inr (false, [(-9, -9)]))], [], kch31),
  (29, [(0, .inl 0), (1, .inl 11), (2, .inr (false, [(1, 60)])), (3, .inr (false, [(10, 10)])), (4, .inr (false, [(13, 13)])), (5, .inr (false, [(-9, -9)]))], [], kch31),
  (29, [(0, .inl 0), (1, .inl 11), (2, .inr (false, [(1, 60)])), (3, .inr (false, [(10, 10)])), (4, .inr (false, [(14, 14)])), (5, .inr (false, [(-9, -9)]))], [], kch31)] = true := by decide +kernel
def kcx136 : aw_A := .inr (.inl (1, 60, [], [(11, [(48, 55)])]))
def kch137 : aw_H := [(11, kcx136)]
/-- MiceRegisters.faultOfFigure -/
def kcc176 : ak_C := (18, [.inl 11, .inr (false, [(-1, 60)]), .inr (false, [(11, 11)]), .inr (false, [(0, 0)]), .inr (false, [(0, 7)])], kch24, [], [([], some (.inr (false, [(-9, -9)])), kch137), ([], some (.inr (false, [(-1, 63)])), [])])
def kcx138 : aw_A := .inr (.inl (1, 60, [], [(12, [(49, 57)]), (11, [(48, 55)])]))
def kch139 : aw_H := [(11, kcx138)]
/-- MiceRegisters.faultOfFigure -/
def kcc177 : ak_C := (18, [.inl 11, .inr (false, [(-1, 60)]), .inr (false, [(12, 12)]), .inr (false, [(1, 1)]), .inr (false, [(9, 9)])], kch137, [], [([], some (.inr (false, [(-9, -9)])), kch139), ([], some (.inr (false, [(-1, 63)])), [])])
/-- MiceRegisters.readMouse -/
def kcc178 : ak_C := (19, [.inl 0, .inl 11, .inr (false, [(-1, 60)]), .inr (false, [(10, 10)])], kch40, [24, 29, 30, 31], [([], some (.inr (false, [(-1, 63)])), kch37), ([], some (.inr (false, [(-9, -9)])), kch39)])
theorem kck178 : ai_chk [kcc28, kcc176, kcc177] kcc178 (fun pc => sm_ch sm_t19 pc, sm_Kn 2 6 none, fun x => sm_lk sm_ca2 x, some .int) [24, 29, 30, 31] 6 0 [] [] 2000 [] = true := by decide +kernel
/-- MiceRegisters.readLine -/
def kcc179 : ak_C := (17, [.inl 0, .inl 12, .inr (false, [(-1, 60)]), .inr (false, [(10, 10)])], kch41, [24, 25, 26], [([[], [], [], []], some (.inr (false, [(-1, 60)])), kch26), ([[], [], [(1, 60)], []], some (.inr (false, [(-9, -9)])), kch28)])
theorem kck179 : ai_chk [kcc32] kcc179 (fun pc => sm_ch sm_t17 pc, sm_Kn 2 6 none, fun x => sm_lk sm_ca2 x, some .int) [24, 25, 26] 6 4 [29] [] 2000 [(29, [(0, .inl 0), (1, .inl 12), (2, .inr (false, [(-1, 60)])), (3, .inr (false, [(10, 10)])), (4, .inr (false, [(11, 11)]))], [], kch42),
  (29, [(0, .inl 0), (1, .inl 12), (2, .inr (false, [(1, 60)])), (3, .inr (false, [(10, 10)])), (4, .inr (false, [(12, 12)])), (5, .inr (false, [(-9, -9)]))], [], kch42),
  (29, [(0, .inl 0), (1, .inl 12), (2, .inr (false, [(1, 60)])), (3, .inr (false, [(10, 10)])), (4, .inr (false, [(13, 13)])), (5, .inr (false, [(-9, -9)]))], [], kch42),
  (29, [(0, .inl 0), (1, .inl 12), (2, .inr (false, [(1, 60)])), (3, .inr (false, [(10, 10)])), (4, .inr (false, [(14, 14)])), (5, .inr (false, [(-9, -9)]))], [], kch42)] = true := by decide +kernel
def kch140 : aw_H := [(12, kcx136)]
/-- MiceRegisters.faultOfFigure -/
def kcc180 : ak_C := (18, [.inl 12, .inr (false, [(-1, 60)]), .inr (false, [(11, 11)]), .inr (false, [(0, 0)]), .inr (false, [(0, 7)])], kch23, [], [([], some (.inr (false, [(-9, -9)])), kch140), ([], some (.inr (false, [(-1, 63)])), [])])
def kch141 : aw_H := [(12, kcx138)]
/-- MiceRegisters.faultOfFigure -/
def kcc181 : ak_C := (18, [.inl 12, .inr (false, [(-1, 60)]), .inr (false, [(12, 12)]), .inr (false, [(1, 1)]), .inr (false, [(9, 9)])], kch140, [], [([], some (.inr (false, [(-9, -9)])), kch141), ([], some (.inr (false, [(-1, 63)])), [])])
/-- MiceRegisters.readMouse -/
def kcc182 : ak_C := (19, [.inl 0, .inl 12, .inr (false, [(-1, 60)]), .inr (false, [(10, 10)])], kch45, [24, 29, 30, 31], [([], some (.inr (false, [(-1, 63)])), kch37), ([], some (.inr (false, [(-9, -9)])), kch39)])
theorem kck182 : ai_chk [kcc28, kcc180, kcc181] kcc182 (fun pc => sm_ch sm_t19 pc, sm_Kn 2 6 none, fun x => sm_lk sm_ca2 x, some .int) [24, 29, 30, 31] 6 0 [] [] 2000 [] = true := by decide +kernel
/-- MiceRegisters.readLine -/
def kcc183 : ak_C := (17, [.inl 0, .inl 13, .inr (false, [(-1, 60)]), .inr (false, [(10, 10)])], kch46, [24, 25, 26], [([[], [], [], []], some (.inr (false, [(-1, 60)])), kch26), ([[], [], [(1, 60)], []], some (.inr (false, [(-9, -9)])), kch28)])
theorem kck183 : ai_chk [kcc37] kcc183 (fun pc => sm_ch sm_t17 pc, sm_Kn 2 6 none, fun x => sm_lk sm_ca2 x, some .int) [24, 25, 26] 6 4 [29] [] 2000 [(29, [(0, .inl 0), (1, .inl 13), (2, .inr (false, [(-1, 60)])), (3, .inr (false, [(10, 10)])), (4, .inr (false, [(11, 11)]))], [], kch47),
  (29, [(0, .inl 0), (1, .inl 13), (2, .inr (false, [(1, 60)])), (3, .inr (false, [(10, 10)])), (4, .inr (false, [(12, 12)])), (5, .inr (false, [(-9, -9)]))], [], kch47),
  (29, [(0, .inl 0), (1, .inl 13), (2, .inr (false, [(1, 60)])), (3, .inr (false, [(10, 10)])), (4, .inr (false, [(13, 13)])), (5, .inr (false, [(-9, -9)]))], [], kch47),
  (29, [(0, .inl 0), (1, .inl 13), (2, .inr (false, [(1, 60)])), (3, .inr (false, [(10, 10)])), (4, .inr (false, [(14, 14)])), (5, .inr (false, [(-9, -9)]))], [], kch47)] = true := by decide +kernel
def kch142 : aw_H := [(13, kcx136)]
/-- MiceRegisters.faultOfFigure -/
def kcc184 : ak_C := (18, [.inl 13, .inr (false, [(-1, 60)]), .inr (false, [(11, 11)]), .inr (false, [(0, 0)]), .inr (false, [(0, 7)])], kch22, [], [([], some (.inr (false, [(-9, -9)])), kch142), ([], some (.inr (false, [(-1, 63)])), [])])
def kch143 : aw_H := [(13, kcx138)]
/-- MiceRegisters.faultOfFigure -/
def kcc185 : ak_C := (18, [.inl 13, .inr (false, [(-1, 60)]), .inr (false, [(12, 12)]), .inr (false, [(1, 1)]), .inr (false, [(9, 9)])], kch142, [], [([], some (.inr (false, [(-9, -9)])), kch143), ([], some (.inr (false, [(-1, 63)])), [])])
/-- MiceRegisters.readMouse -/
def kcc186 : ak_C := (19, [.inl 0, .inl 13, .inr (false, [(-1, 60)]), .inr (false, [(10, 10)])], kch50, [24, 29, 30, 31], [([], some (.inr (false, [(-1, 63)])), kch37), ([], some (.inr (false, [(-9, -9)])), kch39)])
theorem kck186 : ai_chk [kcc28, kcc184, kcc185] kcc186 (fun pc => sm_ch sm_t19 pc, sm_Kn 2 6 none, fun x => sm_lk sm_ca2 x, some .int) [24, 29, 30, 31] 6 0 [] [] 2000 [] = true := by decide +kernel
/-- MiceRegisters.readLine -/
def kcc187 : ak_C := (17, [.inl 0, .inl 14, .inr (false, [(-1, 60)]), .inr (false, [(10, 10)])], kch51, [24, 25, 26], [([[], [], [], []], some (.inr (false, [(-1, 60)])), kch26), ([[], [], [(1, 60)], []], some (.inr (false, [(-9, -9)])), kch28)])
theorem kck187 : ai_chk [kcc42] kcc187 (fun pc => sm_ch sm_t17 pc, sm_Kn 2 6 none, fun x => sm_lk sm_ca2 x, some .int) [24, 25, 26] 6 4 [29] [] 2000 [(29, [(0, .inl 0), (1, .inl 14), (2, .inr (false, [(-1, 60)])), (3, .inr (false, [(10, 10)])), (4, .inr (false, [(11, 11)]))], [], kch52),
  (29, [(0, .inl 0), (1, .inl 14), (2, .inr (false, [(1, 60)])), (3, .inr (false, [(10, 10)])), (4, .inr (false, [(12, 12)])), (5, .inr (false, [(-9, -9)]))], [], kch52),
  (29, [(0, .inl 0), (1, .inl 14), (2, .inr (false, [(1, 60)])), (3, .inr (false, [(10, 10)])), (4, .inr (false, [(13, 13)])), (5, .inr (false, [(-9, -9)]))], [], kch52),
  (29, [(0, .inl 0), (1, .inl 14), (2, .inr (false, [(1, 60)])), (3, .inr (false, [(10, 10)])), (4, .inr (false, [(14, 14)])), (5, .inr (false, [(-9, -9)]))], [], kch52)] = true := by decide +kernel
def kch144 : aw_H := [(14, kcx136)]
/-- MiceRegisters.faultOfFigure -/
def kcc188 : ak_C := (18, [.inl 14, .inr (false, [(-1, 60)]), .inr (false, [(11, 11)]), .inr (false, [(0, 0)]), .inr (false, [(0, 7)])], kch21, [], [([], some (.inr (false, [(-9, -9)])), kch144), ([], some (.inr (false, [(-1, 63)])), [])])
def kch145 : aw_H := [(14, kcx138)]
/-- MiceRegisters.faultOfFigure -/
def kcc189 : ak_C := (18, [.inl 14, .inr (false, [(-1, 60)]), .inr (false, [(12, 12)]), .inr (false, [(1, 1)]), .inr (false, [(9, 9)])], kch144, [], [([], some (.inr (false, [(-9, -9)])), kch145), ([], some (.inr (false, [(-1, 63)])), [])])
/-- MiceRegisters.readMouse -/
def kcc190 : ak_C := (19, [.inl 0, .inl 14, .inr (false, [(-1, 60)]), .inr (false, [(10, 10)])], kch55, [24, 29, 30, 31], [([], some (.inr (false, [(-1, 63)])), kch37), ([], some (.inr (false, [(-9, -9)])), kch39)])
theorem kck190 : ai_chk [kcc28, kcc188, kcc189] kcc190 (fun pc => sm_ch sm_t19 pc, sm_Kn 2 6 none, fun x => sm_lk sm_ca2 x, some .int) [24, 29, 30, 31] 6 0 [] [] 2000 [] = true := by decide +kernel
/-- MiceRegisters.readLine -/
def kcc191 : ak_C := (17, [.inl 0, .inl 11, .inr (false, [(-1, 60)]), .inr (false, [(11, 11)])], kch29, [24, 25, 26], [([[], [], [], []], some (.inr (false, [(-1, 60)])), kch26), ([[], [], [(1, 60)], []], some (.inr (false, [(-9, -9)])), kch28)])
theorem kck191 : ai_chk [kcc26] kcc191 (fun pc => sm_ch sm_t17 pc, sm_Kn 2 6 none, fun x => sm_lk sm_ca2 x, some .int) [24, 25, 26] 6 4 [29] [] 2000 [(29, [(0, .inl 0), (1, .inl 11), (2, .inr (false, [(-1, 60)])), (3, .inr (false, [(11, 11)])), (4, .inr (false, [(12, 12)]))], [], kch31),
  (29, [(0, .inl 0), (1, .inl 11), (2, .inr (false, [(1, 60)])), (3, .inr (false, [(11, 11)])), (4, .inr (false, [(13, 13)])), (5, .inr (false, [(-9, -9)]))], [], kch31),
  (29, [(0, .inl 0), (1, .inl 11), (2, .inr (false, [(1, 60)])), (3, .inr (false, [(11, 11)])), (4, .inr (false, [(14, 14)])), (5, .inr (false, [(-9, -9)]))], [], kch31),
  (29, [(0, .inl 0), (1, .inl 11), (2, .inr (false, [(1, 60)])), (3, .inr (false, [(11, 11)])), (4, .inr (false, [(15, 15)])), (5, .inr (false, [(-9, -9)]))], [], kch31)] = true := by decide +kernel
def kcx146 : aw_A := .inr (.inl (1, 60, [], [(12, [(48, 55)])]))
def kch147 : aw_H := [(11, kcx146)]
/-- MiceRegisters.faultOfFigure -/
def kcc192 : ak_C := (18, [.inl 11, .inr (false, [(-1, 60)]), .inr (false, [(12, 12)]), .inr (false, [(0, 0)]), .inr (false, [(0, 7)])], kch24, [], [([], some (.inr (false, [(-9, -9)])), kch147), ([], some (.inr (false, [(-1, 63)])), [])])
def kcx148 : aw_A := .inr (.inl (1, 60, [], [(13, [(49, 57)]), (12, [(48, 55)])]))
def kch149 : aw_H := [(11, kcx148)]
/-- MiceRegisters.faultOfFigure -/
def kcc193 : ak_C := (18, [.inl 11, .inr (false, [(-1, 60)]), .inr (false, [(13, 13)]), .inr (false, [(1, 1)]), .inr (false, [(9, 9)])], kch147, [], [([], some (.inr (false, [(-9, -9)])), kch149), ([], some (.inr (false, [(-1, 63)])), [])])
/-- MiceRegisters.readMouse -/
def kcc194 : ak_C := (19, [.inl 0, .inl 11, .inr (false, [(-1, 60)]), .inr (false, [(11, 11)])], kch40, [24, 29, 30, 31], [([], some (.inr (false, [(-1, 63)])), kch37), ([], some (.inr (false, [(-9, -9)])), kch39)])
theorem kck194 : ai_chk [kcc28, kcc192, kcc193] kcc194 (fun pc => sm_ch sm_t19 pc, sm_Kn 2 6 none, fun x => sm_lk sm_ca2 x, some .int) [24, 29, 30, 31] 6 0 [] [] 2000 [] = true := by decide +kernel
/-- MiceRegisters.readLine -/
def kcc195 : ak_C := (17, [.inl 0, .inl 12, .inr (false, [(-1, 60)]), .inr (false, [(11, 11)])], kch41, [24, 25, 26], [([[], [], [], []], some (.inr (false, [(-1, 60)])), kch26), ([[], [], [(1, 60)], []], some (.inr (false, [(-9, -9)])), kch28)])
theorem kck195 : ai_chk [kcc32] kcc195 (fun pc => sm_ch sm_t17 pc, sm_Kn 2 6 none, fun x => sm_lk sm_ca2 x, some .int) [24, 25, 26] 6 4 [29] [] 2000 [(29, [(0, .inl 0), (1, .inl 12), (2, .inr (false, [(-1, 60)])), (3, .inr (false, [(11, 11)])), (4, .inr (false, [(12, 12)]))], [], kch42),
  (29, [(0, .inl 0), (1, .inl 12), (2, .inr (false, [(1, 60)])), (3, .inr (false, [(11, 11)])), (4, .inr (false, [(13, 13)])), (5, .inr (false, [(-9, -9)]))], [], kch42),
  (29, [(0, .inl 0), (1, .inl 12), (2, .inr (false, [(1, 60)])), (3, .inr (false, [(11, 11)])), (4, .inr (false, [(14, 14)])), (5, .inr (false, [(-9, -9)]))], [], kch42),
  (29, [(0, .inl 0), (1, .inl 12), (2, .inr (false, [(1, 60)])), (3, .inr (false, [(11, 11)])), (4, .inr (false, [(15, 15)])), (5, .inr (false, [(-9, -9)]))], [], kch42)] = true := by decide +kernel
def kch150 : aw_H := [(12, kcx146)]
/-- MiceRegisters.faultOfFigure -/
def kcc196 : ak_C := (18, [.inl 12, .inr (false, [(-1, 60)]), .inr (false, [(12, 12)]), .inr (false, [(0, 0)]), .inr (false, [(0, 7)])], kch23, [], [([], some (.inr (false, [(-9, -9)])), kch150), ([], some (.inr (false, [(-1, 63)])), [])])
def kch151 : aw_H := [(12, kcx148)]
/-- MiceRegisters.faultOfFigure -/
def kcc197 : ak_C := (18, [.inl 12, .inr (false, [(-1, 60)]), .inr (false, [(13, 13)]), .inr (false, [(1, 1)]), .inr (false, [(9, 9)])], kch150, [], [([], some (.inr (false, [(-9, -9)])), kch151), ([], some (.inr (false, [(-1, 63)])), [])])
/-- MiceRegisters.readMouse -/
def kcc198 : ak_C := (19, [.inl 0, .inl 12, .inr (false, [(-1, 60)]), .inr (false, [(11, 11)])], kch45, [24, 29, 30, 31], [([], some (.inr (false, [(-1, 63)])), kch37), ([], some (.inr (false, [(-9, -9)])), kch39)])
theorem kck198 : ai_chk [kcc28, kcc196, kcc197] kcc198 (fun pc => sm_ch sm_t19 pc, sm_Kn 2 6 none, fun x => sm_lk sm_ca2 x, some .int) [24, 29, 30, 31] 6 0 [] [] 2000 [] = true := by decide +kernel
/-- MiceRegisters.readLine -/
def kcc199 : ak_C := (17, [.inl 0, .inl 13, .inr (false, [(-1, 60)]), .inr (false, [(11, 11)])], kch46, [24, 25, 26], [([[], [], [], []], some (.inr (false, [(-1, 60)])), kch26), ([[], [], [(1, 60)], []], some (.inr (false, [(-9, -9)])), kch28)])
theorem kck199 : ai_chk [kcc37] kcc199 (fun pc => sm_ch sm_t17 pc, sm_Kn 2 6 none, fun x => sm_lk sm_ca2 x, some .int) [24, 25, 26] 6 4 [29] [] 2000 [(29, [(0, .inl 0), (1, .inl 13), (2, .inr (false, [(-1, 60)])), (3, .inr (false, [(11, 11)])), (4, .inr (false, [(12, 12)]))], [], kch47),
  (29, [(0, .inl 0), (1, .inl 13), (2, .inr (false, [(1, 60)])), (3, .inr (false, [(11, 11)])), (4, .inr (false, [(13, 13)])), (5, .inr (false, [(-9, -9)]))], [], kch47),
  (29, [(0, .inl 0), (1, .inl 13), (2, .inr (false, [(1, 60)])), (3, .inr (false, [(11, 11)])), (4, .inr (false, [(14, 14)])), (5, .inr (false, [(-9, -9)]))], [], kch47),
  (29, [(0, .inl 0), (1, .inl 13), (2, .inr (false, [(1, 60)])), (3, .inr (false, [(11, 11)])), (4, .inr (false, [(15, 15)])), (5, .inr (false, [(-9, -9)]))], [], kch47)] = true := by decide +kernel
def kch152 : aw_H := [(13, kcx146)]
/-- MiceRegisters.faultOfFigure -/
def kcc200 : ak_C := (18, [.inl 13, .inr (false, [(-1, 60)]), .inr (false, [(12, 12)]), .inr (false, [(0, 0)]), .inr (false, [(0, 7)])], kch22, [], [([], some (.inr (false, [(-9, -9)])), kch152), ([], some (.inr (false, [(-1, 63)])), [])])
def kch153 : aw_H := [(13, kcx148)]
/-- MiceRegisters.faultOfFigure -/
def kcc201 : ak_C := (18, [.inl 13, .inr (false, [(-1, 60)]), .inr (false, [(13, 13)]), .inr (false, [(1, 1)]), .inr (false, [(9, 9)])], kch152, [], [([], some (.inr (false, [(-9, -9)])), kch153), ([], some (.inr (false, [(-1, 63)])), [])])
/-- MiceRegisters.readMouse -/
def kcc202 : ak_C := (19, [.inl 0, .inl 13, .inr (false, [(-1, 60)]), .inr (false, [(11, 11)])], kch50, [24, 29, 30, 31], [([], some (.inr (false, [(-1, 63)])), kch37), ([], some (.inr (false, [(-9, -9)])), kch39)])
theorem kck202 : ai_chk [kcc28, kcc200, kcc201] kcc202 (fun pc => sm_ch sm_t19 pc, sm_Kn 2 6 none, fun x => sm_lk sm_ca2 x, some .int) [24, 29, 30, 31] 6 0 [] [] 2000 [] = true := by decide +kernel
/-- MiceRegisters.readLine -/
def kcc203 : ak_C := (17, [.inl 0, .inl 14, .inr (false, [(-1, 60)]), .inr (false, [(11, 11)])], kch51, [24, 25, 26], [([[], [], [], []], some (.inr (false, [(-1, 60)])), kch26), ([[], [], [(1, 60)], []], some (.inr (false, [(-9, -9)])), kch28)])
theorem kck203 : ai_chk [kcc42] kcc203 (fun pc => sm_ch sm_t17 pc, sm_Kn 2 6 none, fun x => sm_lk sm_ca2 x, some .int) [24, 25, 26] 6 4 [29] [] 2000 [(29, [(0, .inl 0), (1, .inl 14), (2, .inr (false, [(-1, 60)])), (3, .inr (false, [(11, 11)])), (4, .inr (false, [(12, 12)]))], [], kch52),
  (29, [(0, .inl 0), (1, .inl 14), (2, .inr (false, [(1, 60)])), (3, .inr (false, [(11, 11)])), (4, .inr (false, [(13, 13)])), (5, .inr (false, [(-9, -9)]))], [], kch52),
  (29, [(0, .inl 0), (1, .inl 14), (2, .inr (false, [(1, 60)])), (3, .inr (false, [(11, 11)])), (4, .inr (false, [(14, 14)])), (5, .inr (false, [(-9, -9)]))], [], kch52),
  (29, [(0, .inl 0), (1, .inl 14), (2, .inr (false, [(1, 60)])), (3, .inr (false, [(11, 11)])), (4, .inr (false, [(15, 15)])), (5, .inr (false, [(-9, -9)]))], [], kch52)] = true := by decide +kernel
def kch154 : aw_H := [(14, kcx146)]
/-- MiceRegisters.faultOfFigure -/
def kcc204 : ak_C := (18, [.inl 14, .inr (false, [(-1, 60)]), .inr (false, [(12, 12)]), .inr (false, [(0, 0)]), .inr (false, [(0, 7)])], kch21, [], [([], some (.inr (false, [(-9, -9)])), kch154), ([], some (.inr (false, [(-1, 63)])), [])])
def kch155 : aw_H := [(14, kcx148)]
/-- MiceRegisters.faultOfFigure -/
def kcc205 : ak_C := (18, [.inl 14, .inr (false, [(-1, 60)]), .inr (false, [(13, 13)]), .inr (false, [(1, 1)]), .inr (false, [(9, 9)])], kch154, [], [([], some (.inr (false, [(-9, -9)])), kch155), ([], some (.inr (false, [(-1, 63)])), [])])
/-- MiceRegisters.readMouse -/
def kcc206 : ak_C := (19, [.inl 0, .inl 14, .inr (false, [(-1, 60)]), .inr (false, [(11, 11)])], kch55, [24, 29, 30, 31], [([], some (.inr (false, [(-1, 63)])), kch37), ([], some (.inr (false, [(-9, -9)])), kch39)])
theorem kck206 : ai_chk [kcc28, kcc204, kcc205] kcc206 (fun pc => sm_ch sm_t19 pc, sm_Kn 2 6 none, fun x => sm_lk sm_ca2 x, some .int) [24, 29, 30, 31] 6 0 [] [] 2000 [] = true := by decide +kernel
/-- MiceRegisters.readLine -/
def kcc207 : ak_C := (17, [.inl 0, .inl 11, .inr (false, [(-1, 60)]), .inr (false, [(12, 12)])], kch29, [24, 25, 26], [([[], [], [], []], some (.inr (false, [(-1, 60)])), kch26), ([[], [], [(1, 60)], []], some (.inr (false, [(-9, -9)])), kch28)])
theorem kck207 : ai_chk [kcc26] kcc207 (fun pc => sm_ch sm_t17 pc, sm_Kn 2 6 none, fun x => sm_lk sm_ca2 x, some .int) [24, 25, 26] 6 4 [29] [] 2000 [(29, [(0, .inl 0), (1, .inl 11), (2, .inr (false, [(-1, 60)])), (3, .inr (false, [(12, 12)])), (4, .inr (false, [(13, 13)]))], [], kch31),
  (29, [(0, .inl 0), (1, .inl 11), (2, .inr (false, [(1, 60)])), (3, .inr (false, [(12, 12)])), (4, .inr (false, [(14, 14)])), (5, .inr (false, [(-9, -9)]))], [], kch31),
  (29, [(0, .inl 0), (1, .inl 11), (2, .inr (false, [(1, 60)])), (3, .inr (false, [(12, 12)])), (4, .inr (false, [(15, 15)])), (5, .inr (false, [(-9, -9)]))], [], kch31),
  (29, [(0, .inl 0), (1, .inl 11), (2, .inr (false, [(1, 60)])), (3, .inr (false, [(12, 12)])), (4, .inr (false, [(16, 16)])), (5, .inr (false, [(-9, -9)]))], [], kch31)] = true := by decide +kernel
def kcx156 : aw_A := .inr (.inl (1, 60, [], [(13, [(48, 55)])]))
def kch157 : aw_H := [(11, kcx156)]
/-- MiceRegisters.faultOfFigure -/
def kcc208 : ak_C := (18, [.inl 11, .inr (false, [(-1, 60)]), .inr (false, [(13, 13)]), .inr (false, [(0, 0)]), .inr (false, [(0, 7)])], kch24, [], [([], some (.inr (false, [(-9, -9)])), kch157), ([], some (.inr (false, [(-1, 63)])), [])])
def kcx158 : aw_A := .inr (.inl (1, 60, [], [(14, [(49, 57)]), (13, [(48, 55)])]))
def kch159 : aw_H := [(11, kcx158)]
/-- MiceRegisters.faultOfFigure -/
def kcc209 : ak_C := (18, [.inl 11, .inr (false, [(-1, 60)]), .inr (false, [(14, 14)]), .inr (false, [(1, 1)]), .inr (false, [(9, 9)])], kch157, [], [([], some (.inr (false, [(-9, -9)])), kch159), ([], some (.inr (false, [(-1, 63)])), [])])
/-- MiceRegisters.readMouse -/
def kcc210 : ak_C := (19, [.inl 0, .inl 11, .inr (false, [(-1, 60)]), .inr (false, [(12, 12)])], kch40, [24, 29, 30, 31], [([], some (.inr (false, [(-1, 63)])), kch37), ([], some (.inr (false, [(-9, -9)])), kch39)])
theorem kck210 : ai_chk [kcc28, kcc208, kcc209] kcc210 (fun pc => sm_ch sm_t19 pc, sm_Kn 2 6 none, fun x => sm_lk sm_ca2 x, some .int) [24, 29, 30, 31] 6 0 [] [] 2000 [] = true := by decide +kernel
/-- MiceRegisters.readLine -/
def kcc211 : ak_C := (17, [.inl 0, .inl 12, .inr (false, [(-1, 60)]), .inr (false, [(12, 12)])], kch41, [24, 25, 26], [([[], [], [], []], some (.inr (false, [(-1, 60)])), kch26), ([[], [], [(1, 60)], []], some (.inr (false, [(-9, -9)])), kch28)])
theorem kck211 : ai_chk [kcc32] kcc211 (fun pc => sm_ch sm_t17 pc, sm_Kn 2 6 none, fun x => sm_lk sm_ca2 x, some .int) [24, 25, 26] 6 4 [29] [] 2000 [(29, [(0, .inl 0), (1, .inl 12), (2, .inr (false, [(-1, 60)])), (3, .inr (false, [(12, 12)])), (4, .inr (false, [(13, 13)]))], [], kch42),
  (29, [(0, .inl 0), (1, .inl 12), (2, .inr (false, [(1, 60)])), (3, .inr (false, [(12, 12)])), (4, .inr (false, [(14, 14)])), (5, .inr (false, [(-9, -9)]))], [], kch42),
  (29, [(0, .inl 0), (1, .inl 12), (2, .inr (false, [(1, 60)])), (3, .inr (false, [(12, 12)])), (4, .inr (false, [(15, 15)])), (5, .inr (false, [(-9, -9)]))], [], kch42),
  (29, [(0, .inl 0), (1, .inl 12), (2, .inr (false, [(1, 60)])), (3, .inr (false, [(12, 12)])), (4, .inr (false, [(16, 16)])), (5, .inr (false, [(-9, -9)]))], [], kch42)] = true := by decide +kernel
def kch160 : aw_H := [(12, kcx156)]
/-- MiceRegisters.faultOfFigure -/
def kcc212 : ak_C := (18, [.inl 12, .inr (false, [(-1, 60)]), .inr (false, [(13, 13)]), .inr (false, [(0, 0)]), .inr (false, [(0, 7)])], kch23, [], [([], some (.inr (false, [(-9, -9)])), kch160), ([], some (.inr (false, [(-1, 63)])), [])])
def kch161 : aw_H := [(12, kcx158)]
/-- MiceRegisters.faultOfFigure -/
def kcc213 : ak_C := (18, [.inl 12, .inr (false, [(-1, 60)]), .inr (false, [(14, 14)]), .inr (false, [(1, 1)]), .inr (false, [(9, 9)])], kch160, [], [([], some (.inr (false, [(-9, -9)])), kch161), ([], some (.inr (false, [(-1, 63)])), [])])
/-- MiceRegisters.readMouse -/
def kcc214 : ak_C := (19, [.inl 0, .inl 12, .inr (false, [(-1, 60)]), .inr (false, [(12, 12)])], kch45, [24, 29, 30, 31], [([], some (.inr (false, [(-1, 63)])), kch37), ([], some (.inr (false, [(-9, -9)])), kch39)])
theorem kck214 : ai_chk [kcc28, kcc212, kcc213] kcc214 (fun pc => sm_ch sm_t19 pc, sm_Kn 2 6 none, fun x => sm_lk sm_ca2 x, some .int) [24, 29, 30, 31] 6 0 [] [] 2000 [] = true := by decide +kernel
/-- MiceRegisters.readLine -/
def kcc215 : ak_C := (17, [.inl 0, .inl 13, .inr (false, [(-1, 60)]), .inr (false, [(12, 12)])], kch46, [24, 25, 26], [([[], [], [], []], some (.inr (false, [(-1, 60)])), kch26), ([[], [], [(1, 60)], []], some (.inr (false, [(-9, -9)])), kch28)])
theorem kck215 : ai_chk [kcc37] kcc215 (fun pc => sm_ch sm_t17 pc, sm_Kn 2 6 none, fun x => sm_lk sm_ca2 x, some .int) [24, 25, 26] 6 4 [29] [] 2000 [(29, [(0, .inl 0), (1, .inl 13), (2, .inr (false, [(-1, 60)])), (3, .inr (false, [(12, 12)])), (4, .inr (false, [(13, 13)]))], [], kch47),
  (29, [(0, .inl 0), (1, .inl 13), (2, .inr (false, [(1, 60)])), (3, .inr (false, [(12, 12)])), (4, .inr (false, [(14, 14)])), (5, .inr (false, [(-9, -9)]))], [], kch47),
  (29, [(0, .inl 0), (1, .inl 13), (2, .inr (false, [(1, 60)])), (3, .inr (false, [(12, 12)])), (4, .inr (false, [(15, 15)])), (5, .inr (false, [(-9, -9)]))], [], kch47),
  (29, [(0, .inl 0), (1, .inl 13), (2, .inr (false, [(1, 60)])), (3, .inr (false, [(12, 12)])), (4, .inr (false, [(16, 16)])), (5, .inr (false, [(-9, -9)]))], [], kch47)] = true := by decide +kernel
def kch162 : aw_H := [(13, kcx156)]
/-- MiceRegisters.faultOfFigure -/
def kcc216 : ak_C := (18, [.inl 13, .inr (false, [(-1, 60)]), .inr (false, [(13, 13)]), .inr (false, [(0, 0)]), .inr (false, [(0, 7)])], kch22, [], [([], some (.inr (false, [(-9, -9)])), kch162), ([], some (.inr (false, [(-1, 63)])), [])])
def kch163 : aw_H := [(13, kcx158)]
/-- MiceRegisters.faultOfFigure -/
def kcc217 : ak_C := (18, [.inl 13, .inr (false, [(-1, 60)]), .inr (false, [(14, 14)]), .inr (false, [(1, 1)]), .inr (false, [(9, 9)])], kch162, [], [([], some (.inr (false, [(-9, -9)])), kch163), ([], some (.inr (false, [(-1, 63)])), [])])
/-- MiceRegisters.readMouse -/
def kcc218 : ak_C := (19, [.inl 0, .inl 13, .inr (false, [(-1, 60)]), .inr (false, [(12, 12)])], kch50, [24, 29, 30, 31], [([], some (.inr (false, [(-1, 63)])), kch37), ([], some (.inr (false, [(-9, -9)])), kch39)])
theorem kck218 : ai_chk [kcc28, kcc216, kcc217] kcc218 (fun pc => sm_ch sm_t19 pc, sm_Kn 2 6 none, fun x => sm_lk sm_ca2 x, some .int) [24, 29, 30, 31] 6 0 [] [] 2000 [] = true := by decide +kernel
/-- MiceRegisters.readLine -/
def kcc219 : ak_C := (17, [.inl 0, .inl 14, .inr (false, [(-1, 60)]), .inr (false, [(12, 12)])], kch51, [24, 25, 26], [([[], [], [], []], some (.inr (false, [(-1, 60)])), kch26), ([[], [], [(1, 60)], []], some (.inr (false, [(-9, -9)])), kch28)])
theorem kck219 : ai_chk [kcc42] kcc219 (fun pc => sm_ch sm_t17 pc, sm_Kn 2 6 none, fun x => sm_lk sm_ca2 x, some .int) [24, 25, 26] 6 4 [29] [] 2000 [(29, [(0, .inl 0), (1, .inl 14), (2, .inr (false, [(-1, 60)])), (3, .inr (false, [(12, 12)])), (4, .inr (false, [(13, 13)]))], [], kch52),
  (29, [(0, .inl 0), (1, .inl 14), (2, .inr (false, [(1, 60)])), (3, .inr (false, [(12, 12)])), (4, .inr (false, [(14, 14)])), (5, .inr (false, [(-9, -9)]))], [], kch52),
  (29, [(0, .inl 0), (1, .inl 14), (2, .inr (false, [(1, 60)])), (3, .inr (false, [(12, 12)])), (4, .inr (false, [(15, 15)])), (5, .inr (false, [(-9, -9)]))], [], kch52),
  (29, [(0, .inl 0), (1, .inl 14), (2, .inr (false, [(1, 60)])), (3, .inr (false, [(12, 12)])), (4, .inr (false, [(16, 16)])), (5, .inr (false, [(-9, -9)]))], [], kch52)] = true := by decide +kernel
def kch164 : aw_H := [(14, kcx156)]
/-- MiceRegisters.faultOfFigure -/
def kcc220 : ak_C := (18, [.inl 14, .inr (false, [(-1, 60)]), .inr (false, [(13, 13)]), .inr (false, [(0, 0)]), .inr (false, [(0, 7)])], kch21, [], [([], some (.inr (false, [(-9, -9)])), kch164), ([], some (.inr (false, [(-1, 63)])), [])])
def kch165 : aw_H := [(14, kcx158)]
/-- MiceRegisters.faultOfFigure -/
def kcc221 : ak_C := (18, [.inl 14, .inr (false, [(-1, 60)]), .inr (false, [(14, 14)]), .inr (false, [(1, 1)]), .inr (false, [(9, 9)])], kch164, [], [([], some (.inr (false, [(-9, -9)])), kch165), ([], some (.inr (false, [(-1, 63)])), [])])
/-- MiceRegisters.readMouse -/
def kcc222 : ak_C := (19, [.inl 0, .inl 14, .inr (false, [(-1, 60)]), .inr (false, [(12, 12)])], kch55, [24, 29, 30, 31], [([], some (.inr (false, [(-1, 63)])), kch37), ([], some (.inr (false, [(-9, -9)])), kch39)])
theorem kck222 : ai_chk [kcc28, kcc220, kcc221] kcc222 (fun pc => sm_ch sm_t19 pc, sm_Kn 2 6 none, fun x => sm_lk sm_ca2 x, some .int) [24, 29, 30, 31] 6 0 [] [] 2000 [] = true := by decide +kernel
/-- MiceRegisters.readLine -/
def kcc223 : ak_C := (17, [.inl 0, .inl 11, .inr (false, [(-1, 60)]), .inr (false, [(13, 13)])], kch29, [24, 25, 26], [([[], [], [], []], some (.inr (false, [(-1, 60)])), kch26), ([[], [], [(1, 60)], []], some (.inr (false, [(-9, -9)])), kch28)])
theorem kck223 : ai_chk [kcc26] kcc223 (fun pc => sm_ch sm_t17 pc, sm_Kn 2 6 none, fun x => sm_lk sm_ca2 x, some .int) [24, 25, 26] 6 4 [29] [] 2000 [(29, [(0, .inl 0), (1, .inl 11), (2, .inr (false, [(-1, 60)])), (3, .inr (false, [(13, 13)])), (4, .inr (false, [(14, 14)]))], [], kch31),
  (29, [(0, .inl 0), (1, .inl 11), (2, .inr (false, [(1, 60)])), (3, .inr (false, [(13, 13)])), (4, .inr (false, [(15, 15)])), (5, .inr (false, [(-9, -9)]))], [], kch31),
  (29, [(0, .inl 0), (1, .inl 11), (2, .inr (false, [(1, 60)])), (3, .inr (false, [(13, 13)])), (4, .inr (false, [(16, 16)])), (5, .inr (false, [(-9, -9)]))], [], kch31),
  (29, [(0, .inl 0), (1, .inl 11), (2, .inr (false, [(1, 60)])), (3, .inr (false, [(13, 13)])), (4, .inr (false, [(17, 17)])), (5, .inr (false, [(-9, -9)]))], [], kch31)] = true := by decide +kernel
def kcx166 : aw_A := .inr (.inl (1, 60, [], [(14, [(48, 55)])]))
def kch167 : aw_H := [(11, kcx166)]
/-- MiceRegisters.faultOfFigure -/
def kcc224 : ak_C := (18, [.inl 11, .inr (false, [(-1, 60)]), .inr (false, [(14, 14)]), .inr (false, [(0, 0)]), .inr (false, [(0, 7)])], kch24, [], [([], some (.inr (false, [(-9, -9)])), kch167), ([], some (.inr (false, [(-1, 63)])), [])])
def kcx168 : aw_A := .inr (.inl (1, 60, [], [(15, [(49, 57)]), (14, [(48, 55)])]))
def kch169 : aw_H := [(11, kcx168)]
/-- MiceRegisters.faultOfFigure -/
def kcc225 : ak_C := (18, [.inl 11, .inr (false, [(-1, 60)]), .inr (false, [(15, 15)]), .inr (false, [(1, 1)]), .inr (false, [(9, 9)])], kch167, [], [([], some (.inr (false, [(-9, -9)])), kch169), ([], some (.inr (false, [(-1, 63)])), [])])
/-- MiceRegisters.readMouse -/
def kcc226 : ak_C := (19, [.inl 0, .inl 11, .inr (false, [(-1, 60)]), .inr (false, [(13, 13)])], kch40, [24, 29, 30, 31], [([], some (.inr (false, [(-1, 63)])), kch37), ([], some (.inr (false, [(-9, -9)])), kch39)])
theorem kck226 : ai_chk [kcc28, kcc224, kcc225] kcc226 (fun pc => sm_ch sm_t19 pc, sm_Kn 2 6 none, fun x => sm_lk sm_ca2 x, some .int) [24, 29, 30, 31] 6 0 [] [] 2000 [] = true := by decide +kernel
/-- MiceRegisters.readLine -/
def kcc227 : ak_C := (17, [.inl 0, .inl 12, .inr (false, [(-1, 60)]), .inr (false, [(13, 13)])], kch41, [24, 25, 26], [([[], [], [], []], some (.inr (false, [(-1, 60)])), kch26), ([[], [], [(1, 60)], []], some (.inr (false, [(-9, -9)])), kch28)])
theorem kck227 : ai_chk [kcc32] kcc227 (fun pc => sm_ch sm_t17 pc, sm_Kn 2 6 none, fun x => sm_lk sm_ca2 x, some .int) [24, 25, 26] 6 4 [29] [] 2000 [(29, [(0, .inl 0), (1, .inl 12), (2, .inr (false, [(-1, 60)])), (3, .inr (false, [(13, 13)])), (4, .inr (false, [(14, 14)]))], [], kch42),
  (29, [(0, .inl 0), (1, .inl 12), (2, .inr (false, [(1, 60)])), (3, .inr (false, [(13, 13)])), (4, .inr (false, [(15, 15)])), (5, .inr (false, [(-9, -9)]))], [], kch42),
  (29, [(0, .inl 0), (1, .inl 12), (2, .inr (false, [(1, 60)])), (3, .inr (false, [(13, 13)])), (4, .inr (false, [(16, 16)])), (5, .inr (false, [(-9, -9)]))], [], kch42),
  (29, [(0, .inl 0), (1, .inl 12), (2, .inr (false, [(1, 60)])), (3, .inr (false, [(13, 13)])), (4, .inr (false, [(17, 17)])), (5, .inr (false, [(-9, -9)]))], [], kch42)] = true := by decide +kernel
def kch170 : aw_H := [(12, kcx166)]
/-- MiceRegisters.faultOfFigure -/
def kcc228 : ak_C := (18, [.inl 12, .inr (false, [(-1, 60)]), .inr (false, [(14, 14)]), .inr (false, [(0, 0)]), .inr (false, [(0, 7)])], kch23, [], [([], some (.inr (false, [(-9, -9)])), kch170), ([], some (.inr (false, [(-1, 63)])), [])])
def kch171 : aw_H := [(12, kcx168)]
/-- MiceRegisters.faultOfFigure -/
def kcc229 : ak_C := (18, [.inl 12, .inr (false, [(-1, 60)]), .inr (false, [(15, 15)]), .inr (false, [(1, 1)]), .inr (false, [(9, 9)])], kch170, [], [([], some (.inr (false, [(-9, -9)])), kch171), ([], some (.inr (false, [(-1, 63)])), [])])
/-- MiceRegisters.readMouse -/
def kcc230 : ak_C := (19, [.inl 0, .inl 12, .inr (false, [(-1, 60)]), .inr (false, [(13, 13)])], kch45, [24, 29, 30, 31], [([], some (.inr (false, [(-1, 63)])), kch37), ([], some (.inr (false, [(-9, -9)])), kch39)])
theorem kck230 : ai_chk [kcc28, kcc228, kcc229] kcc230 (fun pc => sm_ch sm_t19 pc, sm_Kn 2 6 none, fun x => sm_lk sm_ca2 x, some .int) [24, 29, 30, 31] 6 0 [] [] 2000 [] = true := by decide +kernel
/-- MiceRegisters.readLine -/
def kcc231 : ak_C := (17, [.inl 0, .inl 13, .inr (false, [(-1, 60)]), .inr (false, [(13, 13)])], kch46, [24, 25, 26], [([[], [], [], []], some (.inr (false, [(-1, 60)])), kch26), ([[], [], [(1, 60)], []], some (.inr (false, [(-9, -9)])), kch28)])
theorem kck231 : ai_chk [kcc37] kcc231 (fun pc => sm_ch sm_t17 pc, sm_Kn 2 6 none, fun x => sm_lk sm_ca2 x, some .int) [24, 25, 26] 6 4 [29] [] 2000 [(29, [(0, .inl 0), (1, .inl 13), (2, .inr (false, [(-1, 60)])), (3, .inr (false, [(13, 13)])), (4, .inr (false, [(14, 14)]))], [], kch47),
  (29, [(0, .inl 0), (1, .inl 13), (2, .inr (false, [(1, 60)])), (3, .inr (false, [(13, 13)])), (4, .inr (false, [(15, 15)])), (5, .inr (false, [(-9, -9)]))], [], kch47),
  (29, [(0, .inl 0), (1, .inl 13), (2, .inr (false, [(1, 60)])), (3, .inr (false, [(13, 13)])), (4, .inr (false, [(16, 16)])), (5, .inr (false, [(-9, -9)]))], [], kch47),
  (29, [(0, .inl 0), (1, .inl 13), (2, .inr (false, [(1, 60)])), (3, .inr (false, [(13, 13)])), (4, .inr (false, [(17, 17)])), (5, .inr (false, [(-9, -9)]))], [], kch47)] = true := by decide +kernel
def kch172 : aw_H := [(13, kcx166)]
/-- MiceRegisters.faultOfFigure -/
def kcc232 : ak_C := (18, [.inl 13, .inr (false, [(-1, 60)]), .inr (false, [(14, 14)]), .inr (false, [(0, 0)]), .inr (false, [(0, 7)])], kch22, [], [([], some (.inr (false, [(-9, -9)])), kch172), ([], some (.inr (false, [(-1, 63)])), [])])
def kch173 : aw_H := [(13, kcx168)]
/-- MiceRegisters.faultOfFigure -/
def kcc233 : ak_C := (18, [.inl 13, .inr (false, [(-1, 60)]), .inr (false, [(15, 15)]), .inr (false, [(1, 1)]), .inr (false, [(9, 9)])], kch172, [], [([], some (.inr (false, [(-9, -9)])), kch173), ([], some (.inr (false, [(-1, 63)])), [])])
/-- MiceRegisters.readMouse -/
def kcc234 : ak_C := (19, [.inl 0, .inl 13, .inr (false, [(-1, 60)]), .inr (false, [(13, 13)])], kch50, [24, 29, 30, 31], [([], some (.inr (false, [(-1, 63)])), kch37), ([], some (.inr (false, [(-9, -9)])), kch39)])
theorem kck234 : ai_chk [kcc28, kcc232, kcc233] kcc234 (fun pc => sm_ch sm_t19 pc, sm_Kn 2 6 none, fun x => sm_lk sm_ca2 x, some .int) [24, 29, 30, 31] 6 0 [] [] 2000 [] = true := by decide +kernel
/-- MiceRegisters.readLine -/
def kcc235 : ak_C := (17, [.inl 0, .inl 14, .inr (false, [(-1, 60)]), .inr (false, [(13, 13)])], kch51, [24, 25, 26], [([[], [], [], []], some (.inr (false, [(-1, 60)])), kch26), ([[], [], [(1, 60)], []], some (.inr (false, [(-9, -9)])), kch28)])
theorem kck235 : ai_chk [kcc42] kcc235 (fun pc => sm_ch sm_t17 pc, sm_Kn 2 6 none, fun x => sm_lk sm_ca2 x, some .int) [24, 25, 26] 6 4 [29] [] 2000 [(29, [(0, .inl 0), (1, .inl 14), (2, .inr (false, [(-1, 60)])), (3, .inr (false, [(13, 13)])), (4, .inr (false, [(14, 14)]))], [], kch52),
  (29, [(0, .inl 0), (1, .inl 14), (2, .inr (false, [(1, 60)])), (3, .inr (false, [(13, 13)])), (4, .inr (false, [(15, 15)])), (5, .inr (false, [(-9, -9)]))], [], kch52),
  (29, [(0, .inl 0), (1, .inl 14), (2, .inr (false, [(1, 60)])), (3, .inr (false, [(13, 13)])), (4, .inr (false, [(16, 16)])), (5, .inr (false, [(-9, -9)]))], [], kch52),
  (29, [(0, .inl 0), (1, .inl 14), (2, .inr (false, [(1, 60)])), (3, .inr (false, [(13, 13)])), (4, .inr (false, [(17, 17)])), (5, .inr (false, [(-9, -9)]))], [], kch52)] = true := by decide +kernel
def kch174 : aw_H := [(14, kcx166)]
/-- MiceRegisters.faultOfFigure -/
def kcc236 : ak_C := (18, [.inl 14, .inr (false, [(-1, 60)]), .inr (false, [(14, 14)]), .inr (false, [(0, 0)]), .inr (false, [(0, 7)])], kch21, [], [([], some (.inr (false, [(-9, -9)])), kch174), ([], some (.inr (false, [(-1, 63)])), [])])
def kch175 : aw_H := [(14, kcx168)]
/-- MiceRegisters.faultOfFigure -/
def kcc237 : ak_C := (18, [.inl 14, .inr (false, [(-1, 60)]), .inr (false, [(15, 15)]), .inr (false, [(1, 1)]), .inr (false, [(9, 9)])], kch174, [], [([], some (.inr (false, [(-9, -9)])), kch175), ([], some (.inr (false, [(-1, 63)])), [])])
/-- MiceRegisters.readMouse -/
def kcc238 : ak_C := (19, [.inl 0, .inl 14, .inr (false, [(-1, 60)]), .inr (false, [(13, 13)])], kch55, [24, 29, 30, 31], [([], some (.inr (false, [(-1, 63)])), kch37), ([], some (.inr (false, [(-9, -9)])), kch39)])
theorem kck238 : ai_chk [kcc28, kcc236, kcc237] kcc238 (fun pc => sm_ch sm_t19 pc, sm_Kn 2 6 none, fun x => sm_lk sm_ca2 x, some .int) [24, 29, 30, 31] 6 0 [] [] 2000 [] = true := by decide +kernel
/-- MiceRegisters.readLine -/
def kcc239 : ak_C := (17, [.inl 0, .inl 11, .inr (false, [(-1, 60)]), .inr (false, [(14, 14)])], kch29, [24, 25, 26], [([[], [], [], []], some (.inr (false, [(-1, 60)])), kch26), ([[], [], [(1, 60)], []], some (.inr (false, [(-9, -9)])), kch28)])
theorem kck239 : ai_chk [kcc26] kcc239 (fun pc => sm_ch sm_t17 pc, sm_Kn 2 6 none, fun x => sm_lk sm_ca2 x, some .int) [24, 25, 26] 6 4 [29] [] 2000 [(29, [(0, .inl 0), (1, .inl 11), (2, .inr (false, [(-1, 60)])), (3, .inr (false, [(14, 14)])), (4, .inr (false, [(15, 15)]))], [], kch31),
  (29, [(0, .inl 0), (1, .inl 11), (2, .inr (false, [(1, 60)])), (3, .inr (false, [(14, 14)])), (4, .inr (false, [(16, 16)])), (5, .inr (false, [(-9, -9)]))], [], kch31),
  (29, [(0, .inl 0), (1, .inl 11), (2, .inr (false, [(1, 60)])), (3, .inr (false, [(14, 14)])), (4, .inr (false, [(17, 17)])), (5, .inr (false, [(-9, -9)]))], [], kch31),
  (29, [(0, .inl 0), (1, .inl 11), (2, .inr (false, [(1, 60)])), (3, .inr (false, [(14, 14)])), (4, .inr (false, [(18, 18)])), (5, .inr (false, [(-9, -9)]))], [], kch31)] = true := by decide +kernel
def kcx176 : aw_A := .inr (.inl (1, 60, [], [(15, [(48, 55)])]))
def kch177 : aw_H := [(11, kcx176)]
/-- MiceRegisters.faultOfFigure -/
def kcc240 : ak_C := (18, [.inl 11, .inr (false, [(-1, 60)]), .inr (false, [(15, 15)]), .inr (false, [(0, 0)]), .inr (false, [(0, 7)])], kch24, [], [([], some (.inr (false, [(-9, -9)])), kch177), ([], some (.inr (false, [(-1, 63)])), [])])
def kcx178 : aw_A := .inr (.inl (1, 60, [], [(16, [(49, 57)]), (15, [(48, 55)])]))
def kch179 : aw_H := [(11, kcx178)]
/-- MiceRegisters.faultOfFigure -/
def kcc241 : ak_C := (18, [.inl 11, .inr (false, [(-1, 60)]), .inr (false, [(16, 16)]), .inr (false, [(1, 1)]), .inr (false, [(9, 9)])], kch177, [], [([], some (.inr (false, [(-9, -9)])), kch179), ([], some (.inr (false, [(-1, 63)])), [])])
/-- MiceRegisters.readMouse -/
def kcc242 : ak_C := (19, [.inl 0, .inl 11, .inr (false, [(-1, 60)]), .inr (false, [(14, 14)])], kch40, [24, 29, 30, 31], [([], some (.inr (false, [(-1, 63)])), kch37), ([], some (.inr (false, [(-9, -9)])), kch39)])
theorem kck242 : ai_chk [kcc28, kcc240, kcc241] kcc242 (fun pc => sm_ch sm_t19 pc, sm_Kn 2 6 none, fun x => sm_lk sm_ca2 x, some .int) [24, 29, 30, 31] 6 0 [] [] 2000 [] = true := by decide +kernel
/-- MiceRegisters.readLine -/
def kcc243 : ak_C := (17, [.inl 0, .inl 12, .inr (false, [(-1, 60)]), .inr (false, [(14, 14)])], kch41, [24, 25, 26], [([[], [], [], []], some (.inr (false, [(-1, 60)])), kch26), ([[], [], [(1, 60)], []], some (.inr (false, [(-9, -9)])), kch28)])
theorem kck243 : ai_chk [kcc32] kcc243 (fun pc => sm_ch sm_t17 pc, sm_Kn 2 6 none, fun x => sm_lk sm_ca2 x, some .int) [24, 25, 26] 6 4 [29] [] 2000 [(29, [(0, .inl 0), (1, .inl 12), (2, .inr (false, [(-1, 60)])), (3, .inr (false, [(14, 14)])), (4, .inr (false, [(15, 15)]))], [], kch42),
  (29, [(0, .inl 0), (1, .inl 12), (2, .inr (false, [(1, 60)])), (3, .inr (false, [(14, 14)])), (4, .inr (false, [(16, 16)])), (5, .inr (false, [(-9, -9)]))], [], kch42),
  (29, [(0, .inl 0), (1, .inl 12), (2, .inr (false, [(1, 60)])), (3, .inr (false, [(14, 14)])), (4, .inr (false, [(17, 17)])), (5, .inr (false, [(-9, -9)]))], [], kch42),
  (29, [(0, .inl 0), (1, .inl 12), (2, .inr (false, [(1, 60)])), (3, .inr (false, [(14, 14)])), (4, .inr (false, [(18, 18)])), (5, .inr (false, [(-9, -9)]))], [], kch42)] = true := by decide +kernel
def kch180 : aw_H := [(12, kcx176)]
/-- MiceRegisters.faultOfFigure -/
def kcc244 : ak_C := (18, [.inl 12, .inr (false, [(-1, 60)]), .inr (false, [(15, 15)]), .inr (false, [(0, 0)]), .inr (false, [(0, 7)])], kch23, [], [([], some (.inr (false, [(-9, -9)])), kch180), ([], some (.inr (false, [(-1, 63)])), [])])
def kch181 : aw_H := [(12, kcx178)]
/-- MiceRegisters.faultOfFigure -/
def kcc245 : ak_C := (18, [.inl 12, .inr (false, [(-1, 60)]), .inr (false, [(16, 16)]), .inr (false, [(1, 1)]), .inr (false, [(9, 9)])], kch180, [], [([], some (.inr (false, [(-9, -9)])), kch181), ([], some (.inr (false, [(-1, 63)])), [])])
/-- MiceRegisters.readMouse -/
def kcc246 : ak_C := (19, [.inl 0, .inl 12, .inr (false, [(-1, 60)]), .inr (false, [(14, 14)])], kch45, [24, 29, 30, 31], [([], some (.inr (false, [(-1, 63)])), kch37), ([], some (.inr (false, [(-9, -9)])), kch39)])
theorem kck246 : ai_chk [kcc28, kcc244, kcc245] kcc246 (fun pc => sm_ch sm_t19 pc, sm_Kn 2 6 none, fun x => sm_lk sm_ca2 x, some .int) [24, 29, 30, 31] 6 0 [] [] 2000 [] = true := by decide +kernel
/-- MiceRegisters.readLine -/
def kcc247 : ak_C := (17, [.inl 0, .inl 13, .inr (false, [(-1, 60)]), .inr (false, [(14, 14)])], kch46, [24, 25, 26], [([[], [], [], []], some (.inr (false, [(-1, 60)])), kch26), ([[], [], [(1, 60)], []], some (.inr (false, [(-9, -9)])), kch28)])
theorem kck247 : ai_chk [kcc37] kcc247 (fun pc => sm_ch sm_t17 pc, sm_Kn 2 6 none, fun x => sm_lk sm_ca2 x, some .int) [24, 25, 26] 6 4 [29] [] 2000 [(29, [(0, .inl 0), (1, .inl 13), (2, .inr (false, [(-1, 60)])), (3, .inr (false, [(14, 14)])), (4, .inr (false, [(15, 15)]))], [], kch47),
  (29, [(0, .inl 0), (1, .inl 13), (2, .inr (false, [(1, 60)])), (3, .inr (false, [(14, 14)])), (4, .inr (false, [(16, 16)])), (5, .inr (false, [(-9, -9)]))], [], kch47),
  (29, [(0, .inl 0), (1, .inl 13), (2, .inr (false, [(1, 60)])), (3, .inr (false, [(14, 14)])), (4, .inr (false, [(17, 17)])), (5, .inr (false, [(-9, -9)]))], [], kch47),
  (29, [(0, .inl 0), (1, .inl 13), (2, .inr (false, [(1, 60)])), (3, .inr (false, [(14, 14)])), (4, .inr (false, [(18, 18)])), (5, .inr (false, [(-9, -9)]))], [], kch47)] = true := by decide +kernel
def kch182 : aw_H := [(13, kcx176)]
/-- MiceRegisters.faultOfFigure -/
def kcc248 : ak_C := (18, [.inl 13, .inr (false, [(-1, 60)]), .inr (false, [(15, 15)]), .inr (false, [(0, 0)]), .inr (false, [(0, 7)])], kch22, [], [([], some (.inr (false, [(-9, -9)])), kch182), ([], some (.inr (false, [(-1, 63)])), [])])
def kch183 : aw_H := [(13, kcx178)]
/-- MiceRegisters.faultOfFigure -/
def kcc249 : ak_C := (18, [.inl 13, .inr (false, [(-1, 60)]), .inr (false, [(16, 16)]), .inr (false, [(1, 1)]), .inr (false, [(9, 9)])], kch182, [], [([], some (.inr (false, [(-9, -9)])), kch183), ([], some (.inr (false, [(-1, 63)])), [])])
/-- MiceRegisters.readMouse -/
def kcc250 : ak_C := (19, [.inl 0, .inl 13, .inr (false, [(-1, 60)]), .inr (false, [(14, 14)])], kch50, [24, 29, 30, 31], [([], some (.inr (false, [(-1, 63)])), kch37), ([], some (.inr (false, [(-9, -9)])), kch39)])
theorem kck250 : ai_chk [kcc28, kcc248, kcc249] kcc250 (fun pc => sm_ch sm_t19 pc, sm_Kn 2 6 none, fun x => sm_lk sm_ca2 x, some .int) [24, 29, 30, 31] 6 0 [] [] 2000 [] = true := by decide +kernel
/-- MiceRegisters.readLine -/
def kcc251 : ak_C := (17, [.inl 0, .inl 14, .inr (false, [(-1, 60)]), .inr (false, [(14, 14)])], kch51, [24, 25, 26], [([[], [], [], []], some (.inr (false, [(-1, 60)])), kch26), ([[], [], [(1, 60)], []], some (.inr (false, [(-9, -9)])), kch28)])
theorem kck251 : ai_chk [kcc42] kcc251 (fun pc => sm_ch sm_t17 pc, sm_Kn 2 6 none, fun x => sm_lk sm_ca2 x, some .int) [24, 25, 26] 6 4 [29] [] 2000 [(29, [(0, .inl 0), (1, .inl 14), (2, .inr (false, [(-1, 60)])), (3, .inr (false, [(14, 14)])), (4, .inr (false, [(15, 15)]))], [], kch52),
  (29, [(0, .inl 0), (1, .inl 14), (2, .inr (false, [(1, 60)])), (3, .inr (false, [(14, 14)])), (4, .inr (false, [(16, 16)])), (5, .inr (false, [(-9, -9)]))], [], kch52),
  (29, [(0, .inl 0), (1, .inl 14), (2, .inr (false, [(1, 60)])), (3, .inr (false, [(14, 14)])), (4, .inr (false, [(17, 17)])), (5, .inr (false, [(-9, -9)]))], [], kch52),
  (29, [(0, .inl 0), (1, .inl 14), (2, .inr (false, [(1, 60)])), (3, .inr (false, [(14, 14)])), (4, .inr (false, [(18, 18)])), (5, .inr (false, [(-9, -9)]))], [], kch52)] = true := by decide +kernel
def kch184 : aw_H := [(14, kcx176)]
/-- MiceRegisters.faultOfFigure -/
def kcc252 : ak_C := (18, [.inl 14, .inr (false, [(-1, 60)]), .inr (false, [(15, 15)]), .inr (false, [(0, 0)]), .inr (false, [(0, 7)])], kch21, [], [([], some (.inr (false, [(-9, -9)])), kch184), ([], some (.inr (false, [(-1, 63)])), [])])
def kch185 : aw_H := [(14, kcx178)]
/-- MiceRegisters.faultOfFigure -/
def kcc253 : ak_C := (18, [.inl 14, .inr (false, [(-1, 60)]), .inr (false, [(16, 16)]), .inr (false, [(1, 1)]), .inr (false, [(9, 9)])], kch184, [], [([], some (.inr (false, [(-9, -9)])), kch185), ([], some (.inr (false, [(-1, 63)])), [])])
/-- MiceRegisters.readMouse -/
def kcc254 : ak_C := (19, [.inl 0, .inl 14, .inr (false, [(-1, 60)]), .inr (false, [(14, 14)])], kch55, [24, 29, 30, 31], [([], some (.inr (false, [(-1, 63)])), kch37), ([], some (.inr (false, [(-9, -9)])), kch39)])
theorem kck254 : ai_chk [kcc28, kcc252, kcc253] kcc254 (fun pc => sm_ch sm_t19 pc, sm_Kn 2 6 none, fun x => sm_lk sm_ca2 x, some .int) [24, 29, 30, 31] 6 0 [] [] 2000 [] = true := by decide +kernel
/-- MiceRegisters.readLine -/
def kcc255 : ak_C := (17, [.inl 0, .inl 11, .inr (false, [(-1, 60)]), .inr (false, [(15, 15)])], kch29, [24, 25, 26], [([[], [], [], []], some (.inr (false, [(-1, 60)])), kch26), ([[], [], [(1, 60)], []], some (.inr (false, [(-9, -9)])), kch28)])
theorem kck255 : ai_chk [kcc26] kcc255 (fun pc => sm_ch sm_t17 pc, sm_Kn 2 6 none, fun x => sm_lk sm_ca2 x, some .int) [24, 25, 26] 6 4 [29] [] 2000 [(29, [(0, .inl 0), (1, .inl 11), (2, .inr (false, [(-1, 60)])), (3, .inr (false, [(15, 15)])), (4, .inr (false, [(16, 16)]))], [], kch31),
  (29, [(0, .inl 0), (1, .inl 11), (2, .inr (false, [(1, 60)])), (3, .inr (false, [(15, 15)])), (4, .inr (false, [(17, 17)])), (5, .inr (false, [(-9, -9)]))], [], kch31),
  (29, [(0, .inl 0), (1, .inl 11), (2, .inr (false, [(1, 60)])), (3, .inr (false, [(15, 15)])), (4, .inr (false, [(18, 18)])), (5, .inr (false, [(-9, -9)]))], [], kch31),
  (29, [(0, .inl 0), (1, .inl 11), (2, .inr (false, [(1, 60)])), (3, .inr (false, [(15, 15)])), (4, .inr (false, [(19, 19)])), (5, .inr (false, [(-9, -9)]))], [], kch31)] = true := by decide +kernel
def kcx186 : aw_A := .inr (.inl (1, 60, [], [(16, [(48, 55)])]))
def kch187 : aw_H := [(11, kcx186)]
/-- MiceRegisters.faultOfFigure -/
def kcc256 : ak_C := (18, [.inl 11, .inr (false, [(-1, 60)]), .inr (false, [(16, 16)]), .inr (false, [(0, 0)]), .inr (false, [(0, 7)])], kch24, [], [([], some (.inr (false, [(-9, -9)])), kch187), ([], some (.inr (false, [(-1, 63)])), [])])
def kcx188 : aw_A := .inr (.inl (1, 60, [], [(17, [(49, 57)]), (16, [(48, 55)])]))
def kch189 : aw_H := [(11, kcx188)]
/-- MiceRegisters.faultOfFigure -/
def kcc257 : ak_C := (18, [.inl 11, .inr (false, [(-1, 60)]), .inr (false, [(17, 17)]), .inr (false, [(1, 1)]), .inr (false, [(9, 9)])], kch187, [], [([], some (.inr (false, [(-9, -9)])), kch189), ([], some (.inr (false, [(-1, 63)])), [])])
/-- MiceRegisters.readMouse -/
def kcc258 : ak_C := (19, [.inl 0, .inl 11, .inr (false, [(-1, 60)]), .inr (false, [(15, 15)])], kch40, [24, 29, 30, 31], [([], some (.inr (false, [(-1, 63)])), kch37), ([], some (.inr (false, [(-9, -9)])), kch39)])
theorem kck258 : ai_chk [kcc28, kcc256, kcc257] kcc258 (fun pc => sm_ch sm_t19 pc, sm_Kn 2 6 none, fun x => sm_lk sm_ca2 x, some .int) [24, 29, 30, 31] 6 0 [] [] 2000 [] = true := by decide +kernel
/-- MiceRegisters.readLine -/
def kcc259 : ak_C := (17, [.inl 0, .inl 12, .inr (false, [(-1, 60)]), .inr (false, [(15, 15)])], kch41, [24, 25, 26], [([[], [], [], []], some (.inr (false, [(-1, 60)])), kch26), ([[], [], [(1, 60)], []], some (.inr (false, [(-9, -9)])), kch28)])
theorem kck259 : ai_chk [kcc32] kcc259 (fun pc => sm_ch sm_t17 pc, sm_Kn 2 6 none, fun x => sm_lk sm_ca2 x, some .int) [24, 25, 26] 6 4 [29] [] 2000 [(29, [(0, .inl 0), (1, .inl 12), (2, .inr (false, [(-1, 60)])), (3, .inr (false, [(15, 15)])), (4, .inr (false, [(16, 16)]))], [], kch42),
  (29, [(0, .inl 0), (1, .inl 12), (2, .inr (false, [(1, 60)])), (3, .inr (false, [(15, 15)])), (4, .inr (false, [(17, 17)])), (5, .inr (false, [(-9, -9)]))], [], kch42),
  (29, [(0, .inl 0), (1, .inl 12), (2, .inr (false, [(1, 60)])), (3, .inr (false, [(15, 15)])), (4, .inr (false, [(18, 18)])), (5, .inr (false, [(-9, -9)]))], [], kch42),
  (29, [(0, .inl 0), (1, .inl 12), (2, .inr (false, [(1, 60)])), (3, .inr (false, [(15, 15)])), (4, .inr (false, [(19, 19)])), (5, .inr (false, [(-9, -9)]))], [], kch42)] = true := by decide +kernel
def kch190 : aw_H := [(12, kcx186)]
/-- MiceRegisters.faultOfFigure -/
def kcc260 : ak_C := (18, [.inl 12, .inr (false, [(-1, 60)]), .inr (false, [(16, 16)]), .inr (false, [(0, 0)]), .inr (false, [(0, 7)])], kch23, [], [([], some (.inr (false, [(-9, -9)])), kch190), ([], some (.inr (false, [(-1, 63)])), [])])
def kch191 : aw_H := [(12, kcx188)]
/-- MiceRegisters.faultOfFigure -/
def kcc261 : ak_C := (18, [.inl 12, .inr (false, [(-1, 60)]), .inr (false, [(17, 17)]), .inr (false, [(1, 1)]), .inr (false, [(9, 9)])], kch190, [], [([], some (.inr (false, [(-9, -9)])), kch191), ([], some (.inr (false, [(-1, 63)])), [])])
/-- MiceRegisters.readMouse -/
def kcc262 : ak_C := (19, [.inl 0, .inl 12, .inr (false, [(-1, 60)]), .inr (false, [(15, 15)])], kch45, [24, 29, 30, 31], [([], some (.inr (false, [(-1, 63)])), kch37), ([], some (.inr (false, [(-9, -9)])), kch39)])
theorem kck262 : ai_chk [kcc28, kcc260, kcc261] kcc262 (fun pc => sm_ch sm_t19 pc, sm_Kn 2 6 none, fun x => sm_lk sm_ca2 x, some .int) [24, 29, 30, 31] 6 0 [] [] 2000 [] = true := by decide +kernel
/-- MiceRegisters.readLine -/
def kcc263 : ak_C := (17, [.inl 0, .inl 13, .inr (false, [(-1, 60)]), .inr (false, [(15, 15)])], kch46, [24, 25, 26], [([[], [], [], []], some (.inr (false, [(-1, 60)])), kch26), ([[], [], [(1, 60)], []], some (.inr (false, [(-9, -9)])), kch28)])
theorem kck263 : ai_chk [kcc37] kcc263 (fun pc => sm_ch sm_t17 pc, sm_Kn 2 6 none, fun x => sm_lk sm_ca2 x, some .int) [24, 25, 26] 6 4 [29] [] 2000 [(29, [(0, .inl 0), (1, .inl 13), (2, .inr (false, [(-1, 60)])), (3, .inr (false, [(15, 15)])), (4, .inr (false, [(16, 16)]))], [], kch47),
  (29, [(0, .inl 0), (1, .inl 13), (2, .inr (false, [(1, 60)])), (3, .inr (false, [(15, 15)])), (4, .inr (false, [(17, 17)])), (5, .inr (false, [(-9, -9)]))], [], kch47),
  (29, [(0, .inl 0), (1, .inl 13), (2, .inr (false, [(1, 60)])), (3, .inr (false, [(15, 15)])), (4, .inr (false, [(18, 18)])), (5, .inr (false, [(-9, -9)]))], [], kch47),
  (29, [(0, .inl 0), (1, .inl 13), (2, .inr (false, [(1, 60)])), (3, .inr (false, [(15, 15)])), (4, .inr (false, [(19, 19)])), (5, .inr (false, [(-9, -9)]))], [], kch47)] = true := by decide +kernel
def kch192 : aw_H := [(13, kcx186)]
/-- MiceRegisters.faultOfFigure -/
def kcc264 : ak_C := (18, [.inl 13, .inr (false, [(-1, 60)]), .inr (false, [(16, 16)]), .inr (false, [(0, 0)]), .inr (false, [(0, 7)])], kch22, [], [([], some (.inr (false, [(-9, -9)])), kch192), ([], some (.inr (false, [(-1, 63)])), [])])
def kch193 : aw_H := [(13, kcx188)]
/-- MiceRegisters.faultOfFigure -/
def kcc265 : ak_C := (18, [.inl 13, .inr (false, [(-1, 60)]), .inr (false, [(17, 17)]), .inr (false, [(1, 1)]), .inr (false, [(9, 9)])], kch192, [], [([], some (.inr (false, [(-9, -9)])), kch193), ([], some (.inr (false, [(-1, 63)])), [])])
/-- MiceRegisters.readMouse -/
def kcc266 : ak_C := (19, [.inl 0, .inl 13, .inr (false, [(-1, 60)]), .inr (false, [(15, 15)])], kch50, [24, 29, 30, 31], [([], some (.inr (false, [(-1, 63)])), kch37), ([], some (.inr (false, [(-9, -9)])), kch39)])
theorem kck266 : ai_chk [kcc28, kcc264, kcc265] kcc266 (fun pc => sm_ch sm_t19 pc, sm_Kn 2 6 none, fun x => sm_lk sm_ca2 x, some .int) [24, 29, 30, 31] 6 0 [] [] 2000 [] = true := by decide +kernel
