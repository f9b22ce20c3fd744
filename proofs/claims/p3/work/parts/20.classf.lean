/-! Contracts over ranges of the class, and their checks; printed by a program of mine. -/
/-- MiceRegisters.readLine -/
def kcc531 : ak_C := (17, [.inl 0, .inl 12, .inr (false, [(-1, 60)]), .inr (false, [(32, 32)])], kch41, [24, 25, 26], [([[], [], [], []], some (.inr (false, [(-1, 60)])), kch26), ([[], [], [(1, 60)], []], some (.inr (false, [(-9, -9)])), kch28)])
theorem kck531 : ai_chk [kcc32] kcc531 (fun pc => sm_ch sm_t17 pc, sm_Kn 2 6 none, fun x => sm_lk sm_ca2 x, some .int) [24, 25, 26] 6 4 [29] [] 2000 [(29, [(0, .inl 0), (1, .inl 12), (2, .inr (false, [(-1, 60)])), (3, .inr (false, [(32, 32)])), (4, .inr (false, [(33, 33)]))], [], kch42),
  (29, [(0, .inl 0), (1, .inl 12), (2, .inr (false, [(1, 60)])), (3, .inr (false, [(32, 32)])), (4, .inr (false, [(34, 34)])), (5, .inr (false, [(-9, -9)]))], [], kch42),
  (29, [(0, .inl 0), (1, .inl 12), (2, .inr (false, [(1, 60)])), (3, .inr (false, [(32, 32)])), (4, .inr (false, [(35, 35)])), (5, .inr (false, [(-9, -9)]))], [], kch42),
  (29, [(0, .inl 0), (1, .inl 12), (2, .inr (false, [(1, 60)])), (3, .inr (false, [(32, 32)])), (4, .inr (false, [(36, 36)])), (5, .inr (false, [(-9, -9)]))], [], kch42)] = true := by decide +kernel
def kch360 : aw_H := [(12, kcx356)]
/-- MiceRegisters.faultOfFigure -/
def kcc532 : ak_C := (18, [.inl 12, .inr (false, [(-1, 60)]), .inr (false, [(33, 33)]), .inr (false, [(0, 0)]), .inr (false, [(0, 7)])], kch23, [], [([], some (.inr (false, [(-9, -9)])), kch360), ([], some (.inr (false, [(-1, 63)])), [])])
def kch361 : aw_H := [(12, kcx358)]
/-- MiceRegisters.faultOfFigure -/
def kcc533 : ak_C := (18, [.inl 12, .inr (false, [(-1, 60)]), .inr (false, [(34, 34)]), .inr (false, [(1, 1)]), .inr (false, [(9, 9)])], kch360, [], [([], some (.inr (false, [(-9, -9)])), kch361), ([], some (.inr (false, [(-1, 63)])), [])])
/-- MiceRegisters.readMouse -/
def kcc534 : ak_C := (19, [.inl 0, .inl 12, .inr (false, [(-1, 60)]), .inr (false, [(32, 32)])], kch45, [24, 29, 30, 31], [([], some (.inr (false, [(-1, 63)])), kch37), ([], some (.inr (false, [(-9, -9)])), kch39)])
theorem kck534 : ai_chk [kcc28, kcc532, kcc533] kcc534 (fun pc => sm_ch sm_t19 pc, sm_Kn 2 6 none, fun x => sm_lk sm_ca2 x, some .int) [24, 29, 30, 31] 6 0 [] [] 2000 [] = true := by decide +kernel
/-- MiceRegisters.readLine -/
def kcc535 : ak_C := (17, [.inl 0, .inl 13, .inr (false, [(-1, 60)]), .inr (false, [(32, 32)])], kch46, [24, 25, 26], [([[], [], [], []], some (.inr (false, [(-1, 60)])), kch26), ([[], [], [(1, 60)], []], some (.inr (false, [(-9, -9)])), kch28)])
theorem kck535 : ai_chk [kcc37] kcc535 (fun pc => sm_ch sm_t17 pc, sm_Kn 2 6 none, fun x => sm_lk sm_ca2 x, some .int) [24, 25, 26] 6 4 [29] [] 2000 [(29, [(0, .inl 0), (1, .inl 13), (2, .inr (false, [(-1, 60)])), (3, .inr (false, [(32, 32)])), (4, .inr (false, [(33, 33)]))], [], kch47),
  (29, [(0, .inl 0), (1, .inl 13), (2, .inr (false, [(1, 60)])), (3, .inr (false, [(32, 32)])), (4, .inr (false, [(34, 34)])), (5, .inr (false, [(-9, -9)]))], [], kch47),
  (29, [(0, .inl 0), (1, .inl 13), (2, .inr (false, [(1, 60)])), (3, .inr (false, [(32, 32)])), (4, .inr (false, [(35, 35)])), (5, .inr (false, [(-9, -9)]))], [], kch47),
  (29, [(0, .inl 0), (1, .inl 13), (2, .inr (false, [(1, 60)])), (3, .inr (false, [(32, 32)])), (4, .inr (false, [(36, 36)])), (5, .inr (false, [(-9, -9)]))], [], kch47)] = true := by decide +kernel
def kch362 : aw_H := [(13, kcx356)]
/-- MiceRegisters.faultOfFigure -/
def kcc536 : ak_C := (18, [.inl 13, .inr (false, [(-1, 60)]), .inr (false, [(33, 33)]), .inr (false, [(0, 0)]), .inr (false, [(0, 7)])], kch22, [], [([], some (.inr (false, [(-9, -9)])), kch362), ([], some (.inr (false, [(-1, 63)])), [])])
def kch363 : aw_H := [(13, kcx358)]
/-- MiceRegisters.faultOfFigure -/
def kcc537 : ak_C := (18, [.inl 13, .inr (false, [(-1, 60)]), .inr (false, [(34, 34)]), .inr (false, [(1, 1)]), .inr (false, [(9, 9)])], kch362, [], [([], some (.inr (false, [(-9, -9)])), kch363), ([], some (.inr (false, [(-1, 63)])), [])])
/-- MiceRegisters.readMouse -/
def kcc538 : ak_C := (19, [.inl 0, .inl 13, .inr (false, [(-1, 60)]), .inr (false, [(32, 32)])], kch50, [24, 29, 30, 31], [([], some (.inr (false, [(-1, 63)])), kch37), ([], some (.inr (false, [(-9, -9)])), kch39)])
theorem kck538 : ai_chk [kcc28, kcc536, kcc537] kcc538 (fun pc => sm_ch sm_t19 pc, sm_Kn 2 6 none, fun x => sm_lk sm_ca2 x, some .int) [24, 29, 30, 31] 6 0 [] [] 2000 [] = true := by decide +kernel
/-- MiceRegisters.readLine -/
def kcc539 : ak_C := (17, [.inl 0, .inl 14, .inr (false, [(-1, 60)]), .inr (false, [(32, 32)])], kch51, [24, 25, 26], [([[], [], [], []], some (.inr (false, [(-1, 60)])), kch26), ([[], [], [(1, 60)], []], some (.inr (false, [(-9, -9)])), kch28)])
theorem kck539 : ai_chk [kcc42] kcc539 (fun pc => sm_ch sm_t17 pc, sm_Kn 2 6 none, fun x => sm_lk sm_ca2 x, some .int) [24, 25, 26] 6 4 [29] [] 2000 [(29, [(0, .inl 0), (1, .inl 14), (2, .inr (false, [(-1, 60)])), (3, .inr (false, [(32, 32)])), (4, .inr (false, [(33, 33)]))], [], kch52),
  (29, [(0, .inl 0), (1, .inl 14), (2, .inr (false, [(1, 60)])), (3, .inr (false, [(32, 32)])), (4, .inr (false, [(34, 34)])), (5, .inr (false, [(-9, -9)]))], [], kch52),
  (29, [(0, .inl 0), (1, .inl 14), (2, .inr (false, [(1, 60)])), (3, .inr (false, [(32, 32)])), (4, .inr (false, [(35, 35)])), (5, .inr (false, [(-9, -9)]))], [], kch52),
  (29, [(0, .inl 0), (1, .inl 14), (2, .inr (false, [(1, 60)])), (3, .inr (false, [(32, 32)])), (4, .inr (false, [(36, 36)])), (5, .inr (false, [(-9, -9)]))], [], kch52)] = true := by decide +kernel
def kch364 : aw_H := [(14, kcx356)]
/-- MiceRegisters.faultOfFigure -/
def kcc540 : ak_C := (18, [.inl 14, .inr (false, [(-1, 60)]), .inr (false, [(33, 33)]), .inr (false, [(0, 0)]), .inr (false, [(0, 7)])], kch21, [], [([], some (.inr (false, [(-9, -9)])), kch364), ([], some (.inr (false, [(-1, 63)])), [])])
def kch365 : aw_H := [(14, kcx358)]
/-- MiceRegisters.faultOfFigure -/
def kcc541 : ak_C := (18, [.inl 14, .inr (false, [(-1, 60)]), .inr (false, [(34, 34)]), .inr (false, [(1, 1)]), .inr (false, [(9, 9)])], kch364, [], [([], some (.inr (false, [(-9, -9)])), kch365), ([], some (.inr (false, [(-1, 63)])), [])])
/-- MiceRegisters.readMouse -/
def kcc542 : ak_C := (19, [.inl 0, .inl 14, .inr (false, [(-1, 60)]), .inr (false, [(32, 32)])], kch55, [24, 29, 30, 31], [([], some (.inr (false, [(-1, 63)])), kch37), ([], some (.inr (false, [(-9, -9)])), kch39)])
theorem kck542 : ai_chk [kcc28, kcc540, kcc541] kcc542 (fun pc => sm_ch sm_t19 pc, sm_Kn 2 6 none, fun x => sm_lk sm_ca2 x, some .int) [24, 29, 30, 31] 6 0 [] [] 2000 [] = true := by decide +kernel
/-- MiceRegisters.readLine -/
def kcc543 : ak_C := (17, [.inl 0, .inl 11, .inr (false, [(-1, 60)]), .inr (false, [(33, 33)])], kch29, [24, 25, 26], [([[], [], [], []], some (.inr (false, [(-1, 60)])), kch26), ([[], [], [(1, 60)], []], some (.inr (false, [(-9, -9)])), kch28)])
theorem kck543 : ai_chk [kcc26] kcc543 (fun pc => sm_ch sm_t17 pc, sm_Kn 2 6 none, fun x => sm_lk sm_ca2 x, some .int) [24, 25, 26] 6 4 [29] [] 2000 [(29, [(0, .inl 0), (1, .inl 11), (2, .inr (false, [(-1, 60)])), (3, .inr (false, [(33, 33)])), (4, .inr (false, [(34, 34)]))], [], kch31),
  (29, [(0, .inl 0), (1, .inl 11), (2, .inr (false, [(1, 60)])), (3, .inr (false, [(33, 33)])), (4, .inr (false, [(35, 35)])), (5, .inr (false, [(-9, -9)]))], [], kch31),
  (29, [(0, .inl 0), (1, .inl 11), (2, .inr (false, [(1, 60)])), (3, .inr (false, [(33, 33)])), (4, .inr (false, [(36, 36)])), (5, .inr (false, [(-9, -9)]))], [], kch31),
  (29, [(0, .inl 0), (1, .inl 11), (2, .inr (false, [(1, 60)])), (3, .inr (false, [(33, 33)])), (4, .inr (false, [(37, 37)])), (5, .inr (false, [(-9, -9)]))], [], kch31)] = true := by decide +kernel
def kcx366 : aw_A := .inr (.inl (1, 60, [], [(34, [(48, 55)])]))
def kch367 : aw_H := [(11, kcx366)]
/-- MiceRegisters.faultOfFigure -/
def kcc544 : ak_C := (18, [.inl 11, .inr (false, [(-1, 60)]), .inr (false, [(34, 34)]), .inr (false, [(0, 0)]), .inr (false, [(0, 7)])], kch24, [], [([], some (.inr (false, [(-9, -9)])), kch367), ([], some (.inr (false, [(-1, 63)])), [])])
def kcx368 : aw_A := .inr (.inl (1, 60, [], [(35, [(49, 57)]), (34, [(48, 55)])]))
def kch369 : aw_H := [(11, kcx368)]
/-- MiceRegisters.faultOfFigure -/
def kcc545 : ak_C := (18, [.inl 11, .inr (false, [(-1, 60)]), .inr (false, [(35, 35)]), .inr (false, [(1, 1)]), .inr (false, [(9, 9)])], kch367, [], [([], some (.inr (false, [(-9, -9)])), kch369), ([], some (.inr (false, [(-1, 63)])), [])])
/-- MiceRegisters.readMouse -/
def kcc546 : ak_C := (19, [.inl 0, .inl 11, .inr (false, [(-1, 60)]), .inr (false, [(33, 33)])], kch40, [24, 29, 30, 31], [([], some (.inr (false, [(-1, 63)])), kch37), ([], some (.inr (false, [(-9, -9)])), kch39)])
theorem kck546 : ai_chk [kcc28, kcc544, kcc545] kcc546 (fun pc => sm_ch sm_t19 pc, sm_Kn 2 6 none, fun x => sm_lk sm_ca2 x, some .int) [24, 29, 30, 31] 6 0 [] [] 2000 [] = true := by decide +kernel
/-- MiceRegisters.readLine -/
def kcc547 : ak_C := (17, [.inl 0, .inl 12, .inr (false, [(-1, 60)]), .inr (false, [(33, 33)])], kch41, [24, 25, 26], [([[], [], [], []], some (.inr (false, [(-1, 60)])), kch26), ([[], [], [(1, 60)], []], some (.inr (false, [(-9, -9)])), kch28)])
theorem kck547 : ai_chk [kcc32] kcc547 (fun pc => sm_ch sm_t17 pc, sm_Kn 2 6 none, fun x => sm_lk sm_ca2 x, some .int) [24, 25, 26] 6 4 [29] [] 2000 [(29, [(0, .inl 0), (1, .inl 12), (2, .inr (false, [(-1, 60)])), (3, .inr (false, [(33, 33)])), (4, .inr (false, [(34, 34)]))], [], kch42),
  (29, [(0, .inl 0), (1, .inl 12), (2, .inr (false, [(1, 60)])), (3, .inr (false, [(33, 33)])), (4, .inr (false, [(35, 35)])), (5, .inr (false, [(-9, -9)]))], [], kch42),
  (29, [(0, .inl 0), (1, .inl 12), (2, .inr (false, [(1, 60)])), (3, .inr (false, [(33, 33)])), (4, .inr (false, [(36, 36)])), (5, .inr (false, [(-9, -9)]))], [], kch42),
  (29, [(0, .inl 0), (1, .inl 12), (2, .inr (false, [(1, 60)])), (3, .inr (false, [(33, 33)])), (4, .inr (false, [(37, 37)])), (5, .inr (false, [(-9, -9)]))], [], kch42)] = true := by decide +kernel
def kch370 : aw_H := [(12, kcx366)]
/-- MiceRegisters.faultOfFigure -/
def kcc548 : ak_C := (18, [.inl 12, .inr (false, [(-1, 60)]), .inr (false, [(34, 34)]), .inr (false, [(0, 0)]), .inr (false, [(0, 7)])], kch23, [], [([], some (.inr (false, [(-9, -9)])), kch370), ([], some (.inr (false, [(-1, 63)])), [])])
def kch371 : aw_H := [(12, kcx368)]
/-- MiceRegisters.faultOfFigure -/
def kcc549 : ak_C := (18, [.inl 12, .inr (false, [(-1, 60)]), .inr (false, [(35, 35)]), .inr (false, [(1, 1)]), .inr (false, [(9, 9)])], kch370, [], [([], some (.inr (false, [(-9, -9)])), kch371), ([], some (.inr (false, [(-1, 63)])), [])])
/-- MiceRegisters.readMouse -/
def kcc550 : ak_C := (19, [.inl 0, .inl 12, .inr (false, [(-1, 60)]), .inr (false, [(33, 33)])], kch45, [24, 29, 30, 31], [([], some (.inr (false, [(-1, 63)])), kch37), ([], some (.inr (false, [(-9, -9)])), kch39)])
theorem kck550 : ai_chk [kcc28, kcc548, kcc549] kcc550 (fun pc => sm_ch sm_t19 pc, sm_Kn 2 6 none, fun x => sm_lk sm_ca2 x, some .int) [24, 29, 30, 31] 6 0 [] [] 2000 [] = true := by decide +kernel
/-- MiceRegisters.readLine -/
def kcc551 : ak_C := (17, [.inl 0, .inl 13, .inr (false, [(-1, 60)]), .inr (false, [(33, 33)])], kch46, [24, 25, 26], [([[], [], [], []], some (.inr (false, [(-1, 60)])), kch26), ([[], [], [(1, 60)], []], some (.inr (false, [(-9, -9)])), kch28)])
theorem kck551 : ai_chk [kcc37] kcc551 (fun pc => sm_ch sm_t17 pc, sm_Kn 2 6 none, fun x => sm_lk sm_ca2 x, some .int) [24, 25, 26] 6 4 [29] [] 2000 [(29, [(0, .inl 0), (1, .inl 13), (2, .inr (false, [(-1, 60)])), (3, .inr (false, [(33, 33)])), (4, .inr (false, [(34, 34)]))], [], kch47),
  (29, [(0, .inl 0), (1, .inl 13), (2, .inr (false, [(1, 60)])), (3, .inr (false, [(33, 33)])), (4, .inr (false, [(35, 35)])), (5, .inr (false, [(-9, -9)]))], [], kch47),
  (29, [(0, .inl 0), (1, .inl 13), (2, .inr (false, [(1, 60)])), (3, .inr (false, [(33, 33)])), (4, .inr (false, [(36, 36)])), (5, .inr (false, [(-9, -9)]))], [], kch47),
  (29, [(0, .inl 0), (1, .inl 13), (2, .inr (false, [(1, 60)])), (3, .inr (false, [(33, 33)])), (4, .inr (false, [(37, 37)])), (5, .inr (false, [(-9, -9)]))], [], kch47)] = true := by decide +kernel
def kch372 : aw_H := [(13, kcx366)]
/-- MiceRegisters.faultOfFigure -/
def kcc552 : ak_C := (18, [.inl 13, .inr (false, [(-1, 60)]), .inr (false, [(34, 34)]), .inr (false, [(0, 0)]), .inr (false, [(0, 7)])], kch22, [], [([], some (.inr (false, [(-9, -9)])), kch372), ([], some (.inr (false, [(-1, 63)])), [])])
def kch373 : aw_H := [(13, kcx368)]
/-- MiceRegisters.faultOfFigure -/
def kcc553 : ak_C := (18, [.inl 13, .inr (false, [(-1, 60)]), .inr (false, [(35, 35)]), .inr (false, [(1, 1)]), .inr (false, [(9, 9)])], kch372, [], [([], some (.inr (false, [(-9, -9)])), kch373), ([], some (.inr (false, [(-1, 63)])), [])])
/-- MiceRegisters.readMouse -/
def kcc554 : ak_C := (19, [.inl 0, .inl 13, .inr (false, [(-1, 60)]), .inr (false, [(33, 33)])], kch50, [24, 29, 30, 31], [([], some (.inr (false, [(-1, 63)])), kch37), ([], some (.inr (false, [(-9, -9)])), kch39)])
theorem kck554 : ai_chk [kcc28, kcc552, kcc553] kcc554 (fun pc => sm_ch sm_t19 pc, sm_Kn 2 6 none, fun x => sm_lk sm_ca2 x, some .int) [24, 29, 30, 31] 6 0 [] [] 2000 [] = true := by decide +kernel
/-- MiceRegisters.readLine -/
def kcc555 : ak_C := (17, [.inl 0, .inl 14, .inr (false, [(-1, 60)]), .inr (false, [(33, 33)])], kch51, [24, 25, 26], [([[], [], [], []], some (.inr (false, [(-1, 60)])), kch26), ([[], [], [(1, 60)], []], some (.inr (false, [(-9, -9)])), kch28)])
theorem kck555 : ai_chk [kcc42] kcc555 (fun pc => sm_ch sm_t17 pc, sm_Kn 2 6 none, fun x => sm_lk sm_ca2 x, some .int) [24, 25, 26] 6 4 [29] [] 2000 [(29, [(0, .inl 0), (1, .inl 14), (2, .inr (false, [(-1, 60)])), (3, .inr (false, [(33, 33)])), (4, .inr (false, [(34, 34)]))], [], kch52),
  (29, [(0, .inl 0), (1, .inl 14), (2, .inr (false, [(1, 60)])), (3, .inr (false, [(33, 33)])), (4, .inr (false, [(35, 35)])), (5, .inr (false, [(-9, -9)]))], [], kch52),
  (29, [(0, .inl 0), (1, .inl 14), (2, .inr (false, [(1, 60)])), (3, .inr (false, [(33, 33)])), (4, .inr (false, [(36, 36)])), (5, .inr (false, [(-9, -9)]))], [], kch52),
  (29, [(0, .inl 0), (1, .inl 14), (2, .inr (false, [(1, 60)])), (3, .inr (false, [(33, 33)])), (4, .inr (false, [(37, 37)])), (5, .inr (false, [(-9, -9)]))], [], kch52)] = true := by decide +kernel
def kch374 : aw_H := [(14, kcx366)]
/-- MiceRegisters.faultOfFigure -/
def kcc556 : ak_C := (18, [.inl 14, .inr (false, [(-1, 60)]), .inr (false, [(34, 34)]), .inr (false, [(0, 0)]), .inr (false, [(0, 7)])], kch21, [], [([], some (.inr (false, [(-9, -9)])), kch374), ([], some (.inr (false, [(-1, 63)])), [])])
def kch375 : aw_H := [(14, kcx368)]
/-- MiceRegisters.faultOfFigure -/
def kcc557 : ak_C := (18, [.inl 14, .inr (false, [(-1, 60)]), .inr (false, [(35, 35)]), .inr (false, [(1, 1)]), .inr (false, [(9, 9)])], kch374, [], [([], some (.inr (false, [(-9, -9)])), kch375), ([], some (.inr (false, [(-1, 63)])), [])])
/-- MiceRegisters.readMouse -/
def kcc558 : ak_C := (19, [.inl 0, .inl 14, .inr (false, [(-1, 60)]), .inr (false, [(33, 33)])], kch55, [24, 29, 30, 31], [([], some (.inr (false, [(-1, 63)])), kch37), ([], some (.inr (false, [(-9, -9)])), kch39)])
theorem kck558 : ai_chk [kcc28, kcc556, kcc557] kcc558 (fun pc => sm_ch sm_t19 pc, sm_Kn 2 6 none, fun x => sm_lk sm_ca2 x, some .int) [24, 29, 30, 31] 6 0 [] [] 2000 [] = true := by decide +kernel
/-- MiceRegisters.readLine -/
def kcc559 : ak_C := (17, [.inl 0, .inl 11, .inr (false, [(-1, 60)]), .inr (false, [(34, 34)])], kch29, [24, 25, 26], [([[], [], [], []], some (.inr (false, [(-1, 60)])), kch26), ([[], [], [(1, 60)], []], some (.inr (false, [(-9, -9)])), kch28)])
theorem kck559 : ai_chk [kcc26] kcc559 (fun pc => sm_ch sm_t17 pc, sm_Kn 2 6 none, fun x => sm_lk sm_ca2 x, some .int) [24, 25, 26] 6 4 [29] [] 2000 [(29, [(0, .inl 0), (1, .inl 11), (2, .inr (false, [(-1, 60)])), (3, .inr (false, [(34, 34)])), (4, .inr (false, [(35, 35)]))], [], kch31),
  (29, [(0, .inl 0), (1, .inl 11), (2, .inr (false, [(1, 60)])), (3, .inr (false, [(34, 34)])), (4, .inr (false, [(36, 36)])), (5, .inr (false, [(-9, -9)]))], [], kch31),
  (29, [(0, .inl 0), (1, .inl 11), (2, .inr (false, [(1, 60)])), (3, .inr (false, [(34, 34)])), (4, .inr (false, [(37, 37)])), (5, .inr (false, [(-9, -9)]))], [], kch31),
  (29, [(0, .inl 0), (1, .inl 11), (2, .inr (false, [(1, 60)])), (3, .inr (false, [(34, 34)])), (4, .inr (false, [(38, 38)])), (5, .inr (false, [(-9, -9)]))], [], kch31)] = true := by decide +kernel
def kcx376 : aw_A := .inr (.inl (1, 60, [], [(35, [(48, 55)])]))
def kch377 : aw_H := [(11, kcx376)]
/-- MiceRegisters.faultOfFigure -/
def kcc560 : ak_C := (18, [.inl 11, .inr (false, [(-1, 60)]), .inr (false, [(35, 35)]), .inr (false, [(0, 0)]), .inr (false, [(0, 7)])], kch24, [], [([], some (.inr (false, [(-9, -9)])), kch377), ([], some (.inr (false, [(-1, 63)])), [])])
def kcx378 : aw_A := .inr (.inl (1, 60, [], [(36, [(49, 57)]), (35, [(48, 55)])]))
def kch379 : aw_H := [(11, kcx378)]
/-- MiceRegisters.faultOfFigure -/
def kcc561 : ak_C := (18, [.inl 11, .inr (false, [(-1, 60)]), .inr (false, [(36, 36)]), .inr (false, [(1, 1)]), .inr (false, [(9, 9)])], kch377, [], [([], some (.inr (false, [(-9, -9)])), kch379), ([], some (.inr (false, [(-1, 63)])), [])])
/-- MiceRegisters.readMouse -/
def kcc562 : ak_C := (19, [.inl 0, .inl 11, .inr (false, [(-1, 60)]), .inr (false, [(34, 34)])], kch40, [24, 29, 30, 31], [([], some (.inr (false, [(-1, 63)])), kch37), ([], some (.inr (false, [(-9, -9)])), kch39)])
theorem kck562 : ai_chk [kcc28, kcc560, kcc561] kcc562 (fun pc => sm_ch sm_t19 pc, sm_Kn 2 6 none, fun x => sm_lk sm_ca2 x, some .int) [24, 29, 30, 31] 6 0 [] [] 2000 [] = true := by decide +kernel
/-- MiceRegisters.readLine -/
def kcc563 : ak_C := (17, [.inl 0, .inl 12, .inr (false, [(-1, 60)]), .inr (false, [(34, 34)])], kch41, [24, 25, 26], [([[], [], [], []], some (.inr (false, [(-1, 60)])), kch26), ([[], [], [(1, 60)], []], some (.inr (false, [(-9, -9)])), kch28)])
theorem kck563 : ai_chk [kcc32] kcc563 (fun pc => sm_ch sm_t17 pc, sm_Kn 2 6 none, fun x => sm_lk sm_ca2 x, some .int) [24, 25, 26] 6 4 [29] [] 2000 [(29, [(0, .inl 0), (1, .inl 12), (2, .inr (false, [(-1, 60)])), (3, .inr (false, [(34, 34)])), (4, .inr (false, [(35, 35)]))], [], kch42),
  (29, [(0, .inl 0), (1, .inl 12), (2, .inr (false, [(1, 60)])), (3, .inr (false, [(34, 34)])), (4, .inr (false, [(36, 36)])), (5, .inr (false, [(-9, -9)]))], [], kch42),
  (29, [(0, .inl 0), (1, .inl 12), (2, .inr (false, [(1, 60)])), (3, .inr (false, [(34, 34)])), (4, .inr (false, [(37, 37)])), (5, .inr (false, [(-9, -9)]))], [], kch42),
  (29, [(0, .inl 0), (1, .inl 12), (2, .inr (false, [(1, 60)])), (3, .inr (false, [(34, 34)])), (4, .inr (false, [(38, 38)])), (5, .inr (false, [(-9, -9)]))], [], kch42)] = true := by decide +kernel
def kch380 : aw_H := [(12, kcx376)]
/-- MiceRegisters.faultOfFigure -/
def kcc564 : ak_C := (18, [.inl 12, .inr (false, [(-1, 60)]), .inr (false, [(35, 35)]), .inr (false, [(0, 0)]), .inr (false, [(0, 7)])], kch23, [], [([], some (.inr (false, [(-9, -9)])), kch380), ([], some (.inr (false, [(-1, 63)])), [])])
def kch381 : aw_H := [(12, kcx378)]
/-- MiceRegisters.faultOfFigure -/
def kcc565 : ak_C := (18, [.inl 12, .inr (false, [(-1, 60)]), .inr (false, [(36, 36)]), .inr (false, [(1, 1)]), .inr (false, [(9, 9)])], kch380, [], [([], some (.inr (false, [(-9, -9)])), kch381), ([], some (.inr (false, [(-1, 63)])), [])])
/-- MiceRegisters.readMouse -/
def kcc566 : ak_C := (19, [.inl 0, .inl 12, .inr (false, [(-1, 60)]), .inr (false, [(34, 34)])], kch45, [24, 29, 30, 31], [([], some (.inr (false, [(-1, 63)])), kch37), ([], some (.inr (false, [(-9, -9)])), kch39)])
theorem kck566 : ai_chk [kcc28, kcc564, kcc565] kcc566 (fun pc => sm_ch sm_t19 pc, sm_Kn 2 6 none, fun x => sm_lk sm_ca2 x, some .int) [24, 29, 30, 31] 6 0 [] [] 2000 [] = true := by decide +kernel
/-- MiceRegisters.readLine -/
def kcc567 : ak_C := (17, [.inl 0, .inl 13, .inr (false, [(-1, 60)]), .inr (false, [(34, 34)])], kch46, [24, 25, 26], [([[], [], [], []], some (.inr (false, [(-1, 60)])), kch26), ([[], [], [(1, 60)], []], some (.inr (false, [(-9, -9)])), kch28)])
theorem kck567 : ai_chk [kcc37] kcc567 (fun pc => sm_ch sm_t17 pc, sm_Kn 2 6 none, fun x => sm_lk sm_ca2 x, some .int) [24, 25, 26] 6 4 [29] [] 2000 [(29, [(0, .inl 0), (1, .inl 13), (2, .inr (false, [(-1, 60)])), (3, .inr (false, [(34, 34)])), (4, .inr (false, [(35, 35)]))], [], kch47),
  (29, [(0, .inl 0), (1, .inl 13), (2, .inr (false, [(1, 60)])), (3, .inr (false, [(34, 34)])), (4, .inr (false, [(36, 36)])), (5, .inr (false, [(-9, -9)]))], [], kch47),
  (29, [(0, .inl 0), (1, .inl 13), (2, .inr (false, [(1, 60)])), (3, .inr (false, [(34, 34)])), (4, .inr (false, [(37, 37)])), (5, .inr (false, [(-9, -9)]))], [], kch47),
  (29, [(0, .inl 0), (1, .inl 13), (2, .inr (false, [(1, 60)])), (3, .inr (false, [(34, 34)])), (4, .inr (false, [(38, 38)])), (5, .inr (false, [(-9, -9)]))], [], kch47)] = true := by decide +kernel
def kch382 : aw_H := [(13, kcx376)]
/-- MiceRegisters.faultOfFigure -/
def kcc568 : ak_C := (18, [.inl 13, .inr (false, [(-1, 60)]), .inr (false, [(35, 35)]), .inr (false, [(0, 0)]), .inr (false, [(0, 7)])], kch22, [], [([], some (.inr (false, [(-9, -9)])), kch382), ([], some (.inr (false, [(-1, 63)])), [])])
def kch383 : aw_H := [(13, kcx378)]
/-- MiceRegisters.faultOfFigure -/
def kcc569 : ak_C := (18, [.inl 13, .inr (false, [(-1, 60)]), .inr (false, [(36, 36)]), .inr (false, [(1, 1)]), .inr (false, [(9, 9)])], kch382, [], [([], some (.inr (false, [(-9, -9)])), kch383), ([], some (.inr (false, [(-1, 63)])), [])])
/-- MiceRegisters.readMouse -/
def kcc570 : ak_C := (19, [.inl 0, .inl 13, .inr (false, [(-1, 60)]), .inr (false, [(34, 34)])], kch50, [24, 29, 30, 31], [([], some (.inr (false, [(-1, 63)])), kch37), ([], some (.inr (false, [(-9, -9)])), kch39)])
theorem kck570 : ai_chk [kcc28, kcc568, kcc569] kcc570 (fun pc => sm_ch sm_t19 pc, sm_Kn 2 6 none, fun x => sm_lk sm_ca2 x, some .int) [24, 29, 30, 31] 6 0 [] [] 2000 [] = true := by decide +kernel
/-- MiceRegisters.readLine -/
def kcc571 : ak_C := (17, [.inl 0, .inl 14, .inr (false, [(-1, 60)]), .inr (false, [(34, 34)])], kch51, [24, 25, 26], [([[], [], [], []], some (.inr (false, [(-1, 60)])), kch26), ([[], [], [(1, 60)], []], some (.inr (false, [(-9, -9)])), kch28)])
theorem kck571 : ai_chk [kcc42] kcc571 (fun pc => sm_ch sm_t17 pc, sm_Kn 2 6 none, fun x => sm_lk sm_ca2 x, some .int) [24, 25, 26] 6 4 [29] [] 2000 [(29, [(0, .inl 0), (1, .inl 14), (2, .inr (false, [(-1, 60)])), (3, .inr (false, [(34, 34)])), (4, .inr (false, [(35, 35)]))], [], kch52),
  (29, [(0, .inl 0), (1, .inl 14), (2, .inr (false, [(1, 60)])), (3, .inr (false, [(34, 34)])), (4, .inr (false, [(36, 36)])), (5, .inr (false, [(-9, -9)]))], [], kch52),
  (29, [(0, .inl 0), (1, .inl 14), (2, .inr (false, [(1, 60)])), (3, .inr (false, [(34, 34)])), (4, .inr (false, [(37, 37)])), (5, .inr (false, [(-9, -9)]))], [], kch52),
  (29, [(0, .inl 0), (1, .inl 14), (2, .inr (false, [(1, 60)])), (3, .inr (false, [(34, 34)])), (4, .inr (false, [(38, 38)])), (5, .inr (false, [(-9, -9)]))], [], kch52)] = true := by decide +kernel
def kch384 : aw_H := [(14, kcx376)]
/-- MiceRegisters.faultOfFigure -/
def kcc572 : ak_C := (18, [.inl 14, .inr (false, [(-1, 60)]), .inr (false, [(35, 35)]), .inr (false, [(0, 0)]), .inr (false, [(0, 7)])], kch21, [], [([], some (.inr (false, [(-9, -9)])), kch384), ([], some (.inr (false, [(-1, 63)])), [])])
def kch385 : aw_H := [(14, kcx378)]
/-- MiceRegisters.faultOfFigure -/
def kcc573 : ak_C := (18, [.inl 14, .inr (false, [(-1, 60)]), .inr (false, [(36, 36)]), .inr (false, [(1, 1)]), .inr (false, [(9, 9)])], kch384, [], [([], some (.inr (false, [(-9, -9)])), kch385), ([], some (.inr (false, [(-1, 63)])), [])])
/-- MiceRegisters.readMouse -/
def kcc574 : ak_C := (19, [.inl 0, .inl 14, .inr (false, [(-1, 60)]), .inr (false, [(34, 34)])], kch55, [24, 29, 30, 31], [([], some (.inr (false, [(-1, 63)])), kch37), ([], some (.inr (false, [(-9, -9)])), kch39)])
theorem kck574 : ai_chk [kcc28, kcc572, kcc573] kcc574 (fun pc => sm_ch sm_t19 pc, sm_Kn 2 6 none, fun x => sm_lk sm_ca2 x, some .int) [24, 29, 30, 31] 6 0 [] [] 2000 [] = true := by decide +kernel
/-- MiceRegisters.readLine -/
def kcc575 : ak_C := (17, [.inl 0, .inl 11, .inr (false, [(-1, 60)]), .inr (false, [(35, 35)])], kch29, [24, 25, 26], [([[], [], [], []], some (.inr (false, [(-1, 60)])), kch26), ([[], [], [(1, 60)], []], some (.inr (false, [(-9, -9)])), kch28)])
theorem kck575 : ai_chk [kcc26] kcc575 (fun pc => sm_ch sm_t17 pc, sm_Kn 2 6 none, fun x => sm_lk sm_ca2 x, some .int) [24, 25, 26] 6 4 [29] [] 2000 [(29, [(0, .inl 0), (1, .inl 11), (2, .inr (false, [(-1, 60)])), (3, .inr (false, [(35, 35)])), (4, .inr (false, [(36, 36)]))], [], kch31),
  (29, [(0, .inl 0), (1, .inl 11), (2, .inr (false, [(1, 60)])), (3, .inr (false, [(35, 35)])), (4, .inr (false, [(37, 37)])), (5, .inr (false, [(-9, -9)]))], [], kch31),
  (29, [(0, .inl 0), (1, .inl 11), (2, .inr (false, [(1, 60)])), (3, .inr (false, [(35, 35)])), (4, .inr (false, [(38, 38)])), (5, .inr (false, [(-9, -9)]))], [], kch31),
  (29, [(0, .inl 0), (1, .inl 11), (2, .inr (false, [(1, 60)])), (3, .inr (false, [(35, 35)])), (4, .inr (false, [(39, 39)])), (5, .inr (false, [(-9, -9)]))], [], kch31)] = true := by decide +kernel
def kcx386 : aw_A := .inr (.inl (1, 60, [], [(36, [(48, 55)])]))
def kch387 : aw_H := [(11, kcx386)]
/-- MiceRegisters.faultOfFigure -/
def kcc576 : ak_C := (18, [.inl 11, .inr (false, [(-1, 60)]), .inr (false, [(36, 36)]), .inr (false, [(0, 0)]), .inr (false, [(0, 7)])], kch24, [], [([], some (.inr (false, [(-9, -9)])), kch387), ([], some (.inr (false, [(-1, 63)])), [])])
def kcx388 : aw_A := .inr (.inl (1, 60, [], [(37, [(49, 57)]), (36, [(48, 55)])]))
def kch389 : aw_H := [(11, kcx388)]
/-- MiceRegisters.faultOfFigure -/
def kcc577 : ak_C := (18, [.inl 11, .inr (false, [(-1, 60)]), .inr (false, [(37, 37)]), .inr (false, [(1, 1)]), .inr (false, [(9, 9)])], kch387, [], [([], some (.inr (false, [(-9, -9)])), kch389), ([], some (.inr (false, [(-1, 63)])), [])])
/-- MiceRegisters.readMouse -/
def kcc578 : ak_C := (19, [.inl 0, .inl 11, .inr (false, [(-1, 60)]), .inr (false, [(35, 35)])], kch40, [24, 29, 30, 31], [([], some (.inr (false, [(-1, 63)])), kch37), ([], some (.inr (false, [(-9, -9)])), kch39)])
theorem kck578 : ai_chk [kcc28, kcc576, kcc577] kcc578 (fun pc => sm_ch sm_t19 pc, sm_Kn 2 6 none, fun x => sm_lk sm_ca2 x, some .int) [24, 29, 30, 31] 6 0 [] [] 2000 [] = true := by decide +kernel
/-- MiceRegisters.readLine -/
def kcc579 : ak_C := (17, [.inl 0, .inl 12, .inr (false, [(-1, 60)]), .inr (false, [(35, 35)])], kch41, [24, 25, 26], [([[], [], [], []], some (.inr (false, [(-1, 60)])), kch26), ([[], [], [(1, 60)], []], some (.inr (false, [(-9, -9)])), kch28)])
theorem kck579 : ai_chk [kcc32] kcc579 (fun pc => sm_ch sm_t17 pc, sm_Kn 2 6 none, fun x => sm_lk sm_ca2 x, some .int) [24, 25, 26] 6 4 [29] [] 2000 [(29, [(0, .inl 0), (1, .inl 12), (2, .inr (false, [(-1, 60)])), (3, .inr (false, [(35, 35)])), (4, .inr (false, [(36, 36)]))], [], kch42),
  (29, [(0, .inl 0), (1, .inl 12), (2, .inr (false, [(1, 60)])), (3, .inr (false, [(35, 35)])), (4, .inr (false, [(37, 37)])), (5, .inr (false, [(-9, -9)]))], [], kch42),
  (29, [(0, .inl 0), (1, .inl 12), (2, .inr (false, [(1, 60)])), (3, .inr (false, [(35, 35)])), (4, .inr (false, [(38, 38)])), (5, .inr (false, [(-9, -9)]))], [], kch42),
  (29, [(0, .inl 0), (1, .inl 12), (2, .inr (false, [(1, 60)])), (3, .inr (false, [(35, 35)])), (4, .inr (false, [(39, 39)])), (5, .inr (false, [(-9, -9)]))], [], kch42)] = true := by decide +kernel
def kch390 : aw_H := [(12, kcx386)]
/-- MiceRegisters.faultOfFigure -/
def kcc580 : ak_C := (18, [.inl 12, .inr (false, [(-1, 60)]), .inr (false, [(36, 36)]), .inr (false, [(0, 0)]), .inr (false, [(0, 7)])], kch23, [], [([], some (.inr (false, [(-9, -9)])), kch390), ([], some (.inr (false, [(-1, 63)])), [])])
def kch391 : aw_H := [(12, kcx388)]
/-- MiceRegisters.faultOfFigure -/
def kcc581 : ak_C := (18, [.inl 12, .inr (false, [(-1, 60)]), .inr (false, [(37, 37)]), .inr (false, [(1, 1)]), .inr (false, [(9, 9)])], kch390, [], [([], some (.inr (false, [(-9, -9)])), kch391), ([], some (.inr (false, [(-1, 63)])), [])])
/-- MiceRegisters.readMouse -/
def kcc582 : ak_C := (19, [.inl 0, .inl 12, .inr (false, [(-1, 60)]), .inr (false, [(35, 35)])], kch45, [24, 29, 30, 31], [([], some (.inr (false, [(-1, 63)])), kch37), ([], some (.inr (false, [(-9, -9)])), kch39)])
theorem kck582 : ai_chk [kcc28, kcc580, kcc581] kcc582 (fun pc => sm_ch sm_t19 pc, sm_Kn 2 6 none, fun x => sm_lk sm_ca2 x, some .int) [24, 29, 30, 31] 6 0 [] [] 2000 [] = true := by decide +kernel
/-- MiceRegisters.readLine -/
def kcc583 : ak_C := (17, [.inl 0, .inl 13, .inr (false, [(-1, 60)]), .inr (false, [(35, 35)])], kch46, [24, 25, 26], [([[], [], [], []], some (.inr (false, [(-1, 60)])), kch26), ([[], [], [(1, 60)], []], some (.inr (false, [(-9, -9)])), kch28)])
theorem kck583 : ai_chk [kcc37] kcc583 (fun pc => sm_ch sm_t17 pc, sm_Kn 2 6 none, fun x => sm_lk sm_ca2 x, some .int) [24, 25, 26] 6 4 [29] [] 2000 [(29, [(0, .inl 0), (1, .inl 13), (2, .inr (false, [(-1, 60)])), (3, .inr (false, [(35, 35)])), (4, .inr (false, [(36, 36)]))], [], kch47),
  (29, [(0, .inl 0), (1, .inl 13), (2, .inr (false, [(1, 60)])), (3, .inr (false, [(35, 35)])), (4, .inr (false, [(37, 37)])), (5, .inr (false, [(-9, -9)]))], [], kch47),
  (29, [(0, .inl 0), (1, .inl 13), (2, .inr (false, [(1, 60)])), (3, .inr (false, [(35, 35)])), (4, .inr (false, [(38, 38)])), (5, .inr (false, [(-9, -9)]))], [], kch47),
  (29, [(0, .inl 0), (1, .inl 13), (2, .inr (false, [(1, 60)])), (3, .inr (false, [(35, 35)])), (4, .inr (false, [(39, 39)])), (5, .inr (false, [(-9, -9)]))], [], kch47)] = true := by decide +kernel
def kch392 : aw_H := [(13, kcx386)]
/-- MiceRegisters.faultOfFigure -/
def kcc584 : ak_C := (18, [.inl 13, .inr (false, [(-1, 60)]), .inr (false, [(36, 36)]), .inr (false, [(0, 0)]), .inr (false, [(0, 7)])], kch22, [], [([], some (.inr (false, [(-9, -9)])), kch392), ([], some (.inr (false, [(-1, 63)])), [])])
def kch393 : aw_H := [(13, kcx388)]
/-- MiceRegisters.faultOfFigure -/
def kcc585 : ak_C := (18, [.inl 13, .inr (false, [(-1, 60)]), .inr (false, [(37, 37)]), .inr (false, [(1, 1)]), .inr (false, [(9, 9)])], kch392, [], [([], some (.inr (false, [(-9, -9)])), kch393), ([], some (.inr (false, [(-1, 63)])), [])])
/-- MiceRegisters.readMouse -/
def kcc586 : ak_C := (19, [.inl 0, .inl 13, .inr (false, [(-1, 60)]), .inr (false, [(35, 35)])], kch50, [24, 29, 30, 31], [([], some (.inr (false, [(-1, 63)])), kch37), ([], some (.inr (false, [(-9, -9)])), kch39)])
theorem kck586 : ai_chk [kcc28, kcc584, kcc585] kcc586 (fun pc => sm_ch sm_t19 pc, sm_Kn 2 6 none, fun x => sm_lk sm_ca2 x, some .int) [24, 29, 30, 31] 6 0 [] [] 2000 [] = true := by decide +kernel
/-- MiceRegisters.readLine -/
def kcc587 : ak_C := (17, [.inl 0, .inl 14, .inr (false, [(-1, 60)]), .inr (false, [(35, 35)])], kch51, [24, 25, 26], [([[], [], [], []], some (.inr (false, [(-1, 60)])), kch26), ([[], [], [(1, 60)], []], some (.inr (false, [(-9, -9)])), kch28)])
theorem kck587 : ai_chk [kcc42] kcc587 (fun pc => sm_ch sm_t17 pc, sm_Kn 2 6 none, fun x => sm_lk sm_ca2 x, some .int) [24, 25, 26] 6 4 [29] [] 2000 [(29, [(0, .inl 0), (1, .inl 14), (2, .inr (false, [(-1, 60)])), (3, .inr (false, [(35, 35)])), (4, .inr (false, [(36, 36)]))], [], kch52),
  (29, [(0, .inl 0), (1, .inl 14), (2, .inr (false, [(1, 60)])), (3, .inr (false, [(35, 35)])), (4, .inr (false, [(37, 37)])), (5, .inr (false, [(-9, -9)]))], [], kch52),
  (29, [(0, .inl 0), (1, .inl 14), (2, .inr (false, [(1, 60)])), (3, .inr (false, [(35, 35)])), (4, .inr (false, [(38, 38)])), (5, .inr (false, [(-9, -9)]))], [], kch52),
  (29, [(0, .inl 0), (1, .inl 14), (2, .inr (false, [(1, 60)])), (3, .inr (false, [(35, 35)])), (4, .inr (false, [(39, 39)])), (5, .inr (false, [(-9, -9)]))], [], kch52)] = true := by decide +kernel
def kch394 : aw_H := [(14, kcx386)]
/-- MiceRegisters.faultOfFigure -/
def kcc588 : ak_C := (18, [.inl 14, .inr (false, [(-1, 60)]), .inr (false, [(36, 36)]), .inr (false, [(0, 0)]), .inr (false, [(0, 7)])], kch21, [], [([], some (.inr (false, [(-9, -9)])), kch394), ([], some (.inr (false, [(-1, 63)])), [])])
def kch395 : aw_H := [(14, kcx388)]
/-- MiceRegisters.faultOfFigure -/
def kcc589 : ak_C := (18, [.inl 14, .inr (false, [(-1, 60)]), .inr (false, [(37, 37)]), .inr (false, [(1, 1)]), .inr (false, [(9, 9)])], kch394, [], [([], some (.inr (false, [(-9, -9)])), kch395), ([], some (.inr (false, [(-1, 63)])), [])])
/-- MiceRegisters.readMouse -/
def kcc590 : ak_C := (19, [.inl 0, .inl 14, .inr (false, [(-1, 60)]), .inr (false, [(35, 35)])], kch55, [24, 29, 30, 31], [([], some (.inr (false, [(-1, 63)])), kch37), ([], some (.inr (false, [(-9, -9)])), kch39)])
theorem kck590 : ai_chk [kcc28, kcc588, kcc589] kcc590 (fun pc => sm_ch sm_t19 pc, sm_Kn 2 6 none, fun x => sm_lk sm_ca2 x, some .int) [24, 29, 30, 31] 6 0 [] [] 2000 [] = true := by decide +kernel
/-- MiceRegisters.readLine -/
def kcc591 : ak_C := (17, [.inl 0, .inl 11, .inr (false, [(-1, 60)]), .inr (false, [(36, 36)])], kch29, [24, 25, 26], [([[], [], [], []], some (.inr (false, [(-1, 60)])), kch26), ([[], [], [(1, 60)], []], some (.inr (false, [(-9, -9)])), kch28)])
theorem kck591 : ai_chk [kcc26] kcc591 (fun pc => sm_ch sm_t17 pc, sm_Kn 2 6 none, fun x => sm_lk sm_ca2 x, some .int) [24, 25, 26] 6 4 [29] [] 2000 [(29, [(0, .inl 0), (1, .inl 11), (2, .inr (false, [(-1, 60)])), (3, .inr (false, [(36, 36)])), (4, .inr (false, [(37, 37)]))], [], kch31),
  (29, [(0, .inl 0), (1, .inl 11), (2, .inr (false, [(1, 60)])), (3, .inr (false, [(36, 36)])), (4, .inr (false, [(38, 38)])), (5, .inr (false, [(-9, -9)]))], [], kch31),
  (29, [(0, .inl 0), (1, .inl 11), (2, .inr (false, [(1, 60)])), (3, .inr (false, [(36, 36)])), (4, .inr (false, [(39, 39)])), (5, .inr (false, [(-9, -9)]))], [], kch31),
  (29, [(0, .inl 0), (1, .inl 11), (2, .inr (false, [(1, 60)])), (3, .inr (false, [(36, 36)])), (4, .inr (false, [(40, 40)])), (5, .inr (false, [(-9, -9)]))], [], kch31)] = true := by decide +kernel
def kcx396 : aw_A := .inr (.inl (1, 60, [], [(37, [(48, 55)])]))
def kch397 : aw_H := [(11, kcx396)]
/-- MiceRegisters.faultOfFigure -/
def kcc592 : ak_C := (18, [.inl 11, .inr (false, [(-1, 60)]), .inr (false, [(37, 37)]), .inr (false, [(0, 0)]), .inr (false, [(0, 7)])], kch24, [], [([], some (.inr (false, [(-9, -9)])), kch397), ([], some (.inr (false, [(-1, 63)])), [])])
def kcx398 : aw_A := .inr (.inl (1, 60, [], [(38, [(49, 57)]), (37, [(48, 55)])]))
def kch399 : aw_H := [(11, kcx398)]
/-- MiceRegisters.faultOfFigure -/
def kcc593 : ak_C := (18, [.inl 11, .inr (false, [(-1, 60)]), .inr (false, [(38, 38)]), .inr (false, [(1, 1)]), .inr (false, [(9, 9)])], kch397, [], [([], some (.inr (false, [(-9, -9)])), kch399), ([], some (.inr (false, [(-1, 63)])), [])])
/-- MiceRegisters.readMouse -/
def kcc594 : ak_C := (19, [.inl 0, .inl 11, .inr (false, [(-1, 60)]), .inr (false, [(36, 36)])], kch40, [24, 29, 30, 31], [([], some (.inr (false, [(-1, 63)])), kch37), ([], some (.inr (false, [(-9, -9)])), kch39)])
theorem kck594 : ai_chk [kcc28, kcc592, kcc593] kcc594 (fun pc => sm_ch sm_t19 pc, sm_Kn 2 6 none, fun x => sm_lk sm_ca2 x, some .int) [24, 29, 30, 31] 6 0 [] [] 2000 [] = true := by decide +kernel
/-- MiceRegisters.readLine -/
def kcc595 : ak_C := (17, [.inl 0, .inl 12, .inr (false, [(-1, 60)]), .inr (false, [(36, 36)])], kch41, [24, 25, 26], [([[], [], [], []], some (.inr (false, [(-1, 60)])), kch26), ([[], [], [(1, 60)], []], some (.inr (false, [(-9, -9)])), kch28)])
theorem kck595 : ai_chk [kcc32] kcc595 (fun pc => sm_ch sm_t17 pc, sm_Kn 2 6 none, fun x => sm_lk sm_ca2 x, some .int) [24, 25, 26] 6 4 [29] [] 2000 [(29, [(0, .inl 0), (1, .inl 12), (2, .inr (false, [(-1, 60)])), (3, .inr (false, [(36, 36)])), (4, .inr (false, [(37, 37)]))], [], kch42),
  (29, [(0, .inl 0), (1, .inl 12), (2, .inr (false, [(1, 60)])), (3, .inr (false, [(36, 36)])), (4, .inr (false, [(38, 38)])), (5, .inr (false, [(-9, -9)]))], [], kch42),
  (29, [(0, .inl 0), (1, .inl 12), (2, .inr (false, [(1, 60)])), (3, .inr (false, [(36, 36)])), (4, .inr (false, [(39, 39)])), (5, .inr (false, [(-9, -9)]))], [], kch42),
  (29, [(0, .inl 0), (1, .inl 12), (2, .inr (false, [(1, 60)])), (3, .inr (false, [(36, 36)])), (4, .inr (false, [(40, 40)])), (5, .inr (false, [(-9, -9)]))], [], kch42)] = true := by decide +kernel
def kch400 : aw_H := [(12, kcx396)]
/-- MiceRegisters.faultOfFigure -/
def kcc596 : ak_C := (18, [.inl 12, .inr (false, [(-1, 60)]), .inr (false, [(37, 37)]), .inr (false, [(0, 0)]), .inr (false, [(0, 7)])], kch23, [], [([], some (.inr (false, [(-9, -9)])), kch400), ([], some (.inr (false, [(-1, 63)])), [])])
def kch401 : aw_H := [(12, kcx398)]
/-- MiceRegisters.faultOfFigure -/
def kcc597 : ak_C := (18, [.inl 12, .inr (false, [(-1, 60)]), .inr (false, [(38, 38)]), .inr (false, [(1, 1)]), .inr (false, [(9, 9)])], kch400, [], [([], some (.inr (false, [(-9, -9)])), kch401), ([], some (.inr (false, [(-1, 63)])), [])])
/-- MiceRegisters.readMouse -/
def kcc598 : ak_C := (19, [.inl 0, .inl 12, .inr (false, [(-1, 60)]), .inr (false, [(36, 36)])], kch45, [24, 29, 30, 31], [([], some (.inr (false, [(-1, 63)])), kch37), ([], some (.inr (false, [(-9, -9)])), kch39)])
theorem kck598 : ai_chk [kcc28, kcc596, kcc597] kcc598 (fun pc => sm_ch sm_t19 pc, sm_Kn 2 6 none, fun x => sm_lk sm_ca2 x, some .int) [24, 29, 30, 31] 6 0 [] [] 2000 [] = true := by decide +kernel
/-- MiceRegisters.readLine -/
def kcc599 : ak_C := (17, [.inl 0, .inl 13, .inr (false, [(-1, 60)]), .inr (false, [(36, 36)])], kch46, [24, 25, 26], [([[], [], [], []], some (.inr (false, [(-1, 60)])), kch26), ([[], [], [(1, 60)], []], some (.inr (false, [(-9, -9)])), kch28)])
theorem kck599 : ai_chk [kcc37] kcc599 (fun pc => sm_ch sm_t17 pc, sm_Kn 2 6 none, fun x => sm_lk sm_ca2 x, some .int) [24, 25, 26] 6 4 [29] [] 2000 [(29, [(0, .inl 0), (1, .inl 13), (2, .inr (false, [(-1, 60)])), (3, .inr (false, [(36, 36)])), (4, .inr (false, [(37, 37)]))], [], kch47),
  (29, [(0, .inl 0), (1, .inl 13), (2, .inr (false, [(1, 60)])), (3, .inr (false, [(36, 36)])), (4, .inr (false, [(38, 38)])), (5, .inr (false, [(-9, -9)]))], [], kch47),
  (29, [(0, .inl 0), (1, .inl 13), (2, .inr (false, [(1, 60)])), (3, .inr (false, [(36, 36)])), (4, .inr (false, [(39, 39)])), (5, .inr (false, [(-9, -9)]))], [], kch47),
  (29, [(0, .inl 0), (1, .inl 13), (2, .inr (false, [(1, 60)])), (3, .inr (false, [(36, 36)])), (4, .inr (false, [(40, 40)])), (5, .inr (false, [(-9, -9)]))], [], kch47)] = true := by decide +kernel
def kch402 : aw_H := [(13, kcx396)]
/-- MiceRegisters.faultOfFigure -/
def kcc600 : ak_C := (18, [.inl 13, .inr (false, [(-1, 60)]), .inr (false, [(37, 37)]), .inr (false, [(0, 0)]), .inr (false, [(0, 7)])], kch22, [], [([], some (.inr (false, [(-9, -9)])), kch402), ([], some (.inr (false, [(-1, 63)])), [])])
def kch403 : aw_H := [(13, kcx398)]
/-- MiceRegisters.faultOfFigure -/
def kcc601 : ak_C := (18, [.inl 13, .inr (false, [(-1, 60)]), .inr (false, [(38, 38)]), .inr (false, [(1, 1)]), .inr (false, [(9, 9)])], kch402, [], [([], some (.inr (false, [(-9, -9)])), kch403), ([], some (.inr (false, [(-1, 63)])), [])])
/-- MiceRegisters.readMouse -/
def kcc602 : ak_C := (19, [.inl 0, .inl 13, .inr (false, [(-1, 60)]), .inr (false, [(36, 36)])], kch50, [24, 29, 30, 31], [([], some (.inr (false, [(-1, 63)])), kch37), ([], some (.inr (false, [(-9, -9)])), kch39)])
theorem kck602 : ai_chk [kcc28, kcc600, kcc601] kcc602 (fun pc => sm_ch sm_t19 pc, sm_Kn 2 6 none, fun x => sm_lk sm_ca2 x, some .int) [24, 29, 30, 31] 6 0 [] [] 2000 [] = true := by decide +kernel
/-- MiceRegisters.readLine -/
def kcc603 : ak_C := (17, [.inl 0, .inl 14, .inr (false, [(-1, 60)]), .inr (false, [(36, 36)])], kch51, [24, 25, 26], [([[], [], [], []], some (.inr (false, [(-1, 60)])), kch26), ([[], [], [(1, 60)], []], some (.inr (false, [(-9, -9)])), kch28)])
theorem kck603 : ai_chk [kcc42] kcc603 (fun pc => sm_ch sm_t17 pc, sm_Kn 2 6 none, fun x => sm_lk sm_ca2 x, some .int) [24, 25, 26] 6 4 [29] [] 2000 [(29, [(0, .inl 0), (1, .inl 14), (2, .inr (false, [(-1, 60)])), (3, .inr (false, [(36, 36)])), (4, .inr (false, [(37, 37)]))], [], kch52),
  (29, [(0, .inl 0), (1, .inl 14), (2, .inr (false, [(1, 60)])), (3, .inr (false, [(36, 36)])), (4, .inr (false, [(38, 38)])), (5, .inr (false, [(-9, -9)]))], [], kch52),
  (29, [(0, .inl 0), (1, .inl 14), (2, .inr (false, [(1, 60)])), (3, .inr (false, [(36, 36)])), (4, .inr (false, [(39, 39)])), (5, .inr (false, [(-9, -9)]))], [], kch52),
  (29, [(0, .inl 0), (1, .inl 14), (2, .inr (false, [(1, 60)])), (3, .inr (false, [(36, 36)])), (4, .inr (false, [(40, 40)])), (5, .inr (false, [(-9, -9)]))], [], kch52)] = true := by decide +kernel
def kch404 : aw_H := [(14, kcx396)]
/-- MiceRegisters.faultOfFigure -/
def kcc604 : ak_C := (18, [.inl 14, .inr (false, [(-1, 60)]), .inr (false, [(37, 37)]), .inr (false, [(0, 0)]), .inr (false, [(0, 7)])], kch21, [], [([], some (.inr (false, [(-9, -9)])), kch404), ([], some (.inr (false, [(-1, 63)])), [])])
def kch405 : aw_H := [(14, kcx398)]
/-- MiceRegisters.faultOfFigure -/
def kcc605 : ak_C := (18, [.inl 14, .inr (false, [(-1, 60)]), .inr (false, [(38, 38)]), .inr (false, [(1, 1)]), .inr (false, [(9, 9)])], kch404, [], [([], some (.inr (false, [(-9, -9)])), kch405), ([], some (.inr (false, [(-1, 63)])), [])])
/-- MiceRegisters.readMouse -/
def kcc606 : ak_C := (19, [.inl 0, .inl 14, .inr (false, [(-1, 60)]), .inr (false, [(36, 36)])], kch55, [24, 29, 30, 31], [([], some (.inr (false, [(-1, 63)])), kch37), ([], some (.inr (false, [(-9, -9)])), kch39)])
theorem kck606 : ai_chk [kcc28, kcc604, kcc605] kcc606 (fun pc => sm_ch sm_t19 pc, sm_Kn 2 6 none, fun x => sm_lk sm_ca2 x, some .int) [24, 29, 30, 31] 6 0 [] [] 2000 [] = true := by decide +kernel
/-- MiceRegisters.readLine -/
def kcc607 : ak_C := (17, [.inl 0, .inl 11, .inr (false, [(-1, 60)]), .inr (false, [(37, 37)])], kch29, [24, 25, 26], [([[], [], [], []], some (.inr (false, [(-1, 60)])), kch26), ([[], [], [(1, 60)], []], some (.inr (false, [(-9, -9)])), kch28)])
theorem kck607 : ai_chk [kcc26] kcc607 (fun pc => sm_ch sm_t17 pc, sm_Kn 2 6 none, fun x => sm_lk sm_ca2 x, some .int) [24, 25, 26] 6 4 [29] [] 2000 [(29, [(0, .inl 0), (1, .inl 11), (2, .inr (false, [(-1, 60)])), (3, .inr (false, [(37, 37)])), (4, .inr (false, [(38, 38)]))], [], kch31),
  (29, [(0, .inl 0), (1, .inl 11), (2, .inr (false, [(1, 60)])), (3, .inr (false, [(37, 37)])), (4, .inr (false, [(39, 39)])), (5, .inr (false, [(-9, -9)]))], [], kch31),
  (29, [(0, .inl 0), (1, .inl 11), (2, .inr (false, [(1, 60)])), (3, .inr (false, [(37, 37)])), (4, .inr (false, [(40, 40)])), (5, .inr (false, [(-9, -9)]))], [], kch31),
  (29, [(0, .inl 0), (1, .inl 11), (2, .inr (false, [(1, 60)])), (3, .inr (false, [(37, 37)])), (4, .inr (false, [(41, 41)])), (5, .inr (false, [(-9, -9)]))], [], kch31)] = true := by decide +kernel
def kcx406 : aw_A := .inr (.inl (1, 60, [], [(38, [(48, 55)])]))
def kch407 : aw_H := [(11, kcx406)]
/-- MiceRegisters.faultOfFigure -/
def kcc608 : ak_C := (18, [.inl 11, .inr (false, [(-1, 60)]), .inr (false, [(38, 38)]), .inr (false, [(0, 0)]), .inr (false, [(0, 7)])], kch24, [], [([], some (.inr (false, [(-9, -9)])), kch407), ([], some (.inr (false, [(-1, 63)])), [])])
def kcx408 : aw_A := .inr (.inl (1, 60, [], [(39, [(49, 57)]), (38, [(48, 55)])]))
def kch409 : aw_H := [(11, kcx408)]
/-- MiceRegisters.faultOfFigure -/
def kcc609 : ak_C := (18, [.inl 11, .inr (false, [(-1, 60)]), .inr (false, [(39, 39)]), .inr (false, [(1, 1)]), .inr (false, [(9, 9)])], kch407, [], [([], some (.inr (false, [(-9, -9)])), kch409), ([], some (.inr (false, [(-1, 63)])), [])])
/-- MiceRegisters.readMouse -/
def kcc610 : ak_C := (19, [.inl 0, .inl 11, .inr (false, [(-1, 60)]), .inr (false, [(37, 37)])], kch40, [24, 29, 30, 31], [([], some (.inr (false, [(-1, 63)])), kch37), ([], some (.inr (false, [(-9, -9)])), kch39)])
theorem kck610 : ai_chk [kcc28, kcc608, kcc609] kcc610 (fun pc => sm_ch sm_t19 pc, sm_Kn 2 6 none, fun x => sm_lk sm_ca2 x, some .int) [24, 29, 30, 31] 6 0 [] [] 2000 [] = true := by decide +kernel
/-- MiceRegisters.readLine -/
def kcc611 : ak_C := (17, [.inl 0, .inl 12, .inr (false, [(-1, 60)]), .inr (false, [(37, 37)])], kch41, [24, 25, 26], [([[], [], [], []], some (.inr (false, [(-1, 60)])), kch26), ([[], [], [(1, 60)], []], some (.inr (false, [(-9, -9)])), kch28)])
theorem kck611 : ai_chk [kcc32] kcc611 (fun pc => sm_ch sm_t17 pc, sm_Kn 2 6 none, fun x => sm_lk sm_ca2 x, some .int) [24, 25, 26] 6 4 [29] [] 2000 [(29, [(0, .inl 0), (1, .inl 12), (2, .inr (false, [(-1, 60)])), (3, .inr (false, [(37, 37)])), (4, .inr (false, [(38, 38)]))], [], kch42),
  (29, [(0, .inl 0), (1, .inl 12), (2, .inr (false, [(1, 60)])), (3, .inr (false, [(37, 37)])), (4, .inr (false, [(39, 39)])), (5, .inr (false, [(-9, -9)]))], [], kch42),
  (29, [(0, .inl 0), (1, .inl 12), (2, .inr (false, [(1, 60)])), (3, .inr (false, [(37, 37)])), (4, .inr (false, [(40, 40)])), (5, .inr (false, [(-9, -9)]))], [], kch42),
  (29, [(0, .inl 0), (1, .inl 12), (2, .inr (false, [(1, 60)])), (3, .inr (false, [(37, 37)])), (4, .inr (false, [(41, 41)])), (5, .inr (false, [(-9, -9)]))], [], kch42)] = true := by decide +kernel
def kch410 : aw_H := [(12, kcx406)]
/-- MiceRegisters.faultOfFigure -/
def kcc612 : ak_C := (18, [.inl 12, .inr (false, [(-1, 60)]), .inr (false, [(38, 38)]), .inr (false, [(0, 0)]), .inr (false, [(0, 7)])], kch23, [], [([], some (.inr (false, [(-9, -9)])), kch410), ([], some (.inr (false, [(-1, 63)])), [])])
def kch411 : aw_H := [(12, kcx408)]
/-- MiceRegisters.faultOfFigure -/
def kcc613 : ak_C := (18, [.inl 12, .inr (false, [(-1, 60)]), .inr (false, [(39, 39)]), .inr (false, [(1, 1)]), .inr (false, [(9, 9)])], kch410, [], [([], some (.inr (false, [(-9, -9)])), kch411), ([], some (.inr (false, [(-1, 63)])), [])])
/-- MiceRegisters.readMouse -/
def kcc614 : ak_C := (19, [.inl 0, .inl 12, .inr (false, [(-1, 60)]), .inr (false, [(37, 37)])], kch45, [24, 29, 30, 31], [([], some (.inr (false, [(-1, 63)])), kch37), ([], some (.inr (false, [(-9, -9)])), kch39)])
theorem kck614 : ai_chk [kcc28, kcc612, kcc613] kcc614 (fun pc => sm_ch sm_t19 pc, sm_Kn 2 6 none, fun x => sm_lk sm_ca2 x, some .int) [24, 29, 30, 31] 6 0 [] [] 2000 [] = true := by decide +kernel
/-- MiceRegisters.readLine -/
def kcc615 : ak_C := (17, [.inl 0, .inl 13, .inr (false, [(-1, 60)]), .inr (false, [(37, 37)])], kch46, [24, 25, 26], [([[], [], [], []], some (.inr (false, [(-1, 60)])), kch26), ([[], [], [(1, 60)], []], some (.inr (false, [(-9, -9)])), kch28)])
theorem kck615 : ai_chk [kcc37] kcc615 (fun pc => sm_ch sm_t17 pc, sm_Kn 2 6 none, fun x => sm_lk sm_ca2 x, some .int) [24, 25, 26] 6 4 [29] [] 2000 [(29, [(0, .inl 0), (1, .inl 13), (2, .inr (false, [(-1, 60)])), (3, .inr (false, [(37, 37)])), (4, .inr (false, [(38, 38)]))], [], kch47),
  (29, [(0, .inl 0), (1, .inl 13), (2, .inr (false, [(1, 60)])), (3, .inr (false, [(37, 37)])), (4, .inr (false, [(39, 39)])), (5, .inr (false, [(-9, -9)]))], [], kch47),
  (29, [(0, .inl 0), (1, .inl 13), (2, .inr (false, [(1, 60)])), (3, .inr (false, [(37, 37)])), (4, .inr (false, [(40, 40)])), (5, .inr (false, [(-9, -9)]))], [], kch47),
  (29, [(0, .inl 0), (1, .inl 13), (2, .inr (false, [(1, 60)])), (3, .inr (false, [(37, 37)])), (4, .inr (false, [(41, 41)])), (5, .inr (false, [(-9, -9)]))], [], kch47)] = true := by decide +kernel
def kch412 : aw_H := [(13, kcx406)]
/-- MiceRegisters.faultOfFigure -/
def kcc616 : ak_C := (18, [.inl 13, .inr (false, [(-1, 60)]), .inr (false, [(38, 38)]), .inr (false, [(0, 0)]), .inr (false, [(0, 7)])], kch22, [], [([], some (.inr (false, [(-9, -9)])), kch412), ([], some (.inr (false, [(-1, 63)])), [])])
def kch413 : aw_H := [(13, kcx408)]
/-- MiceRegisters.faultOfFigure -/
def kcc617 : ak_C := (18, [.inl 13, .inr (false, [(-1, 60)]), .inr (false, [(39, 39)]), .inr (false, [(1, 1)]), .inr (false, [(9, 9)])], kch412, [], [([], some (.inr (false, [(-9, -9)])), kch413), ([], some (.inr (false, [(-1, 63)])), [])])
/-- MiceRegisters.readMouse -/
def kcc618 : ak_C := (19, [.inl 0, .inl 13, .inr (false, [(-1, 60)]), .inr (false, [(37, 37)])], kch50, [24, 29, 30, 31], [([], some (.inr (false, [(-1, 63)])), kch37), ([], some (.inr (false, [(-9, -9)])), kch39)])
theorem kck618 : ai_chk [kcc28, kcc616, kcc617] kcc618 (fun pc => sm_ch sm_t19 pc, sm_Kn 2 6 none, fun x => sm_lk sm_ca2 x, some .int) [24, 29, 30, 31] 6 0 [] [] 2000 [] = true := by decide +kernel
/-- MiceRegisters.readLine -/
def kcc619 : ak_C := (17, [.inl 0, .inl 14, .inr (false, [(-1, 60)]), .inr (false, [(37, 37)])], kch51, [24, 25, 26], [([[], [], [], []], some (.inr (false, [(-1, 60)])), kch26), ([[], [], [(1, 60)], []], some (.inr (false, [(-9, -9)])), kch28)])
theorem kck619 : ai_chk [kcc42] kcc619 (fun pc => sm_ch sm_t17 pc, sm_Kn 2 6 none, fun x => sm_lk sm_ca2 x, some .int) [24, 25, 26] 6 4 [29] [] 2000 [(29, [(0, .inl 0), (1, .inl 14), (2, .inr (false, [(-1, 60)])), (3, .inr (false, [(37, 37)])), (4, .inr (false, [(38, 38)]))], [], kch52),
  (29, [(0, .inl 0), (1, .inl 14), (2, .inr (false, [(1, 60)])), (3, .inr (false, [(37, 37)])), (4, .inr (false, [(39, 39)])), (5, .inr (false, [(-9, -9)]))], [], kch52),
  (29, [(0, .inl 0), (1, .inl 14), (2, .inr (false, [(1, 60)])), (3, .inr (false, [(37, 37)])), (4, .inr (false, [(40, 40)])), (5, .inr (false, [(-9, -9)]))], [], kch52),
  (29, [(0, .inl 0), (1, .inl 14), (2, .inr (false, [(1, 60)])), (3, .inr (false, [(37, 37)])), (4, .inr (false, [(41, 41)])), (5, .inr (false, [(-9, -9)]))], [], kch52)] = true := by decide +kernel
def kch414 : aw_H := [(14, kcx406)]
/-- MiceRegisters.faultOfFigure -/
def kcc620 : ak_C := (18, [.inl 14, .inr (false, [(-1, 60)]), .inr (false, [(38, 38)]), .inr (false, [(0, 0)]), .inr (false, [(0, 7)])], kch21, [], [([], some (.inr (false, [(-9, -9)])), kch414), ([], some (.inr (false, [(-1, 63)])), [])])
def kch415 : aw_H := [(14, kcx408)]
/-- MiceRegisters.faultOfFigure -/
def kcc621 : ak_C := (18, [.inl 14, .inr (false, [(-1, 60)]), .inr (false, [(39, 39)]), .inr (false, [(1, 1)]), .inr (false, [(9, 9)])], kch414, [], [([], some (.inr (false, [(-9, -9)])), kch415), ([], some (.inr (false, [(-1, 63)])), [])])
/-- MiceRegisters.readMouse -/
def kcc622 : ak_C := (19, [.inl 0, .inl 14, .inr (false, [(-1, 60)]), .inr (false, [(37, 37)])], kch55, [24, 29, 30, 31], [([], some (.inr (false, [(-1, 63)])), kch37), ([], some (.inr (false, [(-9, -9)])), kch39)])
theorem kck622 : ai_chk [kcc28, kcc620, kcc621] kcc622 (fun pc => sm_ch sm_t19 pc, sm_Kn 2 6 none, fun x => sm_lk sm_ca2 x, some .int) [24, 29, 30, 31] 6 0 [] [] 2000 [] = true := by decide +kernel
/-- MiceRegisters.readLine -/
def kcc623 : ak_C := (17, [.inl 0, .inl 11, .inr (false, [(-1, 60)]), .inr (false, [(38, 38)])], kch29, [24, 25, 26], [([[], [], [], []], some (.inr (false, [(-1, 60)])), kch26), ([[], [], [(1, 60)], []], some (.inr (false, [(-9, -9)])), kch28)])
theorem kck623 : ai_chk [kcc26] kcc623 (fun pc => sm_ch sm_t17 pc, sm_Kn 2 6 none, fun x => sm_lk sm_ca2 x, some .int) [24, 25, 26] 6 4 [29] [] 2000 [(29, [(0, .inl 0), (1, .inl 11), (2, .inr (false, [(-1, 60)])), (3, .inr (false, [(38, 38)])), (4, .inr (false, [(39, 39)]))], [], kch31),
  (29, [(0, .inl 0), (1, .inl 11), (2, .inr (false, [(1, 60)])), (3, .inr (false, [(38, 38)])), (4, .inr (false, [(40, 40)])), (5, .inr (false, [(-9, -9)]))], [], kch31),
  (29, [(0, .inl 0), (1, .inl 11), (2, .inr (false, [(1, 60)])), (3, .inr (false, [(38, 38)])), (4, .inr (false, [(41, 41)])), (5, .inr (false, [(-9, -9)]))], [], kch31),
  (29, [(0, .inl 0), (1, .inl 11), (2, .inr (false, [(1, 60)])), (3, .inr (false, [(38, 38)])), (4, .inr (false, [(42, 42)])), (5, .inr (false, [(-9, -9)]))], [], kch31)] = true := by decide +kernel
def kcx416 : aw_A := .inr (.inl (1, 60, [], [(39, [(48, 55)])]))
def kch417 : aw_H := [(11, kcx416)]
/-- MiceRegisters.faultOfFigure -/
def kcc624 : ak_C := (18, [.inl 11, .inr (false, [(-1, 60)]), .inr (false, [(39, 39)]), .inr (false, [(0, 0)]), .inr (false, [(0, 7)])], kch24, [], [([], some (.inr (false, [(-9, -9)])), kch417), ([], some (.inr (false, [(-1, 63)])), [])])
def kcx418 : aw_A := .inr (.inl (1, 60, [], [(40, [(49, 57)]), (39, [(48, 55)])]))
def kch419 : aw_H := [(11, kcx418)]
/-- MiceRegisters.faultOfFigure -/
def kcc625 : ak_C := (18, [.inl 11, .inr (false, [(-1, 60)]), .inr (false, [(40, 40)]), .inr (false, [(1, 1)]), .inr (false, [(9, 9)])], kch417, [], [([], some (.inr (false, [(-9, -9)])), kch419), ([], some (.inr (false, [(-1, 63)])), [])])
/-- MiceRegisters.readMouse -/
def kcc626 : ak_C := (19, [.inl 0, .inl 11, .inr (false, [(-1, 60)]), .inr (false, [(38, 38)])], kch40, [24, 29, 30, 31], [([], some (.inr (false, [(-1, 63)])), kch37), ([], some (.inr (false, [(-9, -9)])), kch39)])
theorem kck626 : ai_chk [kcc28, kcc624, kcc625] kcc626 (fun pc => sm_ch sm_t19 pc, sm_Kn 2 6 none, fun x => sm_lk sm_ca2 x, some .int) [24, 29, 30, 31] 6 0 [] [] 2000 [] = true := by decide +kernel
/-- MiceRegisters.readLine -/
def kcc627 : ak_C := (17, [.inl 0, .inl 12, .inr (false, [(-1, 60)]), .inr (false, [(38, 38)])], kch41, [24, 25, 26], [([[], [], [], []], some (.inr (false, [(-1, 60)])), kch26), ([[], [], [(1, 60)], []], some (.inr (false, [(-9, -9)])), kch28)])
theorem kck627 : ai_chk [kcc32] kcc627 (fun pc => sm_ch sm_t17 pc, sm_Kn 2 6 none, fun x => sm_lk sm_ca2 x, some .int) [24, 25, 26] 6 4 [29] [] 2000 [(29, [(0, .inl 0), (1, .inl 12), (2, .inr (false, [(-1, 60)])), (3, .inr (false, [(38, 38)])), (4, .inr (false, [(39, 39)]))], [], kch42),
  (29, [(0, .inl 0), (1, .inl 12), (2, .inr (false, [(1, 60)])), (3, .inr (false, [(38, 38)])), (4, .inr (false, [(40, 40)])), (5, .inr (false, [(-9, -9)]))], [], kch42),
  (29, [(0, .inl 0), (1, .inl 12), (2, .inr (false, [(1, 60)])), (3, .inr (false, [(38, 38)])), (4, .inr (false, [(41, 41)])), (5, .inr (false, [(-9, -9)]))], [], kch42),
  (29, [(0, .inl 0), (1, .inl 12), (2, .inr (false, [(1, 60)])), (3, .inr (false, [(38, 38)])), (4, .inr (false, [(42, 42)])), (5, .inr (false, [(-9, -9)]))], [], kch42)] = true := by decide +kernel
def kch420 : aw_H := [(12, kcx416)]
/-- MiceRegisters.faultOfFigure -/
def kcc628 : ak_C := (18, [.inl 12, .inr (false, [(-1, 60)]), .inr (false, [(39, 39)]), .inr (false, [(0, 0)]), .inr (false, [(0, 7)])], kch23, [], [([], some (.inr (false, [(-9, -9)])), kch420), ([], some (.inr (false, [(-1, 63)])), [])])
def kch421 : aw_H := [(12, kcx418)]
/-- MiceRegisters.faultOfFigure -/
def kcc629 : ak_C := (18, [.inl 12, .inr (false, [(-1, 60)]), .inr (false, [(40, 40)]), .inr (false, [(1, 1)]), .inr (false, [(9, 9)])], kch420, [], [([], some (.inr (false, [(-9, -9)])), kch421), ([], some (.inr (false, [(-1, 63)])), [])])
/-- MiceRegisters.readMouse -/
def kcc630 : ak_C := (19, [.inl 0, .inl 12, .inr (false, [(-1, 60)]), .inr (false, [(38, 38)])], kch45, [24, 29, 30, 31], [([], some (.inr (false, [(-1, 63)])), kch37), ([], some (.inr (false, [(-9, -9)])), kch39)])
theorem kck630 : ai_chk [kcc28, kcc628, kcc629] kcc630 (fun pc => sm_ch sm_t19 pc, sm_Kn 2 6 none, fun x => sm_lk sm_ca2 x, some .int) [24, 29, 30, 31] 6 0 [] [] 2000 [] = true := by decide +kernel
/-- MiceRegisters.readLine -/
def kcc631 : ak_C := (17, [.inl 0, .inl 13, .inr (false, [(-1, 60)]), .inr (false, [(38, 38)])], kch46, [24, 25, 26], [([[], [], [], []], some (.inr (false, [(-1, 60)])), kch26), ([[], [], [(1, 60)], []], some (.inr (false, [(-9, -9)])), kch28)])
theorem kck631 : ai_chk [kcc37] kcc631 (fun pc => sm_ch sm_t17 pc, sm_Kn 2 6 none, fun x => sm_lk sm_ca2 x, some .int) [24, 25, 26] 6 4 [29] [] 2000 [(29, [(0, .inl 0), (1, .inl 13), (2, .inr (false, [(-1, 60)])), (3, .inr (false, [(38, 38)])), (4, .inr (false, [(39, 39)]))], [], kch47),
  (29, [(0, .inl 0), (1, .inl 13), (2, .inr (false, [(1, 60)])), (3, .inr (false, [(38, 38)])), (4, .inr (false, [(40, 40)])), (5, .inr (false, [(-9, -9)]))], [], kch47),
  (29, [(0, .inl 0), (1, .inl 13), (2, .inr (false, [(1, 60)])), (3, .inr (false, [(38, 38)])), (4, .inr (false, [(41, 41)])), (5, .inr (false, [(-9, -9)]))], [], kch47),
  (29, [(0, .inl 0), (1, .inl 13), (2, .inr (false, [(1, 60)])), (3, .inr (false, [(38, 38)])), (4, .inr (false, [(42, 42)])), (5, .inr (false, [(-9, -9)]))], [], kch47)] = true := by decide +kernel
def kch422 : aw_H := [(13, kcx416)]
/-- MiceRegisters.faultOfFigure -/
def kcc632 : ak_C := (18, [.inl 13, .inr (false, [(-1, 60)]), .inr (false, [(39, 39)]), .inr (false, [(0, 0)]), .inr (false, [(0, 7)])], kch22, [], [([], some (.inr (false, [(-9, -9)])), kch422), ([], some (.inr (false, [(-1, 63)])), [])])
def kch423 : aw_H := [(13, kcx418)]
/-- MiceRegisters.faultOfFigure -/
def kcc633 : ak_C := (18, [.inl 13, .inr (false, [(-1, 60)]), .inr (false, [(40, 40)]), .inr (false, [(1, 1)]), .inr (false, [(9, 9)])], kch422, [], [([], some (.inr (false, [(-9, -9)])), kch423), ([], some (.inr (false, [(-1, 63)])), [])])
/-- MiceRegisters.readMouse -/
def kcc634 : ak_C := (19, [.inl 0, .inl 13, .inr (false, [(-1, 60)]), .inr (false, [(38, 38)])], kch50, [24, 29, 30, 31], [([], some (.inr (false, [(-1, 63)])), kch37), ([], some (.inr (false, [(-9, -9)])), kch39)])
theorem kck634 : ai_chk [kcc28, kcc632, kcc633] kcc634 (fun pc => sm_ch sm_t19 pc, sm_Kn 2 6 none, fun x => sm_lk sm_ca2 x, some .int) [24, 29, 30, 31] 6 0 [] [] 2000 [] = true := by decide +kernel
/-- MiceRegisters.readLine -/
def kcc635 : ak_C := (17, [.inl 0, .inl 14, .inr (false, [(-1, 60)]), .inr (false, [(38, 38)])], kch51, [24, 25, 26], [([[], [], [], []], some (.inr (false, [(-1, 60)])), kch26), ([[], [], [(1, 60)], []], some (.inr (false, [(-9, -9)])), kch28)])
theorem kck635 : ai_chk [kcc42] kcc635 (fun pc => sm_ch sm_t17 pc, sm_Kn 2 6 none, fun x => sm_lk sm_ca2 x, some .int) [24, 25, 26] 6 4 [29] [] 2000 [(29, [(0, .inl 0), (1, .inl 14), (2, .inr (false, [(-1, 60)])), (3, .inr (false, [(38, 38)])), (4, .inr (false, [(39, 39)]))], [], kch52),
  (29, [(0, .inl 0), (1, .inl 14), (2, .inr (false, [(1, 60)])), (3, .inr (false, [(38, 38)])), (4, .inr (false, [(40, 40)])), (5, .inr (false, [(-9, -9)]))], [], kch52),
  (29, [(0, .inl 0), (1, .inl 14), (2, .inr (false, [(1, 60)])), (3, .inr (false, [(38, 38)])), (4, .inr (false, [(41, 41)])), (5, .inr (false, [(-9, -9)]))], [], kch52),
  (29, [(0, .inl 0), (1, .inl 14), (2, .inr (false, [(1, 60)])), (3, .inr (false, [(38, 38)])), (4, .inr (false, [(42, 42)])), (5, .inr (false, [(-9, -9)]))], [], kch52)] = true := by decide +kernel
def kch424 : aw_H := [(14, kcx416)]
/-- MiceRegisters.faultOfFigure -/
def kcc636 : ak_C := (18, [.inl 14, .inr (false, [(-1, 60)]), .inr (false, [(39, 39)]), .inr (false, [(0, 0)]), .inr (false, [(0, 7)])], kch21, [], [([], some (.inr (false, [(-9, -9)])), kch424), ([], some (.inr (false, [(-1, 63)])), [])])
def kch425 : aw_H := [(14, kcx418)]
/-- MiceRegisters.faultOfFigure -/
def kcc637 : ak_C := (18, [.inl 14, .inr (false, [(-1, 60)]), .inr (false, [(40, 40)]), .inr (false, [(1, 1)]), .inr (false, [(9, 9)])], kch424, [], [([], some (.inr (false, [(-9, -9)])), kch425), ([], some (.inr (false, [(-1, 63)])), [])])
/-- MiceRegisters.readMouse -/
def kcc638 : ak_C := (19, [.inl 0, .inl 14, .inr (false, [(-1, 60)]), .inr (false, [(38, 38)])], kch55, [24, 29, 30, 31], [([], some (.inr (false, [(-1, 63)])), kch37), ([], some (.inr (false, [(-9, -9)])), kch39)])
theorem kck638 : ai_chk [kcc28, kcc636, kcc637] kcc638 (fun pc => sm_ch sm_t19 pc, sm_Kn 2 6 none, fun x => sm_lk sm_ca2 x, some .int) [24, 29, 30, 31] 6 0 [] [] 2000 [] = true := by decide +kernel
/-- MiceRegisters.readLine -/
def kcc639 : ak_C := (17, [.inl 0, .inl 11, .inr (false, [(-1, 60)]), .inr (false, [(39, 39)])], kch29, [24, 25, 26], [([[], [], [], []], some (.inr (false, [(-1, 60)])), kch26), ([[], [], [(1, 60)], []], some (.inr (false, [(-9, -9)])), kch28)])
theorem kck639 : ai_chk [kcc26] kcc639 (fun pc => sm_ch sm_t17 pc, sm_Kn 2 6 none, fun x => sm_lk sm_ca2 x, some .int) [24, 25, 26] 6 4 [29] [] 2000 [(29, [(0, .inl 0), (1, .inl 11), (2, .inr (false, [(-1, 60)])), (3, .inr (false, [(39, 39)])), (4, .inr (false, [(40, 40)]))], [], kch31),
  (29, [(0, .inl 0), (1, .inl 11), (2, .inr (false, [(1, 60)])), (3, .inr (false, [(39, 39)])), (4, .inr (false, [(41, 41)])), (5, .inr (false, [(-9, -9)]))], [], kch31),
  (29, [(0, .inl 0), (1, .inl 11), (2, .inr (false, [(1, 60)])), (3, .inr (false, [(39, 39)])), (4, .inr (false, [(42, 42)])), (5, .inr (false, [(-9, -9)]))], [], kch31),
  (29, [(0, .inl 0), (1, .inl 11), (2, .inr (false, [(1, 60)])), (3, .inr (false, [(39, 39)])), (4, .inr (false, [(43, 43)])), (5, .inr (false, [(-9, -9)]))], [], kch31)] = true := by decide +kernel
def kcx426 : aw_A := .inr (.inl (1, 60, [], [(40, [(48, 55)])]))
def kch427 : aw_H := [(11, kcx426)]
/-- MiceRegisters.faultOfFigure -/
def kcc640 : ak_C := (18, [.inl 11, .inr (false, [(-1, 60)]), .inr (false, [(40, 40)]), .inr (false, [(0, 0)]), .inr (false, [(0, 7)])], kch24, [], [([], some (.inr (false, [(-9, -9)])), kch427), ([], some (.inr (false, [(-1, 63)])), [])])
def kcx428 : aw_A := .inr (.inl (1, 60, [], [(41, [(49, 57)]), (40, [(48, 55)])]))
def kch429 : aw_H := [(11, kcx428)]
/-- MiceRegisters.faultOfFigure -/
def kcc641 : ak_C := (18, [.inl 11, .inr (false, [(-1, 60)]), .inr (false, [(41, 41)]), .inr (false, [(1, 1)]), .inr (false, [(9, 9)])], kch427, [], [([], some (.inr (false, [(-9, -9)])), kch429), ([], some (.inr (false, [(-1, 63)])), [])])
/-- MiceRegisters.readMouse -/
def kcc642 : ak_C := (19, [.inl 0, .inl 11, .inr (false, [(-1, 60)]), .inr (false, [(39, 39)])], kch40, [24, 29, 30, 31], [([], some (.inr (false, [(-1, 63)])), kch37), ([], some (.inr (false, [(-9, -9)])), kch39)])
theorem kck642 : ai_chk [kcc28, kcc640, kcc641] kcc642 (fun pc => sm_ch sm_t19 pc, sm_Kn 2 6 none, fun x => sm_lk sm_ca2 x, some .int) [24, 29, 30, 31] 6 0 [] [] 2000 [] = true := by decide +kernel
/-- MiceRegisters.readLine -/
def kcc643 : ak_C := (17, [.inl 0, .inl 12, .inr (false, [(-1, 60)]), .inr (false, [(39, 39)])], kch41, [24, 25, 26], [([[], [], [], []], some (.inr (false, [(-1, 60)])), kch26), ([[], [], [(1, 60)], []], some (.inr (false, [(-9, -9)])), kch28)])
theorem kck643 : ai_chk [kcc32] kcc643 (fun pc => sm_ch sm_t17 pc, sm_Kn 2 6 none, fun x => sm_lk sm_ca2 x, some .int) [24, 25, 26] 6 4 [29] [] 2000 [(29, [(0, .inl 0), (1, .inl 12), (2, .inr (false, [(-1, 60)])), (3, .inr (false, [(39, 39)])), (4, .inr (false, [(40, 40)]))], [], kch42),
  (29, [(0, .inl 0), (1, .inl 12), (2, .inr (false, [(1, 60)])), (3, .inr (false, [(39, 39)])), (4, .inr (false, [(41, 41)])), (5, .inr (false, [(-9, -9)]))], [], kch42),
  (29, [(0, .inl 0), (1, .inl 12), (2, .inr (false, [(1, 60)])), (3, .inr (false, [(39, 39)])), (4, .inr (false, [(42, 42)])), (5, .inr (false, [(-9, -9)]))], [], kch42),
  (29, [(0, .inl 0), (1, .inl 12), (2, .inr (false, [(1, 60)])), (3, .inr (false, [(39, 39)])), (4, .inr (false, [(43, 43)])), (5, .inr (false, [(-9, -9)]))], [], kch42)] = true := by decide +kernel
def kch430 : aw_H := [(12, kcx426)]
/-- MiceRegisters.faultOfFigure -/
def kcc644 : ak_C := (18, [.inl 12, .inr (false, [(-1, 60)]), .inr (false, [(40, 40)]), .inr (false, [(0, 0)]), .inr (false, [(0, 7)])], kch23, [], [([], some (.inr (false, [(-9, -9)])), kch430), ([], some (.inr (false, [(-1, 63)])), [])])
def kch431 : aw_H := [(12, kcx428)]
/-- MiceRegisters.faultOfFigure -/
def kcc645 : ak_C := (18, [.inl 12, .inr (false, [(-1, 60)]), .inr (false, [(41, 41)]), .inr (false, [(1, 1)]), .inr (false, [(9, 9)])], kch430, [], [([], some (.inr (false, [(-9, -9)])), kch431), ([], some (.inr (false, [(-1, 63)])), [])])
/-- MiceRegisters.readMouse -/
def kcc646 : ak_C := (19, [.inl 0, .inl 12, .inr (false, [(-1, 60)]), .inr (false, [(39, 39)])], kch45, [24, 29, 30, 31], [([], some (.inr (false, [(-1, 63)])), kch37), ([], some (.inr (false, [(-9, -9)])), kch39)])
theorem kck646 : ai_chk [kcc28, kcc644, kcc645] kcc646 (fun pc => sm_ch sm_t19 pc, sm_Kn 2 6 none, fun x => sm_lk sm_ca2 x, some .int) [24, 29, 30, 31] 6 0 [] [] 2000 [] = true := by decide +kernel
/-- MiceRegisters.readLine -/
def kcc647 : ak_C := (17, [.inl 0, .inl 13, .inr (false, [(-1, 60)]), .inr (false, [(39, 39)])], kch46, [24, 25, 26], [([[], [], [], []], some (.inr (false, [(-1, 60)])), kch26), ([[], [], [(1, 60)], []], some (.inr (false, [(-9, -9)])), kch28)])
theorem kck647 : ai_chk [kcc37] kcc647 (fun pc => sm_ch sm_t17 pc, sm_Kn 2 6 none, fun x => sm_lk sm_ca2 x, some .int) [24, 25, 26] 6 4 [29] [] 2000 [(29, [(0, .inl 0), (1, .inl 13), (2, .inr (false, [(-1, 60)])), (3, .inr (false, [(39, 39)])), (4, .inr (false, [(40, 40)]))], [], kch47),
  (29, [(0, .inl 0), (1, .inl 13), (2, .inr (false, [(1, 60)])), (3, .inr (false, [(39, 39)])), (4, .inr (false, [(41, 41)])), (5, .inr (false, [(-9, -9)]))], [], kch47),
  (29, [(0, .inl 0), (1, .inl 13), (2, .inr (false, [(1, 60)])), (3, .inr (false, [(39, 39)])), (4, .inr (false, [(42, 42)])), (5, .inr (false, [(-9, -9)]))], [], kch47),
  (29, [(0, .inl 0), (1, .inl 13), (2, .inr (false, [(1, 60)])), (3, .inr (false, [(39, 39)])), (4, .inr (false, [(43, 43)])), (5, .inr (false, [(-9, -9)]))], [], kch47)] = true := by decide +kernel
def kch432 : aw_H := [(13, kcx426)]
/-- MiceRegisters.faultOfFigure -/
def kcc648 : ak_C := (18, [.inl 13, .inr (false, [(-1, 60)]), .inr (false, [(40, 40)]), .inr (false, [(0, 0)]), .inr (false, [(0, 7)])], kch22, [], [([], some (.inr (false, [(-9, -9)])), kch432), ([], some (.inr (false, [(-1, 63)])), [])])
def kch433 : aw_H := [(13, kcx428)]
/-- MiceRegisters.faultOfFigure -/
def kcc649 : ak_C := (18, [.inl 13, .inr (false, [(-1, 60)]), .inr (false, [(41, 41)]), .inr (false, [(1, 1)]), .inr (false, [(9, 9)])], kch432, [], [([], some (.inr (false, [(-9, -9)])), kch433), ([], some (.inr (false, [(-1, 63)])), [])])
/-- MiceRegisters.readMouse -/
def kcc650 : ak_C := (19, [.inl 0, .inl 13, .inr (false, [(-1, 60)]), .inr (false, [(39, 39)])], kch50, [24, 29, 30, 31], [([], some (.inr (false, [(-1, 63)])), kch37), ([], some (.inr (false, [(-9, -9)])), kch39)])
theorem kck650 : ai_chk [kcc28, kcc648, kcc649] kcc650 (fun pc => sm_ch sm_t19 pc, sm_Kn 2 6 none, fun x => sm_lk sm_ca2 x, some .int) [24, 29, 30, 31] 6 0 [] [] 2000 [] = true := by decide +kernel
/-- MiceRegisters.readLine -/
def kcc651 : ak_C := (17, [.inl 0, .inl 14, .inr (false, [(-1, 60)]), .inr (false, [(39, 39)])], kch51, [24, 25, 26], [([[], [], [], []], some (.inr (false, [(-1, 60)])), kch26), ([[], [], [(1, 60)], []], some (.inr (false, [(-9, -9)])), kch28)])
theorem kck651 : ai_chk [kcc42] kcc651 (fun pc => sm_ch sm_t17 pc, sm_Kn 2 6 none, fun x => sm_lk sm_ca2 x, some .int) [24, 25, 26] 6 4 [29] [] 2000 [(29, [(0, .inl 0), (1, .inl 14), (2, .inr (false, [(-1, 60)])), (3, .inr (false, [(39, 39)])), (4, .inr (false, [(40, 40)]))], [], kch52),
  (29, [(0, .inl 0), (1, .inl 14), (2, .inr (false, [(1, 60)])), (3, .inr (false, [(39, 39)])), (4, .inr (false, [(41, 41)])), (5, .inr (false, [(-9, -9)]))], [], kch52),
  (29, [(0, .inl 0), (1, .inl 14), (2, .inr (false, [(1, 60)])), (3, .inr (false, [(39, 39)])), (4, .inr (false, [(42, 42)])), (5, .inr (false, [(-9, -9)]))], [], kch52),
  (29, [(0, .inl 0), (1, .inl 14), (2, .inr (false, [(1, 60)])), (3, .inr (false, [(39, 39)])), (4, .inr (false, [(43, 43)])), (5, .inr (false, [(-9, -9)]))], [], kch52)] = true := by decide +kernel
def kch434 : aw_H := [(14, kcx426)]
/-- MiceRegisters.faultOfFigure -/
def kcc652 : ak_C := (18, [.inl 14, .inr (false, [(-1, 60)]), .inr (false, [(40, 40)]), .inr (false, [(0, 0)]), .inr (false, [(0, 7)])], kch21, [], [([], some (.inr (false, [(-9, -9)])), kch434), ([], some (.inr (false, [(-1, 63)])), [])])
def kch435 : aw_H := [(14, kcx428)]
/-- MiceRegisters.faultOfFigure -/
def kcc653 : ak_C := (18, [.inl 14, .inr (false, [(-1, 60)]), .inr (false, [(41, 41)]), .inr (false, [(1, 1)]), .inr (false, [(9, 9)])], kch434, [], [([], some (.inr (false, [(-9, -9)])), kch435), ([], some (.inr (false, [(-1, 63)])), [])])
/-- MiceRegisters.readMouse -/
def kcc654 : ak_C := (19, [.inl 0, .inl 14, .inr (false, [(-1, 60)]), .inr (false, [(39, 39)])], kch55, [24, 29, 30, 31], [([], some (.inr (false, [(-1, 63)])), kch37), ([], some (.inr (false, [(-9, -9)])), kch39)])
theorem kck654 : ai_chk [kcc28, kcc652, kcc653] kcc654 (fun pc => sm_ch sm_t19 pc, sm_Kn 2 6 none, fun x => sm_lk sm_ca2 x, some .int) [24, 29, 30, 31] 6 0 [] [] 2000 [] = true := by decide +kernel
/-- MiceRegisters.readLine -/
def kcc655 : ak_C := (17, [.inl 0, .inl 11, .inr (false, [(-1, 60)]), .inr (false, [(40, 40)])], kch29, [24, 25, 26], [([[], [], [], []], some (.inr (false, [(-1, 60)])), kch26), ([[], [], [(1, 60)], []], some (.inr (false, [(-9, -9)])), kch28)])
theorem kck655 : ai_chk [kcc26] kcc655 (fun pc => sm_ch sm_t17 pc, sm_Kn 2 6 none, fun x => sm_lk sm_ca2 x, some .int) [24, 25, 26] 6 4 [29] [] 2000 [(29, [(0, .inl 0), (1, .inl 11), (2, .inr (false, [(-1, 60)])), (3, .inr (false, [(40, 40)])), (4, .inr (false, [(41, 41)]))], [], kch31),
  (29, [(0, .inl 0), (1, .inl 11), (2, .inr (false, [(1, 60)])), (3, .inr (false, [(40, 40)])), (4, .inr (false, [(42, 42)])), (5, .inr (false, [(-9, -9)]))], [], kch31),
  (29, [(0, .inl 0), (1, .inl 11), (2, .inr (false, [(1, 60)])), (3, .inr (false, [(40, 40)])), (4, .inr (false, [(43, 43)])), (5, .inr (false, [(-9, -9)]))], [], kch31),
  (29, [(0, .inl 0), (1, .inl 11), (2, .inr (false, [(1, 60)])), (3, .inr (false, [(40, 40)])), (4, .inr (false, [(44, 44)])), (5, .inr (false, [(-9, -9)]))], [], kch31)] = true := by decide +kernel
def kcx436 : aw_A := .inr (.inl (1, 60, [], [(41, [(48, 55)])]))
def kch437 : aw_H := [(11, kcx436)]
/-- MiceRegisters.faultOfFigure -/
def kcc656 : ak_C := (18, [.inl 11, .inr (false, [(-1, 60)]), .inr (false, [(41, 41)]), .inr (false, [(0, 0)]), .inr (false, [(0, 7)])], kch24, [], [([], some (.inr (false, [(-9, -9)])), kch437), ([], some (.inr (false, [(-1, 63)])), [])])
def kcx438 : aw_A := .inr (.inl (1, 60, [], [(42, [(49, 57)]), (41, [(48, 55)])]))
def kch439 : aw_H := [(11, kcx438)]
/-- MiceRegisters.faultOfFigure -/
def kcc657 : ak_C := (18, [.inl 11, .inr (false, [(-1, 60)]), .inr (false, [(42, 42)]), .inr (false, [(1, 1)]), .inr (false, [(9, 9)])], kch437, [], [([], some (.inr (false, [(-9, -9)])), kch439), ([], some (.inr (false, [(-1, 63)])), [])])
/-- MiceRegisters.readMouse -/
def kcc658 : ak_C := (19, [.inl 0, .inl 11, .inr (false, [(-1, 60)]), .inr (false, [(40, 40)])], kch40, [24, 29, 30, 31], [([], some (.inr (false, [(-1, 63)])), kch37), ([], some (.inr (false, [(-9, -9)])), kch39)])
theorem kck658 : ai_chk [kcc28, kcc656, kcc657] kcc658 (fun pc => sm_ch sm_t19 pc, sm_Kn 2 6 none, fun x => sm_lk sm_ca2 x, some .int) [24, 29, 30, 31] 6 0 [] [] 2000 [] = true := by decide +kernel
/-- MiceRegisters.readLine -/
def kcc659 : ak_C := (17, [.inl 0, .inl 12, .inr (false, [(-1, 60)]), .inr (false, [(40, 40)])], kch41, [24, 25, 26], [([[], [], [], []], some (.inr (false, [(-1, 60)])), kch26), ([[], [], [(1, 60)], []], some (.inr (false, [(-9, -9)])), kch28)])
theorem kck659 : ai_chk [kcc32] kcc659 (fun pc => sm_ch sm_t17 pc, sm_Kn 2 6 none, fun x => sm_lk sm_ca2 x, some .int) [24, 25, 26] 6 4 [29] [] 2000 [(29, [(0, .inl 0), (1, .inl 12), (2, .inr (false, [(-1, 60)])), (3, .inr (false, [(40, 40)])), (4, .inr (false, [(41, 41)]))], [], kch42),
  (29, [(0, .inl 0), (1, .inl 12), (2, .inr (false, [(1, 60)])), (3, .inr (false, [(40, 40)])), (4, .inr (false, [(42, 42)])), (5, .inr (false, [(-9, -9)]))], [], kch42),
  (29, [(0, .inl 0), (1, .inl 12), (2, .inr (false, [(1, 60)])), (3, .inr (false, [(40, 40)])), (4, .inr (false, [(43, 43)])), (5, .inr (false, [(-9, -9)]))], [], kch42),
  (29, [(0, .inl 0), (1, .inl 12), (2, .inr (false, [(1, 60)])), (3, .inr (false, [(40, 40)])), (4, .inr (false, [(44, 44)])), (5, .inr (false, [(-9, -9)]))], [], kch42)] = true := by decide +kernel
def kch440 : aw_H := [(12, kcx436)]
/-- MiceRegisters.faultOfFigure -/
def kcc660 : ak_C := (18, [.inl 12, .inr (false, [(-1, 60)]), .inr (false, [(41, 41)]), .inr (false, [(0, 0)]), .inr (false, [(0, 7)])], kch23, [], [([], some (.inr (false, [(-9, -9)])), kch440), ([], some (.inr (false, [(-1, 63)])), [])])
def kch441 : aw_H := [(12, kcx438)]
/-- MiceRegisters.faultOfFigure -/
def kcc661 : ak_C := (18, [.inl 12, .inr (false, [(-1, 60)]), .inr (false, [(42, 42)]), .inr (false, [(1, 1)]), .inr (false, [(9, 9)])], kch440, [], [([], some (.inr (false, [(-9, -9)])), kch441), ([], some (.inr (false, [(-1, 63)])), [])])
/-- MiceRegisters.readMouse -/
def kcc662 : ak_C := (19, [.inl 0, .inl 12, .inr (false, [(-1, 60)]), .inr (false, [(40, 40)])], kch45, [24, 29, 30, 31], [([], some (.inr (false, [(-1, 63)])), kch37), ([], some (.inr (false, [(-9, -9)])), kch39)])
theorem kck662 : ai_chk [kcc28, kcc660, kcc661] kcc662 (fun pc => sm_ch sm_t19 pc, sm_Kn 2 6 none, fun x => sm_lk sm_ca2 x, some .int) [24, 29, 30, 31] 6 0 [] [] 2000 [] = true := by decide +kernel
