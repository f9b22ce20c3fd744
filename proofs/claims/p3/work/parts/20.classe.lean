/-! Contracts over ranges of the class, and their checks; printed by a program of mine. -/
/-- MiceRegisters.readLine -/
def kcc399 : ak_C := (17, [.inl 0, .inl 11, .inr (false, [(-1, 60)]), .inr (false, [(24, 24)])], kch29, [24, 25, 26], [([[], [], [], []], some (.inr (false, [(-1, 60)])), kch26), ([[], [], [(1, 60)], []], some (.inr (false, [(-9, -9)])), kch28)])
theorem kck399 : ai_chk [kcc26] kcc399 (fun pc => sm_ch sm_t17 pc, sm_Kn 2 6 none, fun x => sm_lk sm_ca2 x, some .int) [24, 25, 26] 6 4 [29] [] 2000 [(29, [(0, .inl 0), (1, .inl 11), (2, .inr (false, [(-1, 60)])), (3, .inr (false, [(24, 24)])), (4, .inr (false, [(25, 25)]))], [], kch31),
  (29, [(0, .inl 0), (1, .inl 11), (2, .inr (false, [(1, 60)])), (3, .inr (false, [(24, 24)])), (4, .inr (false, [(26, 26)])), (5, .inr (false, [(-9, -9)]))], [], kch31),
  (29, [(0, .inl 0), (1, .inl 11), (2, .inr (false, [(1, 60)])), (3, .inr (false, [(24, 24)])), (4, .inr (false, [(27, 27)])), (5, .inr (false, [(-9, -9)]))], [], kch31),
  (29, [(0, .inl 0), (1, .inl 11), (2, .inr (false, [(1, 60)])), (3, .inr (false, [(24, 24)])), (4, .inr (false, [(28, 28)])), (5, .inr (false, [(-9, -9)]))], [], kch31)] = true := by decide +kernel
def kcx276 : aw_A := .inr (.inl (1, 60, [], [(25, [(48, 55)])]))
def kch277 : aw_H := [(11, kcx276)]
/-- MiceRegisters.faultOfFigure -/
def kcc400 : ak_C := (18, [.inl 11, .inr (false, [(-1, 60)]), .inr (false, [(25, 25)]), .inr (false, [(0, 0)]), .inr (false, [(0, 7)])], kch24, [], [([], some (.inr (false, [(-9, -9)])), kch277), ([], some (.inr (false, [(-1, 63)])), [])])
def kcx278 : aw_A := .inr (.inl (1, 60, [], [(26, [(49, 57)]), (25, [(48, 55)])]))
def kch279 : aw_H := [(11, kcx278)]
/-- MiceRegisters.faultOfFigure -/
def kcc401 : ak_C := (18, [.inl 11, .inr (false, [(-1, 60)]), .inr (false, [(26, 26)]), .inr (false, [(1, 1)]), .inr (false, [(9, 9)])], kch277, [], [([], some (.inr (false, [(-9, -9)])), kch279), ([], some (.inr (false, [(-1, 63)])), [])])
/-- MiceRegisters.readMouse -/
def kcc402 : ak_C := (19, [.inl 0, .inl 11, .inr (false, [(-1, 60)]), .inr (false, [(24, 24)])], kch40, [24, 29, 30, 31], [([], some (.inr (false, [(-1, 63)])), kch37), ([], some (.inr (false, [(-9, -9)])), kch39)])
theorem kck402 : ai_chk [kcc28, kcc400, kcc401] kcc402 (fun pc => sm_ch sm_t19 pc, sm_Kn 2 6 none, fun x => sm_lk sm_ca2 x, some .int) [24, 29, 30, 31] 6 0 [] [] 2000 [] = true := by decide +kernel
/-- MiceRegisters.readLine -/
def kcc403 : ak_C := (17, [.inl 0, .inl 12, .inr (false, [(-1, 60)]), .inr (false, [(24, 24)])], kch41, [24, 25, 26], [([[], [], [], []], some (.inr (false, [(-1, 60)])), kch26), ([[], [], [(1, 60)], []], some (.inr (false, [(-9, -9)])), kch28)])
theorem kck403 : ai_chk [kcc32] kcc403 (fun pc => sm_ch sm_t17 pc, sm_Kn 2 6 none, fun x => sm_lk sm_ca2 x, some .int) [24, 25, 26] 6 4 [29] [] 2000 [(29, [(0, .inl 0), (1, .inl 12), (2, .inr (false, [(-1, 60)])), (3, .inr (false, [(24, 24)])), (4, .inr (false, [(25, 25)]))], [], kch42),
  (29, [(0, .inl 0), (1, .inl 12), (2, .inr (false, [(1, 60)])), (3, .inr (false, [(24, 24)])), (4, .inr (false, [(26, 26)])), (5, .inr (false, [(-9, -9)]))], [], kch42),
  (29, [(0, .inl 0), (1, .inl 12), (2, .inr (false, [(1, 60)])), (3, .inr (false, [(24, 24)])), (4, .inr (false, [(27, 27)])), (5, .inr (false, [(-9, -9)]))], [], kch42),
  (29, [(0, .inl 0), (1, .inl 12), (2, .inr (false, [(1, 60)])), (3, .inr (false, [(24, 24)])), (4, .inr (false, [(28, 28)])), (5, .inr (false, [(-9, -9)]))], [], kch42)] = true := by decide +kernel
def kch280 : aw_H := [(12, kcx276)]
/-- MiceRegisters.faultOfFigure -/
def kcc404 : ak_C := (18, [.inl 12, .inr (false, [(-1, 60)]), .inr (false, [(25, 25)]), .inr (false, [(0, 0)]), .inr (false, [(0, 7)])], kch23, [], [([], some (.inr (false, [(-9, -9)])), kch280), ([], some (.inr (false, [(-1, 63)])), [])])
def kch281 : aw_H := [(12, kcx278)]
/-- MiceRegisters.faultOfFigure -/
def kcc405 : ak_C := (18, [.inl 12, .inr (false, [(-1, 60)]), .inr (false, [(26, 26)]), .inr (false, [(1, 1)]), .inr (false, [(9, 9)])], kch280, [], [([], some (.inr (false, [(-9, -9)])), kch281), ([], some (.inr (false, [(-1, 63)])), [])])
/-- MiceRegisters.readMouse -/
def kcc406 : ak_C := (19, [.inl 0, .inl 12, .inr (false, [(-1, 60)]), .inr (false, [(24, 24)])], kch45, [24, 29, 30, 31], [([], some (.inr (false, [(-1, 63)])), kch37), ([], some (.inr (false, [(-9, -9)])), kch39)])
theorem kck406 : ai_chk [kcc28, kcc404, kcc405] kcc406 (fun pc => sm_ch sm_t19 pc, sm_Kn 2 6 none, fun x => sm_lk sm_ca2 x, some .int) [24, 29, 30, 31] 6 0 [] [] 2000 [] = true := by decide +kernel
/-- MiceRegisters.readLine -/
def kcc407 : ak_C := (17, [.inl 0, .inl 13, .inr (false, [(-1, 60)]), .inr (false, [(24, 24)])], kch46, [24, 25, 26], [([[], [], [], []], some (.inr (false, [(-1, 60)])), kch26), ([[], [], [(1, 60)], []], some (.inr (false, [(-9, -9)])), kch28)])
theorem kck407 : ai_chk [kcc37] kcc407 (fun pc => sm_ch sm_t17 pc, sm_Kn 2 6 none, fun x => sm_lk sm_ca2 x, some .int) [24, 25, 26] 6 4 [29] [] 2000 [(29, [(0, .inl 0), (1, .inl 13), (2, .inr (false, [(-1, 60)])), (3, .inr (false, [(24, 24)])), (4, .inr (false, [(25, 25)]))], [], kch47),
  (29, [(0, .inl 0), (1, .inl 13), (2, .inr (false, [(1, 60)])), (3, .inr (false, [(24, 24)])), (4, .inr (false, [(26, 26)])), (5, .inr (false, [(-9, -9)]))], [], kch47),
  (29, [(0, .inl 0), (1, .inl 13), (2, .inr (false, [(1, 60)])), (3, .inr (false, [(24, 24)])), (4, .inr (false, [(27, 27)])), (5, .inr (false, [(-9, -9)]))], [], kch47),
  (29, [(0, .inl 0), (1, .inl 13), (2, .inr (false, [(1, 60)])), (3, .inr (false, [(24, 24)])), (4, .inr (false, [(28, 28)])), (5, .inr (false, [(-9, -9)]))], [], kch47)] = true := by decide +kernel
def kch282 : aw_H := [(13, kcx276)]
/-- MiceRegisters.faultOfFigure -/
def kcc408 : ak_C := (18, [.inl 13, .inr (false, [(-1, 60)]), .inr (false, [(25, 25)]), .inr (false, [(0, 0)]), .inr (false, [(0, 7)])], kch22, [], [([], some (.inr (false, [(-9, -9)])), kch282), ([], some (.inr (false, [(-1, 63)])), [])])
def kch283 : aw_H := [(13, kcx278)]
/-- MiceRegisters.faultOfFigure -/
def kcc409 : ak_C := (18, [.inl 13, .inr (false, [(-1, 60)]), .inr (false, [(26, 26)]), .inr (false, [(1, 1)]), .inr (false, [(9, 9)])], kch282, [], [([], some (.inr (false, [(-9, -9)])), kch283), ([], some (.inr (false, [(-1, 63)])), [])])
/-- MiceRegisters.readMouse -/
def kcc410 : ak_C := (19, [.inl 0, .inl 13, .inr (false, [(-1, 60)]), .inr (false, [(24, 24)])], kch50, [24, 29, 30, 31], [([], some (.inr (false, [(-1, 63)])), kch37), ([], some (.inr (false, [(-9, -9)])), kch39)])
theorem kck410 : ai_chk [kcc28, kcc408, kcc409] kcc410 (fun pc => sm_ch sm_t19 pc, sm_Kn 2 6 none, fun x => sm_lk sm_ca2 x, some .int) [24, 29, 30, 31] 6 0 [] [] 2000 [] = true := by decide +kernel
/-- MiceRegisters.readLine -/
def kcc411 : ak_C := (17, [.inl 0, .inl 14, .inr (false, [(-1, 60)]), .inr (false, [(24, 24)])], kch51, [24, 25, 26], [([[], [], [], []], some (.inr (false, [(-1, 60)])), kch26), ([[], [], [(1, 60)], []], some (.inr (false, [(-9, -9)])), kch28)])
theorem kck411 : ai_chk [kcc42] kcc411 (fun pc => sm_ch sm_t17 pc, sm_Kn 2 6 none, fun x => sm_lk sm_ca2 x, some .int) [24, 25, 26] 6 4 [29] [] 2000 [(29, [(0, .inl 0), (1, .inl 14), (2, .inr (false, [(-1, 60)])), (3, .inr (false, [(24, 24)])), (4, .inr (false, [(25, 25)]))], [], kch52),
  (29, [(0, .inl 0), (1, .inl 14), (2, .inr (false, [(1, 60)])), (3, .inr (false, [(24, 24)])), (4, .inr (false, [(26, 26)])), (5, .inr (false, [(-9, -9)]))], [], kch52),
  (29, [(0, .inl 0), (1, .inl 14), (2, .inr (false, [(1, 60)])), (3, .inr (false, [(24, 24)])), (4, .inr (false, [(27, 27)])), (5, .inr (false, [(-9, -9)]))], [], kch52),
  (29, [(0, .inl 0), (1, .inl 14), (2, .inr (false, [(1, 60)])), (3, .inr (false, [(24, 24)])), (4, .inr (false, [(28, 28)])), (5, .inr (false, [(-9, -9)]))], [], kch52)] = true := by decide +kernel
def kch284 : aw_H := [(14, kcx276)]
/-- MiceRegisters.faultOfFigure -/
def kcc412 : ak_C := (18, [.inl 14, .inr (false, [(-1, 60)]), .inr (false, [(25, 25)]), .inr (false, [(0, 0)]), .inr (false, [(0, 7)])], kch21, [], [([], some (.inr (false, [(-9, -9)])), kch284), ([], some (.inr (false, [(-1, 63)])), [])])
def kch285 : aw_H := [(14, kcx278)]
/-- MiceRegisters.faultOfFigure -/
def kcc413 : ak_C := (18, [.inl 14, .inr (false, [(-1, 60)]), .inr (false, [(26, 26)]), .inr (false, [(1, 1)]), .inr (false, [(9, 9)])], kch284, [], [([], some (.inr (false, [(-9, -9)])), kch285), ([], some (.inr (false, [(-1, 63)])), [])])
/-- MiceRegisters.readMouse -/
def kcc414 : ak_C := (19, [.inl 0, .inl 14, .inr (false, [(-1, 60)]), .inr (false, [(24, 24)])], kch55, [24, 29, 30, 31], [([], some (.inr (false, [(-1, 63)])), kch37), ([], some (.inr (false, [(-9, -9)])), kch39)])
theorem kck414 : ai_chk [kcc28, kcc412, kcc413] kcc414 (fun pc => sm_ch sm_t19 pc, sm_Kn 2 6 none, fun x => sm_lk sm_ca2 x, some .int) [24, 29, 30, 31] 6 0 [] [] 2000 [] = true := by decide +kernel
/-- MiceRegisters.readLine -/
def kcc415 : ak_C := (17, [.inl 0, .inl 11, .inr (false, [(-1, 60)]), .inr (false, [(25, 25)])], kch29, [24, 25, 26], [([[], [], [], []], some (.inr (false, [(-1, 60)])), kch26), ([[], [], [(1, 60)], []], some (.inr (false, [(-9, -9)])), kch28)])
theorem kck415 : ai_chk [kcc26] kcc415 (fun pc => sm_ch sm_t17 pc, sm_Kn 2 6 none, fun x => sm_lk sm_ca2 x, some .int) [24, 25, 26] 6 4 [29] [] 2000 [(29, [(0, .inl 0), (1, .inl 11), (2, .inr (false, [(-1, 60)])), (3, .inr (false, [(25, 25)])), (4, .inr (false, [(26, 26)]))], [], kch31),
  (29, [(0, .inl 0), (1, .inl 11), (2, .inr (false, [(1, 60)])), (3, .inr (false, [(25, 25)])), (4, .inr (false, [(27, 27)])), (5, .inr (false, [(-9, -9)]))], [], kch31),
  (29, [(0, .inl 0), (1, .inl 11), (2, .inr (false, [(1, 60)])), (3, .inr (false, [(25, 25)])), (4, .inr (false, [(28, 28)])), (5, .inr (false, [(-9, -9)]))], [], kch31),
  (29, [(0, .inl 0), (1, .inl 11), (2, .inr (false, [(1, 60)])), (3, .inr (false, [(25, 25)])), (4, .inr (false, [(29, 29)])), (5, .inr (false, [(-9, -9)]))], [], kch31)] = true := by decide +kernel
def kcx286 : aw_A := .inr (.inl (1, 60, [], [(26, [(48, 55)])]))
def kch287 : aw_H := [(11, kcx286)]
/-- MiceRegisters.faultOfFigure -/
def kcc416 : ak_C := (18, [.inl 11, .inr (false, [(-1, 60)]), .inr (false, [(26, 26)]), .inr (false, [(0, 0)]), .inr (false, [(0, 7)])], kch24, [], [([], some (.inr (false, [(-9, -9)])), kch287), ([], some (.inr (false, [(-1, 63)])), [])])
def kcx288 : aw_A := .inr (.inl (1, 60, [], [(27, [(49, 57)]), (26, [(48, 55)])]))
def kch289 : aw_H := [(11, kcx288)]
/-- MiceRegisters.faultOfFigure -/
def kcc417 : ak_C := (18, [.inl 11, .inr (false, [(-1, 60)]), .inr (false, [(27, 27)]), .inr (false, [(1, 1)]), .inr (false, [(9, 9)])], kch287, [], [([], some (.inr (false, [(-9, -9)])), kch289), ([], some (.inr (false, [(-1, 63)])), [])])
/-- MiceRegisters.readMouse -/
def kcc418 : ak_C := (19, [.inl 0, .inl 11, .inr (false, [(-1, 60)]), .inr (false, [(25, 25)])], kch40, [24, 29, 30, 31], [([], some (.inr (false, [(-1, 63)])), kch37), ([], some (.inr (false, [(-9, -9)])), kch39)])
theorem kck418 : ai_chk [kcc28, kcc416, kcc417] kcc418 (fun pc => sm_ch sm_t19 pc, sm_Kn 2 6 none, fun x => sm_lk sm_ca2 x, some .int) [24, 29, 30, 31] 6 0 [] [] 2000 [] = true := by decide +kernel
/-- MiceRegisters.readLine -/
def kcc419 : ak_C := (17, [.inl 0, .inl 12, .inr (false, [(-1, 60)]), .inr (false, [(25, 25)])], kch41, [24, 25, 26], [([[], [], [], []], some (.inr (false, [(-1, 60)])), kch26), ([[], [], [(1, 60)], []], some (.inr (false, [(-9, -9)])), kch28)])
theorem kck419 : ai_chk [kcc32] kcc419 (fun pc => sm_ch sm_t17 pc, sm_Kn 2 6 none, fun x => sm_lk sm_ca2 x, some .int) [24, 25, 26] 6 4 [29] [] 2000 [(29, [(0, .inl 0), (1, .inl 12), (2, .inr (false, [(-1, 60)])), (3, .inr (false, [(25, 25)])), (4, .inr (false, [(26, 26)]))], [], kch42),
  (29, [(0, .inl 0), (1, .inl 12), (2, .inr (false, [(1, 60)])), (3, .inr (false, [(25, 25)])), (4, .inr (false, [(27, 27)])), (5, .inr (false, [(-9, -9)]))], [], kch42),
  (29, [(0, .inl 0), (1, .inl 12), (2, .inr (false, [(1, 60)])), (3, .inr (false, [(25, 25)])), (4, .inr (false, [(28, 28)])), (5, .inr (false, [(-9, -9)]))], [], kch42),
  (29, [(0, .inl 0), (1, .inl 12), (2, .inr (false, [(1, 60)])), (3, .inr (false, [(25, 25)])), (4, .inr (false, [(29, 29)])), (5, .inr (false, [(-9, -9)]))], [], kch42)] = true := by decide +kernel
def kch290 : aw_H := [(12, kcx286)]
/-- MiceRegisters.faultOfFigure -/
def kcc420 : ak_C := (18, [.inl 12, .inr (false, [(-1, 60)]), .inr (false, [(26, 26)]), .inr (false, [(0, 0)]), .inr (false, [(0, 7)])], kch23, [], [([], some (.inr (false, [(-9, -9)])), kch290), ([], some (.inr (false, [(-1, 63)])), [])])
def kch291 : aw_H := [(12, kcx288)]
/-- MiceRegisters.faultOfFigure -/
def kcc421 : ak_C := (18, [.inl 12, .inr (false, [(-1, 60)]), .inr (false, [(27, 27)]), .inr (false, [(1, 1)]), .inr (false, [(9, 9)])], kch290, [], [([], some (.inr (false, [(-9, -9)])), kch291), ([], some (.inr (false, [(-1, 63)])), [])])
/-- MiceRegisters.readMouse -/
def kcc422 : ak_C := (19, [.inl 0, .inl 12, .inr (false, [(-1, 60)]), .inr (false, [(25, 25)])], kch45, [24, 29, 30, 31], [([], some (.inr (false, [(-1, 63)])), kch37), ([], some (.inr (false, [(-9, -9)])), kch39)])
theorem kck422 : ai_chk [kcc28, kcc420, kcc421] kcc422 (fun pc => sm_ch sm_t19 pc, sm_Kn 2 6 none, fun x => sm_lk sm_ca2 x, some .int) [24, 29, 30, 31] 6 0 [] [] 2000 [] = true := by decide +kernel
/-- MiceRegisters.readLine -/
def kcc423 : ak_C := (17, [.inl 0, .inl 13, .inr (false, [(-1, 60)]), .inr (false, [(25, 25)])], kch46, [24, 25, 26], [([[], [], [], []], some (.inr (false, [(-1, 60)])), kch26), ([[], [], [(1, 60)], []], some (.inr (false, [(-9, -9)])), kch28)])
theorem kck423 : ai_chk [kcc37] kcc423 (fun pc => sm_ch sm_t17 pc, sm_Kn 2 6 none, fun x => sm_lk sm_ca2 x, some .int) [24, 25, 26] 6 4 [29] [] 2000 [(29, [(0, .inl 0), (1, .inl 13), (2, .inr (false, [(-1, 60)])), (3, .inr (false, [(25, 25)])), (4, .inr (false, [(26, 26)]))], [], kch47),
  (29, [(0, .inl 0), (1, .inl 13), (2, .inr (false, [(1, 60)])), (3, .inr (false, [(25, 25)])), (4, .inr (false, [(27, 27)])), (5, .inr (false, [(-9, -9)]))], [], kch47),
  (29, [(0, .inl 0), (1, .inl 13), (2, .inr (false, [(1, 60)])), (3, .inr (false, [(25, 25)])), (4, .inr (false, [(28, 28)])), (5, .inr (false, [(-9, -9)]))], [], kch47),
  (29, [(0, .inl 0), (1, .inl 13), (2, .inr (false, [(1, 60)])), (3, .inr (false, [(25, 25)])), (4, .inr (false, [(29, 29)])), (5, .inr (false, [(-9, -9)]))], [], kch47)] = true := by decide +kernel
def kch292 : aw_H := [(13, kcx286)]
/-- MiceRegisters.faultOfFigure -/
def kcc424 : ak_C := (18, [.inl 13, .inr (false, [(-1, 60)]), .inr (false, [(26, 26)]), .inr (false, [(0, 0)]), .inr (false, [(0, 7)])], kch22, [], [([], some (.inr (false, [(-9, -9)])), kch292), ([], some (.inr (false, [(-1, 63)])), [])])
def kch293 : aw_H := [(13, kcx288)]
/-- MiceRegisters.faultOfFigure -/
def kcc425 : ak_C := (18, [.inl 13, .inr (false, [(-1, 60)]), .inr (false, [(27, 27)]), .inr (false, [(1, 1)]), .inr (false, [(9, 9)])], kch292, [], [([], some (.inr (false, [(-9, -9)])), kch293), ([], some (.inr (false, [(-1, 63)])), [])])
/-- MiceRegisters.readMouse -/
def kcc426 : ak_C := (19, [.inl 0, .inl 13, .inr (false, [(-1, 60)]), .inr (false, [(25, 25)])], kch50, [24, 29, 30, 31], [([], some (.inr (false, [(-1, 63)])), kch37), ([], some (.inr (false, [(-9, -9)])), kch39)])
theorem kck426 : ai_chk [kcc28, kcc424, kcc425] kcc426 (fun pc => sm_ch sm_t19 pc, sm_Kn 2 6 none, fun x => sm_lk sm_ca2 x, some .int) [24, 29, 30, 31] 6 0 [] [] 2000 [] = true := by decide +kernel
/-- MiceRegisters.readLine -/
def kcc427 : ak_C := (17, [.inl 0, .inl 14, .inr (false, [(-1, 60)]), .inr (false, [(25, 25)])], kch51, [24, 25, 26], [([[], [], [], []], some (.inr (false, [(-1, 60)])), kch26), ([[], [], [(1, 60)], []], some (.inr (false, [(-9, -9)])), kch28)])
theorem kck427 : ai_chk [kcc42] kcc427 (fun pc => sm_ch sm_t17 pc, sm_Kn 2 6 none, fun x => sm_lk sm_ca2 x, some .int) [24, 25, 26] 6 4 [29] [] 2000 [(29, [(0, .inl 0), (1, .inl 14), (2, .inr (false, [(-1, 60)])), (3, .inr (false, [(25, 25)])), (4, .inr (false, [(26, 26)]))], [], kch52),
  (29, [(0, .inl 0), (1, .inl 14), (2, .inr (false, [(1, 60)])), (3, .inr (false, [(25, 25)])), (4, .inr (false, [(27, 27)])), (5, .inr (false, [(-9, -9)]))], [], kch52),
  (29, [(0, .inl 0), (1, .inl 14), (2, .inr (false, [(1, 60)])), (3, .inr (false, [(25, 25)])), (4, .inr (false, [(28, 28)])), (5, .inr (false, [(-9, -9)]))], [], kch52),
  (29, [(0, .inl 0), (1, .inl 14), (2, .inr (false, [(1, 60)])), (3, .inr (false, [(25, 25)])), (4, .inr (false, [(29, 29)])), (5, .inr (false, [(-9, -9)]))], [], kch52)] = true := by decide +kernel
def kch294 : aw_H := [(14, kcx286)]
/-- MiceRegisters.faultOfFigure -/
def kcc428 : ak_C := (18, [.inl 14, .inr (false, [(-1, 60)]), .inr (false, [(26, 26)]), .inr (false, [(0, 0)]), .inr (false, [(0, 7)])], kch21, [], [([], some (.inr (false, [(-9, -9)])), kch294), ([], some (.inr (false, [(-1, 63)])), [])])
def kch295 : aw_H := [(14, kcx288)]
/-- MiceRegisters.faultOfFigure -/
def kcc429 : ak_C := (18, [.inl 14, .inr (false, [(-1, 60)]), .inr (false, [(27, 27)]), .inr (false, [(1, 1)]), .inr (false, [(9, 9)])], kch294, [], [([], some (.inr (false, [(-9, -9)])), kch295), ([], some (.inr (false, [(-1, 63)])), [])])
/-- MiceRegisters.readMouse -/
def kcc430 : ak_C := (19, [.inl 0, .inl 14, .inr (false, [(-1, 60)]), .inr (false, [(25, 25)])], kch55, [24, 29, 30, 31], [([], some (.inr (false, [(-1, 63)])), kch37), ([], some (.inr (false, [(-9, -9)])), kch39)])
theorem kck430 : ai_chk [kcc28, kcc428, kcc429] kcc430 (fun pc => sm_ch sm_t19 pc, sm_Kn 2 6 none, fun x => sm_lk sm_ca2 x, some .int) [24, 29, 30, 31] 6 0 [] [] 2000 [] = true := by decide +kernel
/-- MiceRegisters.readLine -/
def kcc431 : ak_C := (17, [.inl 0, .inl 11, .inr (false, [(-1, 60)]), .inr (false, [(26, 26)])], kch29, [24, 25, 26], [([[], [], [], []], some (.inr (false, [(-1, 60)])), kch26), ([[], [], [(1, 60)], []], some (.inr (false, [(-9, -9)])), kch28)])
theorem kck431 : ai_chk [kcc26] kcc431 (fun pc => sm_ch sm_t17 pc, sm_Kn 2 6 none, fun x => sm_lk sm_ca2 x, some .int) [24, 25, 26] 6 4 [29] [] 2000 [(29, [(0, .inl 0), (1, .inl 11), (2, .inr (false, [(-1, 60)])), (3, .inr (false, [(26, 26)])), (4, .inr (false, [(27, 27)]))], [], kch31),
  (29, [(0, .inl 0), (1, .inl 11), (2, .inr (false, [(1, 60)])), (3, .inr (false, [(26, 26)])), (4, .inr (false, [(28, 28)])), (5, .inr (false, [(-9, -9)]))], [], kch31),
  (29, [(0, .inl 0), (1, .inl 11), (2, .inr (false, [(1, 60)])), (3, .inr (false, [(26, 26)])), (4, .inr (false, [(29, 29)])), (5, .inr (false, [(-9, -9)]))], [], kch31),
  (29, [(0, .inl 0), (1, .inl 11), (2, .inr (false, [(1, 60)])), (3, .inr (false, [(26, 26)])), (4, .inr (false, [(30, 30)])), (5, .inr (false, [(-9, -9)]))], [], kch31)] = true := by decide +kernel
def kcx296 : aw_A := .inr (.inl (1, 60, [], [(27, [(48, 55)])]))
def kch297 : aw_H := [(11, kcx296)]
/-- MiceRegisters.faultOfFigure -/
def kcc432 : ak_C := (18, [.inl 11, .inr (false, [(-1, 60)]), .inr (false, [(27, 27)]), .inr (false, [(0, 0)]), .inr (false, [(0, 7)])], kch24, [], [([], some (.inr (false, [(-9, -9)])), kch297), ([], some (.inr (false, [(-1, 63)])), [])])
def kcx298 : aw_A := .inr (.inl (1, 60, [], [(28, [(49, 57)]), (27, [(48, 55)])]))
def kch299 : aw_H := [(11, kcx298)]
/-- MiceRegisters.faultOfFigure -/
def kcc433 : ak_C := (18, [.inl 11, .inr (false, [(-1, 60)]), .inr (false, [(28, 28)]), .inr (false, [(1, 1)]), .inr (false, [(9, 9)])], kch297, [], [([], some (.inr (false, [(-9, -9)])), kch299), ([], some (.inr (false, [(-1, 63)])), [])])
/-- MiceRegisters.readMouse -/
def kcc434 : ak_C := (19, [.inl 0, .inl 11, .inr (false, [(-1, 60)]), .inr (false, [(26, 26)])], kch40, [24, 29, 30, 31], [([], some (.inr (false, [(-1, 63)])), kch37), ([], some (.inr (false, [(-9, -9)])), kch39)])
theorem kck434 : ai_chk [kcc28, kcc432, kcc433] kcc434 (fun pc => sm_ch sm_t19 pc, sm_Kn 2 6 none, fun x => sm_lk sm_ca2 x, some .int) [24, 29, 30, 31] 6 0 [] [] 2000 [] = true := by decide +kernel
/-- MiceRegisters.readLine -/
def kcc435 : ak_C := (17, [.inl 0, .inl 12, .inr (false, [(-1, 60)]), .inr (false, [(26, 26)])], kch41, [24, 25, 26], [([[], [], [], []], some (.inr (false, [(-1, 60)])), kch26), ([[], [], [(1, 60)], []], some (.inr (false, [(-9, -9)])), kch28)])
theorem kck435 : ai_chk [kcc32] kcc435 (fun pc => sm_ch sm_t17 pc, sm_Kn 2 6 none, fun x => sm_lk sm_ca2 x, some .int) [24, 25, 26] 6 4 [29] [] 2000 [(29, [(0, .inl 0), (1, .inl 12), (2, .inr (false, [(-1, 60)])), (3, .inr (false, [(26, 26)])), (4, .inr (false, [(27, 27)]))], [], kch42),
  (29, [(0, .inl 0), (1, .inl 12), (2, .inr (false, [(1, 60)])), (3, .inr (false, [(26, 26)])), (4, .inr (false, [(28, 28)])), (5, .inr (false, [(-9, -9)]))], [], kch42),
  (29, [(0, .inl 0), (1, .inl 12), (2, .inr (false, [(1, 60)])), (3, .inr (false, [(26, 26)])), (4, .inr (false, [(29, 29)])), (5, .inr (false, [(-9, -9)]))], [], kch42),
  (29, [(0, .inl 0), (1, .inl 12), (2, .inr (false, [(1, 60)])), (3, .inr (false, [(26, 26)])), (4, .inr (false, [(30, 30)])), (5, .inr (false, [(-9, -9)]))], [], kch42)] = true := by decide +kernel
def kch300 : aw_H := [(12, kcx296)]
/-- MiceRegisters.faultOfFigure -/
def kcc436 : ak_C := (18, [.inl 12, .inr (false, [(-1, 60)]), .inr (false, [(27, 27)]), .inr (false, [(0, 0)]), .inr (false, [(0, 7)])], kch23, [], [([], some (.inr (false, [(-9, -9)])), kch300), ([], some (.inr (false, [(-1, 63)])), [])])
def kch301 : aw_H := [(12, kcx298)]
/-- MiceRegisters.faultOfFigure -/
def kcc437 : ak_C := (18, [.inl 12, .inr (false, [(-1, 60)]), .inr (false, [(28, 28)]), .inr (false, [(1, 1)]), .inr (false, [(9, 9)])], kch300, [], [([], some (.inr (false, [(-9, -9)])), kch301), ([], some (.inr (false, [(-1, 63)])), [])])
/-- MiceRegisters.readMouse -/
def kcc438 : ak_C := (19, [.inl 0, .inl 12, .inr (false, [(-1, 60)]), .inr (false, [(26, 26)])], kch45, [24, 29, 30, 31], [([], some (.inr (false, [(-1, 63)])), kch37), ([], some (.inr (false, [(-9, -9)])), kch39)])
theorem kck438 : ai_chk [kcc28, kcc436, kcc437] kcc438 (fun pc => sm_ch sm_t19 pc, sm_Kn 2 6 none, fun x => sm_lk sm_ca2 x, some .int) [24, 29, 30, 31] 6 0 [] [] 2000 [] = true := by decide +kernel
/-- MiceRegisters.readLine -/
def kcc439 : ak_C := (17, [.inl 0, .inl 13, .inr (false, [(-1, 60)]), .inr (false, [(26, 26)])], kch46, [24, 25, 26], [([[], [], [], []], some (.inr (false, [(-1, 60)])), kch26), ([[], [], [(1, 60)], []], some (.inr (false, [(-9, -9)])), kch28)])
theorem kck439 : ai_chk [kcc37] kcc439 (fun pc => sm_ch sm_t17 pc, sm_Kn 2 6 none, fun x => sm_lk sm_ca2 x, some .int) [24, 25, 26] 6 4 [29] [] 2000 [(29, [(0, .inl 0), (1, .inl 13), (2, .inr (false, [(-1, 60)])), (3, .inr (false, [(26, 26)])), (4, .inr (false, [(27, 27)]))], [], kch47),
  (29, [(0, .inl 0), (1, .inl 13), (2, .inr (false, [(1, 60)])), (3, .inr (false, [(26, 26)])), (4, .inr (false, [(28, 28)])), (5, .inr (false, [(-9, -9)]))], [], kch47),
  (29, [(0, .inl 0), (1, .inl 13), (2, .inr (false, [(1, 60)])), (3, .inr (false, [(26, 26)])), (4, .inr (false, [(29, 29)])), (5, .inr (false, [(-9, -9)]))], [], kch47),
  (29, [(0, .inl 0), (1, .inl 13), (2, .inr (false, [(1, 60)])), (3, .inr (false, [(26, 26)])), (4, .inr (false, [(30, 30)])), (5, .inr (false, [(-9, -9)]))], [], kch47)] = true := by decide +kernel
def kch302 : aw_H := [(13, kcx296)]
/-- MiceRegisters.faultOfFigure -/
def kcc440 : ak_C := (18, [.inl 13, .inr (false, [(-1, 60)]), .inr (false, [(27, 27)]), .inr (false, [(0, 0)]), .inr (false, [(0, 7)])], kch22, [], [([], some (.inr (false, [(-9, -9)])), kch302), ([], some (.inr (false, [(-1, 63)])), [])])
def kch303 : aw_H := [(13, kcx298)]
/-- MiceRegisters.faultOfFigure -/
def kcc441 : ak_C := (18, [.inl 13, .inr (false, [(-1, 60)]), .inr (false, [(28, 28)]), .inr (false, [(1, 1)]), .inr (false, [(9, 9)])], kch302, [], [([], some (.inr (false, [(-9, -9)])), kch303), ([], some (.inr (false, [(-1, 63)])), [])])
/-- MiceRegisters.readMouse -/
def kcc442 : ak_C := (19, [.inl 0, .inl 13, .inr (false, [(-1, 60)]), .inr (false, [(26, 26)])], kch50, [24, 29, 30, 31], [([], some (.inr (false, [(-1, 63)])), kch37), ([], some (.inr (false, [(-9, -9)])), kch39)])
theorem kck442 : ai_chk [kcc28, kcc440, kcc441] kcc442 (fun pc => sm_ch sm_t19 pc, sm_Kn 2 6 none, fun x => sm_lk sm_ca2 x, some .int) [24, 29, 30, 31] 6 0 [] [] 2000 [] = true := by decide +kernel
/-- MiceRegisters.readLine -/
def kcc443 : ak_C := (17, [.inl 0, .inl 14, .inr (false, [(-1, 60)]), .inr (false, [(26, 26)])], kch51, [24, 25, 26], [([[], [], [], []], some (.inr (false, [(-1, 60)])), kch26), ([[], [], [(1, 60)], []], some (.inr (false, [(-9, -9)])), kch28)])
theorem kck443 : ai_chk [kcc42] kcc443 (fun pc => sm_ch sm_t17 pc, sm_Kn 2 6 none, fun x => sm_lk sm_ca2 x, some .int) [24, 25, 26] 6 4 [29] [] 2000 [(29, [(0, .inl 0), (1, .inl 14), (2, .inr (false, [(-1, 60)])), (3, .inr (false, [(26, 26)])), (4, .inr (false, [(27, 27)]))], [], kch52),
  (29, [(0, .inl 0), (1, .inl 14), (2, .inr (false, [(1, 60)])), (3, .inr (false, [(26, 26)])), (4, .inr (false, [(28, 28)])), (5, .inr (false, [(-9, -9)]))], [], kch52),
  (29, [(0, .inl 0), (1, .inl 14), (2, .inr (false, [(1, 60)])), (3, .inr (false, [(26, 26)])), (4, .inr (false, [(29, 29)])), (5, .inr (false, [(-9, -9)]))], [], kch52),
  (29, [(0, .inl 0), (1, .inl 14), (2, .inr (false, [(1, 60)])), (3, .inr (false, [(26, 26)])), (4, .inr (false, [(30, 30)])), (5, .inr (false, [(-9, -9)]))], [], kch52)] = true := by decide +kernel
def kch304 : aw_H := [(14, kcx296)]
/-- MiceRegisters.faultOfFigure -/
def kcc444 : ak_C := (18, [.inl 14, .inr (false, [(-1, 60)]), .inr (false, [(27, 27)]), .inr (false, [(0, 0)]), .inr (false, [(0, 7)])], kch21, [], [([], some (.inr (false, [(-9, -9)])), kch304), ([], some (.inr (false, [(-1, 63)])), [])])
def kch305 : aw_H := [(14, kcx298)]
/-- MiceRegisters.faultOfFigure -/
def kcc445 : ak_C := (18, [.inl 14, .inr (false, [(-1, 60)]), .inr (false, [(28, 28)]), .inr (false, [(1, 1)]), .inr (false, [(9, 9)])], kch304, [], [([], some (.inr (false, [(-9, -9)])), kch305), ([], some (.inr (false, [(-1, 63)])), [])])
/-- MiceRegisters.readMouse -/
def kcc446 : ak_C := (19, [.inl 0, .inl 14, .inr (false, [(-1, 60)]), .inr (false, [(26, 26)])], kch55, [24, 29, 30, 31], [([], some (.inr (false, [(-1, 63)])), kch37), ([], some (.inr (false, [(-9, -9)])), kch39)])
theorem kck446 : ai_chk [kcc28, kcc444, kcc445] kcc446 (fun pc => sm_ch sm_t19 pc, sm_Kn 2 6 none, fun x => sm_lk sm_ca2 x, some .int) [24, 29, 30, 31] 6 0 [] [] 2000 [] = true := by decide +kernel
/-- MiceRegisters.readLine -/
def kcc447 : ak_C := (17, [.inl 0, .inl 11, .inr (false, [(-1, 60)]), .inr (false, [(27, 27)])], kch29, [24, 25, 26], [([[], [], [], []], some (.inr (false, [(-1, 60)])), kch26), ([[], [], [(1, 60)], []], some (.inr (false, [(-9, -9)])), kch28)])
theorem kck447 : ai_chk [kcc26] kcc447 (fun pc => sm_ch sm_t17 pc, sm_Kn 2 6 none, fun x => sm_lk sm_ca2 x, some .int) [24, 25, 26] 6 4 [29] [] 2000 [(29, [(0, .inl 0), (1, .inl 11), (2, .inr (false, [(-1, 60)])), (3, .inr (false, [(27, 27)])), (4, .inr (false, [(28, 28)]))], [], kch31),
  (29, [(0, .inl 0), (1, .inl 11), (2, .inr (false, [(1, 60)])), (3, .inr (false, [(27, 27)])), (4, .inr (false, [(29, 29)])), (5, .inr (false, [(-9, -9)]))], [], kch31),
  (29, [(0, .inl 0), (1, .inl 11), (2, .inr (false, [(1, 60)])), (3, .inr (false, [(27, 27)])), (4, .inr (false, [(30, 30)])), (5, .inr (false, [(-9, -9)]))], [], kch31),
  (29, [(0, .inl 0), (1, .inl 11), (2, .inr (false, [(1, 60)])), (3, .inr (false, [(27, 27)])), (4, .inr (false, [(31, 31)])), (5, .inr (false, [(-9, -9)]))], [], kch31)] = true := by decide +kernel
def kcx306 : aw_A := .inr (.inl (1, 60, [], [(28, [(48, 55)])]))
def kch307 : aw_H := [(11, kcx306)]
/-- MiceRegisters.faultOfFigure -/
def kcc448 : ak_C := (18, [.inl 11, .inr (false, [(-1, 60)]), .inr (false, [(28, 28)]), .inr (false, [(0, 0)]), .inr (false, [(0, 7)])], kch24, [], [([], some (.inr (false, [(-9, -9)])), kch307), ([], some (.inr (false, [(-1, 63)])), [])])
def kcx308 : aw_A := .inr (.inl (1, 60, [], [(29, [(49, 57)]), (28, [(48, 55)])]))
def kch309 : aw_H := [(11, kcx308)]
/-- MiceRegisters.faultOfFigure -/
def kcc449 : ak_C := (18, [.inl 11, .inr (false, [(-1, 60)]), .inr (false, [(29, 29)]), .inr (false, [(1, 1)]), .inr (false, [(9, 9)])], kch307, [], [([], some (.inr (false, [(-9, -9)])), kch309), ([], some (.inr (false, [(-1, 63)])), [])])
/-- MiceRegisters.readMouse -/
def kcc450 : ak_C := (19, [.inl 0, .inl 11, .inr (false, [(-1, 60)]), .inr (false, [(27, 27)])], kch40, [24, 29, 30, 31], [([], some (.inr (false, [(-1, 63)])), kch37), ([], some (.inr (false, [(-9, -9)])), kch39)])
theorem kck450 : ai_chk [kcc28, kcc448, kcc449] kcc450 (fun pc => sm_ch sm_t19 pc, sm_Kn 2 6 none, fun x => sm_lk sm_ca2 x, some .int) [24, 29, 30, 31] 6 0 [] [] 2000 [] = true := by decide +kernel
/-- MiceRegisters.readLine -/
def kcc451 : ak_C := (17, [.inl 0, .inl 12, .inr (false, [(-1, 60)]), .inr (false, [(27, 27)])], kch41, [24, 25, 26], [([[], [], [], []], some (.inr (false, [(-1, 60)])), kch26), ([[], [], [(1, 60)], []], some (.inr (false, [(-9, -9)])), kch28)])
theorem kck451 : ai_chk [kcc32] kcc451 (fun pc => sm_ch sm_t17 pc, sm_Kn 2 6 none, fun x => sm_lk sm_ca2 x, some .int) [24, 25, 26] 6 4 [29] [] 2000 [(29, [(0, .inl 0), (1, .inl 12), (2, .inr (false, [(-1, 60)])), (3, .inr (false, [(27, 27)])), (4, .inr (false, [(28, 28)]))], [], kch42),
  (29, [(0, .inl 0), (1, .inl 12), (2, .inr (false, [(1, 60)])), (3, .inr (false, [(27, 27)])), (4, .inr (false, [(29, 29)])), (5, .inr (false, [(-9, -9)]))], [], kch42),
  (29, [(0, .inl 0), (1, .inl 12), (2, .inr (false, [(1, 60)])), (3, .inr (false, [(27, 27)])), (4, .inr (false, [(30, 30)])), (5, .inr (false, [(-9, -9)]))], [], kch42),
  (29, [(0, .inl 0), (1, .inl 12), (2, .inr (false, [(1, 60)])), (3, .inr (false, [(27, 27)])), (4, .inr (false, [(31, 31)])), (5, .inr (false, [(-9, -9)]))], [], kch42)] = true := by decide +kernel
def kch310 : aw_H := [(12, kcx306)]
/-- MiceRegisters.faultOfFigure -/
def kcc452 : ak_C := (18, [.inl 12, .inr (false, [(-1, 60)]), .inr (false, [(28, 28)]), .inr (false, [(0, 0)]), .inr (false, [(0, 7)])], kch23, [], [([], some (.inr (false, [(-9, -9)])), kch310), ([], some (.inr (false, [(-1, 63)])), [])])
def kch311 : aw_H := [(12, kcx308)]
/-- MiceRegisters.faultOfFigure -/
def kcc453 : ak_C := (18, [.inl 12, .inr (false, [(-1, 60)]), .inr (false, [(29, 29)]), .inr (false, [(1, 1)]), .inr (false, [(9, 9)])], kch310, [], [([], some (.inr (false, [(-9, -9)])), kch311), ([], some (.inr (false, [(-1, 63)])), [])])
/-- MiceRegisters.readMouse -/
def kcc454 : ak_C := (19, [.inl 0, .inl 12, .inr (false, [(-1, 60)]), .inr (false, [(27, 27)])], kch45, [24, 29, 30, 31], [([], some (.inr (false, [(-1, 63)])), kch37), ([], some (.inr (false, [(-9, -9)])), kch39)])
theorem kck454 : ai_chk [kcc28, kcc452, kcc453] kcc454 (fun pc => sm_ch sm_t19 pc, sm_Kn 2 6 none, fun x => sm_lk sm_ca2 x, some .int) [24, 29, 30, 31] 6 0 [] [] 2000 [] = true := by decide +kernel
/-- MiceRegisters.readLine -/
def kcc455 : ak_C := (17, [.inl 0, .inl 13, .inr (false, [(-1, 60)]), .inr (false, [(27, 27)])], kch46, [24, 25, 26], [([[], [], [], []], some (.inr (false, [(-1, 60)])), kch26), ([[], [], [(1, 60)], []], some (.inr (false, [(-9, -9)])), kch28)])
theorem kck455 : ai_chk [kcc37] kcc455 (fun pc => sm_ch sm_t17 pc, sm_Kn 2 6 none, fun x => sm_lk sm_ca2 x, some .int) [24, 25, 26] 6 4 [29] [] 2000 [(29, [(0, .inl 0), (1, .inl 13), (2, .inr (false, [(-1, 60)])), (3, .inr (false, [(27, 27)])), (4, .inr (false, [(28, 28)]))], [], kch47),
  (29, [(0, .inl 0), (1, .inl 13), (2, .inr (false, [(1, 60)])), (3, .inr (false, [(27, 27)])), (4, .inr (false, [(29, 29)])), (5, .inr (false, [(-9, -9)]))], [], kch47),
  (29, [(0, .inl 0), (1, .inl 13), (2, .inr (false, [(1, 60)])), (3, .inr (false, [(27, 27)])), (4, .inr (false, [(30, 30)])), (5, .inr (false, [(-9, -9)]))], [], kch47),
  (29, [(0, .inl 0), (1, .inl 13), (2, .inr (false, [(1, 60)])), (3, .inr (false, [(27, 27)])), (4, .inr (false, [(31, 31)])), (5, .inr (false, [(-9, -9)]))], [], kch47)] = true := by decide +kernel
def kch312 : aw_H := [(13, kcx306)]
/-- MiceRegisters.faultOfFigure -/
def kcc456 : ak_C := (18, [.inl 13, .inr (false, [(-1, 60)]), .inr (false, [(28, 28)]), .inr (false, [(0, 0)]), .inr (false, [(0, 7)])], kch22, [], [([], some (.inr (false, [(-9, -9)])), kch312), ([], some (.inr (false, [(-1, 63)])), [])])
def kch313 : aw_H := [(13, kcx308)]
/-- MiceRegisters.faultOfFigure -/
def kcc457 : ak_C := (18, [.inl 13, .inr (false, [(-1, 60)]), .inr (false, [(29, 29)]), .inr (false, [(1, 1)]), .inr (false, [(9, 9)])], kch312, [], [([], some (.inr (false, [(-9, -9)])), kch313), ([], some (.inr (false, [(-1, 63)])), [])])
/-- MiceRegisters.readMouse -/
def kcc458 : ak_C := (19, [.inl 0, .inl 13, .inr (false, [(-1, 60)]), .inr (false, [(27, 27)])], kch50, [24, 29, 30, 31], [([], some (.inr (false, [(-1, 63)])), kch37), ([], some (.inr (false, [(-9, -9)])), kch39)])
theorem kck458 : ai_chk [kcc28, kcc456, kcc457] kcc458 (fun pc => sm_ch sm_t19 pc, sm_Kn 2 6 none, fun x => sm_lk sm_ca2 x, some .int) [24, 29, 30, 31] 6 0 [] [] 2000 [] = true := by decide +kernel
/-- MiceRegisters.readLine -/
def kcc459 : ak_C := (17, [.inl 0, .inl 14, .inr (false, [(-1, 60)]), .inr (false, [(27, 27)])], kch51, [24, 25, 26], [([[], [], [], []], some (.inr (false, [(-1, 60)])), kch26), ([[], [], [(1, 60)], []], some (.inr (false, [(-9, -9)])), kch28)])
theorem kck459 : ai_chk [kcc42] kcc459 (fun pc => sm_ch sm_t17 pc, sm_Kn 2 6 none, fun x => sm_lk sm_ca2 x, some .int) [24, 25, 26] 6 4 [29] [] 2000 [(29, [(0, .inl 0), (1, .inl 14), (2, .inr (false, [(-1, 60)])), (3, .inr (false, [(27, 27)])), (4, .inr (false, [(28, 28)]))], [], kch52),
  (29, [(0, .inl 0), (1, .inl 14), (2, .inr (false, [(1, 60)])), (3, .inr (false, [(27, 27)])), (4, .inr (false, [(29, 29)])), (5, .inr (false, [(-9, -9)]))], [], kch52),
  (29, [(0, .inl 0), (1, .inl 14), (2, .inr (false, [(1, 60)])), (3, .inr (false, [(27, 27)])), (4, .inr (false, [(30, 30)])), (5, .inr (false, [(-9, -9)]))], [], kch52),
  (29, [(0, .inl 0), (1, .inl 14), (2, .inr (false, [(1, 60)])), (3, .inr (false, [(27, 27)])), (4, .inr (false, [(31, 31)])), (5, .inr (false, [(-9, -9)]))], [], kch52)] = true := by decide +kernel
def kch314 : aw_H := [(14, kcx306)]
/-- MiceRegisters.faultOfFigure -/
def kcc460 : ak_C := (18, [.inl 14, .inr (false, [(-1, 60)]), .inr (false, [(28, 28)]), .inr (false, [(0, 0)]), .inr (false, [(0, 7)])], kch21, [], [([], some (.inr (false, [(-9, -9)])), kch314), ([], some (.inr (false, [(-1, 63)])), [])])
def kch315 : aw_H := [(14, kcx308)]
/-- MiceRegisters.faultOfFigure -/
def kcc461 : ak_C := (18, [.inl 14, .inr (false, [(-1, 60)]), .inr (false, [(29, 29)]), .inr (false, [(1, 1)]), .inr (false, [(9, 9)])], kch314, [], [([], some (.inr (false, [(-9, -9)])), kch315), ([], some (.inr (false, [(-1, 63)])), [])])
/-- MiceRegisters.readMouse -/
def kcc462 : ak_C := (19, [.inl 0, .inl 14, .inr (false, [(-1, 60)]), .inr (false, [(27, 27)])], kch55, [24, 29, 30, 31], [([], some (.inr (false, [(-1, 63)])), kch37), ([], some (.inr (false, [(-9, -9)])), kch39)])
theorem kck462 : ai_chk [kcc28, kcc460, kcc461] kcc462 (fun pc => sm_ch sm_t19 pc, sm_Kn 2 6 none, fun x => sm_lk sm_ca2 x, some .int) [24, 29, 30, 31] 6 0 [] [] 2000 [] = true := by decide +kernel
/-- MiceRegisters.readLine -/
def kcc463 : ak_C := (17, [.inl 0, .inl 11, .inr (false, [(-1, 60)]), .inr (false, [(28, 28)])], kch29, [24, 25, 26], [([[], [], [], []], some (.inr (false, [(-1, 60)])), kch26), ([[], [], [(1, 60)], []], some (.inr (false, [(-9, -9)])), kch28)])
theorem kck463 : ai_chk [kcc26] kcc463 (fun pc => sm_ch sm_t17 pc, sm_Kn 2 6 none, fun x => sm_lk sm_ca2 x, some .int) [24, 25, 26] 6 4 [29] [] 2000 [(29, [(0, .inl 0), (1, .inl 11), (2, .inr (false, [(-1, 60)])), (3, .inr (false, [(28, 28)])), (4, .inr (false, [(29, 29)]))], [], kch31),
  (29, [(0, .inl 0), (1, .inl 11), (2, .inr (false, [(1, 60)])), (3, .inr (false, [(28, 28)])), (4, .inr (false, [(30, 30)])), (5, .inr (false, [(-9, -9)]))], [], kch31),
  (29, [(0, .inl 0), (1, .inl 11), (2, .inr (false, [(1, 60)])), (3, .inr (false, [(28, 28)])), (4, .inr (false, [(31, 31)])), (5, .inr (false, [(-9, -9)]))], [], kch31),
  (29, [(0, .inl 0), (1, .inl 11), (2, .inr (false, [(1, 60)])), (3, .inr (false, [(28, 28)])), (4, .inr (false, [(32, 32)])), (5, .inr (false, [(-9, -9)]))], [], kch31)] = true := by decide +kernel
def kcx316 : aw_A := .inr (.inl (1, 60, [], [(29, [(48, 55)])]))
def kch317 : aw_H := [(11, kcx316)]
/-- MiceRegisters.faultOfFigure -/
def kcc464 : ak_C := (18, [.inl 11, .inr (false, [(-1, 60)]), .inr (false, [(29, 29)]), .inr (false, [(0, 0)]), .inr (false, [(0, 7)])], kch24, [], [([], some (.inr (false, [(-9, -9)])), kch317), ([], some (.inr (false, [(-1, 63)])), [])])
def kcx318 : aw_A := .inr (.inl (1, 60, [], [(30, [(49, 57)]), (29, [(48, 55)])]))
def kch319 : aw_H := [(11, kcx318)]
/-- MiceRegisters.faultOfFigure -/
def kcc465 : ak_C := (18, [.inl 11, .inr (false, [(-1, 60)]), .inr (false, [(30, 30)]), .inr (false, [(1, 1)]), .inr (false, [(9, 9)])], kch317, [], [([], some (.inr (false, [(-9, -9)])), kch319), ([], some (.inr (false, [(-1, 63)])), [])])
/-- MiceRegisters.readMouse -/
def kcc466 : ak_C := (19, [.inl 0, .inl 11, .inr (false, [(-1, 60)]), .inr (false, [(28, 28)])], kch40, [24, 29, 30, 31], [([], some (.inr (false, [(-1, 63)])), kch37), ([], some (.inr (false, [(-9, -9)])), kch39)])
theorem kck466 : ai_chk [kcc28, kcc464, kcc465] kcc466 (fun pc => sm_ch sm_t19 pc, sm_Kn 2 6 none, fun x => sm_lk sm_ca2 x, some .int) [24, 29, 30, 31] 6 0 [] [] 2000 [] = true := by decide +kernel
/-- MiceRegisters.readLine -/
def kcc467 : ak_C := (17, [.inl 0, .inl 12, .inr (false, [(-1, 60)]), .inr (false, [(28, 28)])], kch41, [24, 25, 26], [([[], [], [], []], some (.inr (false, [(-1, 60)])), kch26), ([[], [], [(1, 60)], []], some (.inr (false, [(-9, -9)])), kch28)])
theorem kck467 : ai_chk [kcc32] kcc467 (fun pc => sm_ch sm_t17 pc, sm_Kn 2 6 none, fun x => sm_lk sm_ca2 x, some .int) [24, 25, 26] 6 4 [29] [] 2000 [(29, [(0, .inl 0), (1, .inl 12), (2, .inr (false, [(-1, 60)])), (3, .inr (false, [(28, 28)])), (4, .inr (false, [(29, 29)]))], [], kch42),
  (29, [(0, .inl 0), (1, .inl 12), (2, .inr (false, [(1, 60)])), (3, .inr (false, [(28, 28)])), (4, .inr (false, [(30, 30)])), (5, .inr (false, [(-9, -9)]))], [], kch42),
  (29, [(0, .inl 0), (1, .inl 12), (2, .inr (false, [(1, 60)])), (3, .inr (false, [(28, 28)])), (4, .inr (false, [(31, 31)])), (5, .inr (false, [(-9, -9)]))], [], kch42),
  (29, [(0, .inl 0), (1, .inl 12), (2, .inr (false, [(1, 60)])), (3, .inr (false, [(28, 28)])), (4, .inr (false, [(32, 32)])), (5, .inr (false, [(-9, -9)]))], [], kch42)] = true := by decide +kernel
def kch320 : aw_H := [(12, kcx316)]
/-- MiceRegisters.faultOfFigure -/
def kcc468 : ak_C := (18, [.inl 12, .inr (false, [(-1, 60)]), .inr (false, [(29, 29)]), .inr (false, [(0, 0)]), .inr (false, [(0, 7)])], kch23, [], [([], some (.inr (false, [(-9, -9)])), kch320), ([], some (.inr (false, [(-1, 63)])), [])])
def kch321 : aw_H := [(12, kcx318)]
/-- MiceRegisters.faultOfFigure -/
def kcc469 : ak_C := (18, [.inl 12, .inr (false, [(-1, 60)]), .inr (false, [(30, 30)]), .inr (false, [(1, 1)]), .inr (false, [(9, 9)])], kch320, [], [([], some (.inr (false, [(-9, -9)])), kch321), ([], some (.inr (false, [(-1, 63)])), [])])
/-- MiceRegisters.readMouse -/
def kcc470 : ak_C := (19, [.inl 0, .inl 12, .inr (false, [(-1, 60)]), .inr (false, [(28, 28)])], kch45, [24, 29, 30, 31], [([], some (.inr (false, [(-1, 63)])), kch37), ([], some (.inr (false, [(-9, -9)])), kch39)])
theorem kck470 : ai_chk [kcc28, kcc468, kcc469] kcc470 (fun pc => sm_ch sm_t19 pc, sm_Kn 2 6 none, fun x => sm_lk sm_ca2 x, some .int) [24, 29, 30, 31] 6 0 [] [] 2000 [] = true := by decide +kernel
/-- MiceRegisters.readLine -/
def kcc471 : ak_C := (17, [.inl 0, .inl 13, .inr (false, [(-1, 60)]), .inr (false, [(28, 28)])], kch46, [24, 25, 26], [([[], [], [], []], some (.inr (false, [(-1, 60)])), kch26), ([[], [], [(1, 60)], []], some (.inr (false, [(-9, -9)])), kch28)])
theorem kck471 : ai_chk [kcc37] kcc471 (fun pc => sm_ch sm_t17 pc, sm_Kn 2 6 none, fun x => sm_lk sm_ca2 x, some .int) [24, 25, 26] 6 4 [29] [] 2000 [(29, [(0, .inl 0), (1, .inl 13), (2, .inr (false, [(-1, 60)])), (3, .inr (false, [(28, 28)])), (4, .inr (false, [(29, 29)]))], [], kch47),
  (29, [(0, .inl 0), (1, .inl 13), (2, .inr (false, [(1, 60)])), (3, .inr (false, [(28, 28)])), (4, .inr (false, [(30, 30)])), (5, .inr (false, [(-9, -9)]))], [], kch47),
  (29, [(0, .inl 0), (1, .inl 13), (2, .inr (false, [(1, 60)])), (3, .inr (false, [(28, 28)])), (4, .inr (false, [(31, 31)])), (5, .inr (false, [(-9, -9)]))], [], kch47),
  (29, [(0, .inl 0), (1, .inl 13), (2, .inr (false, [(1, 60)])), (3, .inr (false, [(28, 28)])), (4, .inr (false, [(32, 32)])), (5, .inr (false, [(-9, -9)]))], [], kch47)] = true := by decide +kernel
def kch322 : aw_H := [(13, kcx316)]
/-- MiceRegisters.faultOfFigure -/
def kcc472 : ak_C := (18, [.inl 13, .inr (false, [(-1, 60)]), .inr (false, [(29, 29)]), .inr (false, [(0, 0)]), .inr (false, [(0, 7)])], kch22, [], [([], some (.inr (false, [(-9, -9)])), kch322), ([], some (.inr (false, [(-1, 63)])), [])])
def kch323 : aw_H := [(13, kcx318)]
/-- MiceRegisters.faultOfFigure -/
def kcc473 : ak_C := (18, [.inl 13, .inr (false, [(-1, 60)]), .inr (false, [(30, 30)]), .inr (false, [(1, 1)]), .inr (false, [(9, 9)])], kch322, [], [([], some (.inr (false, [(-9, -9)])), kch323), ([], some (.inr (false, [(-1, 63)])), [])])
/-- MiceRegisters.readMouse -/
def kcc474 : ak_C := (19, [.inl 0, .inl 13, .inr (false, [(-1, 60)]), .inr (false, [(28, 28)])], kch50, [24, 29, 30, 31], [([], some (.inr (false, [(-1, 63)])), kch37), ([], some (.inr (false, [(-9, -9)])), kch39)])
theorem kck474 : ai_chk [kcc28, kcc472, kcc473] kcc474 (fun pc => sm_ch sm_t19 pc, sm_Kn 2 6 none, fun x => sm_lk sm_ca2 x, some .int) [24, 29, 30, 31] 6 0 [] [] 2000 [] = true := by decide +kernel
/-- MiceRegisters.readLine -/
def kcc475 : ak_C := (17, [.inl 0, .inl 14, .inr (false, [(-1, 60)]), .inr (false, [(28, 28)])], kch51, [24, 25, 26], [([[], [], [], []], some (.inr (false, [(-1, 60)])), kch26), ([[], [], [(1, 60)], []], some (.inr (false, [(-9, -9)])), kch28)])
theorem kck475 : ai_chk [kcc42] kcc475 (fun pc => sm_ch sm_t17 pc, sm_Kn 2 6 none, fun x => sm_lk sm_ca2 x, some .int) [24, 25, 26] 6 4 [29] [] 2000 [(29, [(0, .inl 0), (1, .inl 14), (2, .inr (false, [(-1, 60)])), (3, .inr (false, [(28, 28)])), (4, .inr (false, [(29, 29)]))], [], kch52),
  (29, [(0, .inl 0), (1, .inl 14), (2, .inr (false, [(1, 60)])), (3, .inr (false, [(28, 28)])), (4, .inr (false, [(30, 30)])), (5, .inr (false, [(-9, -9)]))], [], kch52),
  (29, [(0, .inl 0), (1, .inl 14), (2, .inr (false, [(1, 60)])), (3, .inr (false, [(28, 28)])), (4, .inr (false, [(31, 31)])), (5, .inr (false, [(-9, -9)]))], [], kch52),
  (29, [(0, .inl 0), (1, .inl 14), (2, .inr (false, [(1, 60)])), (3, .inr (false, [(28, 28)])), (4, .inr (false, [(32, 32)])), (5, .inr (false, [(-9, -9)]))], [], kch52)] = true := by decide +kernel
def kch324 : aw_H := [(14, kcx316)]
/-- MiceRegisters.faultOfFigure -/
def kcc476 : ak_C := (18, [.inl 14, .inr (false, [(-1, 60)]), .inr (false, [(29, 29)]), .inr (false, [(0, 0)]), .inr (false, [(0, 7)])], kch21, [], [([], some (.inr (false, [(-9, -9)])), kch324), ([], some (.inr (false, [(-1, 63)])), [])])
def kch325 : aw_H := [(14, kcx318)]
/-- MiceRegisters.faultOfFigure -/
def kcc477 : ak_C := (18, [.inl 14, .inr (false, [(-1, 60)]), .inr (false, [(30, 30)]), .inr (false, [(1, 1)]), .inr (false, [(9, 9)])], kch324, [], [([], some (.inr (false, [(-9, -9)])), kch325), ([], some (.inr (false, [(-1, 63)])), [])])
/-- MiceRegisters.readMouse -/
def kcc478 : ak_C := (19, [.inl 0, .inl 14, .inr (false, [(-1, 60)]), .inr (false, [(28, 28)])], kch55, [24, 29, 30, 31], [([], some (.inr (false, [(-1, 63)])), kch37), ([], some (.inr (false, [(-9, -9)])), kch39)])
theorem kck478 : ai_chk [kcc28, kcc476, kcc477] kcc478 (fun pc => sm_ch sm_t19 pc, sm_Kn 2 6 none, fun x => sm_lk sm_ca2 x, some .int) [24, 29, 30, 31] 6 0 [] [] 2000 [] = true := by decide +kernel
/-- MiceRegisters.readLine -/
def kcc479 : ak_C := (17, [.inl 0, .inl 11, .inr (false, [(-1, 60)]), .inr (false, [(29, 29)])], kch29, [24, 25, 26], [([[], [], [], []], some (.inr (false, [(-1, 60)])), kch26), ([[], [], [(1, 60)], []], some (.inr (false, [(-9, -9)])), kch28)])
theorem kck479 : ai_chk [kcc26] kcc479 (fun pc => sm_ch sm_t17 pc, sm_Kn 2 6 none, fun x => sm_lk sm_ca2 x, some .int) [24, 25, 26] 6 4 [29] [] 2000 [(29, [(0, .inl 0), (1, .inl 11), (2, .inr (false, [(-1, 60)])), (3, .inr (false, [(29, 29)])), (4, .inr (false, [(30, 30)]))], [], kch31),
  (29, [(0, .inl 0), (1, .inl 11), (2, .inr (false, [(1, 60)])), (3, .inr (false, [(29, 29)])), (4, .inr (false, [(31, 31)])), (5, .inr (false, [(-9, -9)]))], [], kch31),
  (29, [(0, .inl 0), (1, .inl 11), (2, .inr (false, [(1, 60)])), (3, .inr (false, [(29, 29)])), (4, .inr (false, [(32, 32)])), (5, .inr (false, [(-9, -9)]))], [], kch31),
  (29, [(0, .inl 0), (1, .inl 11), (2, .inr (false, [(1, 60)])), (3, .inr (false, [(29, 29)])), (4, .inr (false, [(33, 33)])), (5, .inr (false, [(-9, -9)]))], [], kch31)] = true := by decide +kernel
def kcx326 : aw_A := .inr (.inl (1, 60, [], [(30, [(48, 55)])]))
def kch327 : aw_H := [(11, kcx326)]
/-- MiceRegisters.faultOfFigure -/
def kcc480 : ak_C := (18, [.inl 11, .inr (false, [(-1, 60)]), .inr (false, [(30, 30)]), .inr (false, [(0, 0)]), .inr (false, [(0, 7)])], kch24, [], [([], some (.inr (false, [(-9, -9)])), kch327), ([], some (.inr (false, [(-1, 63)])), [])])
def kcx328 : aw_A := .inr (.inl (1, 60, [], [(31, [(49, 57)]), (30, [(48, 55)])]))
def kch329 : aw_H := [(11, kcx328)]
/-- MiceRegisters.faultOfFigure -/
def kcc481 : ak_C := (18, [.inl 11, .inr (false, [(-1, 60)]), .inr (false, [(31, 31)]), .inr (false, [(1, 1)]), .inr (false, [(9, 9)])], kch327, [], [([], some (.inr (false, [(-9, -9)])), kch329), ([], some (.inr (false, [(-1, 63)])), [])])
/-- MiceRegisters.readMouse -/
def kcc482 : ak_C := (19, [.inl 0, .inl 11, .inr (false, [(-1, 60)]), .inr (false, [(29, 29)])], kch40, [24, 29, 30, 31], [([], some (.inr (false, [(-1, 63)])), kch37), ([], some (.inr (false, [(-9, -9)])), kch39)])
theorem kck482 : ai_chk [kcc28, kcc480, kcc481] kcc482 (fun pc => sm_ch sm_t19 pc, sm_Kn 2 6 none, fun x => sm_lk sm_ca2 x, some .int) [24, 29, 30, 31] 6 0 [] [] 2000 [] = true := by decide +kernel
/-- MiceRegisters.readLine -/
def kcc483 : ak_C := (17, [.inl 0, .inl 12, .inr (false, [(-1, 60)]), .inr (false, [(29, 29)])], kch41, [24, 25, 26], [([[], [], [], []], some (.inr (false, [(-1, 60)])), kch26), ([[], [], [(1, 60)], []], some (.inr (false, [(-9, -9)])), kch28)])
theorem kck483 : ai_chk [kcc32] kcc483 (fun pc => sm_ch sm_t17 pc, sm_Kn 2 6 none, fun x => sm_lk sm_ca2 x, some .int) [24, 25, 26] 6 4 [29] [] 2000 [(29, [(0, .inl 0), (1, .inl 12), (2, .inr (false, [(-1, 60)])), (3, .inr (false, [(29, 29)])), (4, .inr (false, [(30, 30)]))], [], kch42),
  (29, [(0, .inl 0), (1, .inl 12), (2, .inr (false, [(1, 60)])), (3, .inr (false, [(29, 29)])), (4, .inr (false, [(31, 31)])), (5, .inr (false, [(-9, -9)]))], [], kch42),
  (29, [(0, .inl 0), (1, .inl 12), (2, .inr (false, [(1, 60)])), (3, .inr (false, [(29, 29)])), (4, .inr (false, [(32, 32)])), (5, .inr (false, [(-9, -9)]))], [], kch42),
  (29, [(0, .inl 0), (1, .inl 12), (2, .inr (false, [(1, 60)])), (3, .inr (false, [(29, 29)])), (4, .inr (false, [(33, 33)])), (5, .inr (false, [(-9, -9)]))], [], kch42)] = true := by decide +kernel
def kch330 : aw_H := [(12, kcx326)]
/-- MiceRegisters.faultOfFigure -/
def kcc484 : ak_C := (18, [.inl 12, .inr (false, [(-1, 60)]), .inr (false, [(30, 30)]), .inr (false, [(0, 0)]), .inr (false, [(0, 7)])], kch23, [], [([], some (.inr (false, [(-9, -9)])), kch330), ([], some (.inr (false, [(-1, 63)])), [])])
def kch331 : aw_H := [(12, kcx328)]
/-- MiceRegisters.faultOfFigure -/
def kcc485 : ak_C := (18, [.inl 12, .inr (false, [(-1, 60)]), .inr (false, [(31, 31)]), .inr (false, [(1, 1)]), .inr (false, [(9, 9)])], kch330, [], [([], some (.inr (false, [(-9, -9)])), kch331), ([], some (.inr (false, [(-1, 63)])), [])])
/-- MiceRegisters.readMouse -/
def kcc486 : ak_C := (19, [.inl 0, .inl 12, .inr (false, [(-1, 60)]), .inr (false, [(29, 29)])], kch45, [24, 29, 30, 31], [([], some (.inr (false, [(-1, 63)])), kch37), ([], some (.inr (false, [(-9, -9)])), kch39)])
theorem kck486 : ai_chk [kcc28, kcc484, kcc485] kcc486 (fun pc => sm_ch sm_t19 pc, sm_Kn 2 6 none, fun x => sm_lk sm_ca2 x, some .int) [24, 29, 30, 31] 6 0 [] [] 2000 [] = true := by decide +kernel
/-- MiceRegisters.readLine -/
def kcc487 : ak_C := (17, [.inl 0, .inl 13, .inr (false, [(-1, 60)]), .inr (false, [(29, 29)])], kch46, [24, 25, 26], [([[], [], [], []], some (.inr (false, [(-1, 60)])), kch26), ([[], [], [(1, 60)], []], some (.inr (false, [(-9, -9)])), kch28)])
theorem kck487 : ai_chk [kcc37] kcc487 (fun pc => sm_ch sm_t17 pc, sm_Kn 2 6 none, fun x => sm_lk sm_ca2 x, some .int) [24, 25, 26] 6 4 [29] [] 2000 [(29, [(0, .inl 0), (1, .inl 13), (2, .inr (false, [(-1, 60)])), (3, .inr (false, [(29, 29)])), (4, .inr (false, [(30, 30)]))], [], kch47),
  (29, [(0, .inl 0), (1, .inl 13), (2, .inr (false, [(1, 60)])), (3, .inr (false, [(29, 29)])), (4, .inr (false, [(31, 31)])), (5, .inr (false, [(-9, -9)]))], [], kch47),
  (29, [(0, .inl 0), (1, .inl 13), (2, .inr (false, [(1, 60)])), (3, .inr (false, [(29, 29)])), (4, .inr (false, [(32, 32)])), (5, .inr (false, [(-9, -9)]))], [], kch47),
  (29, [(0, .inl 0), (1, .inl 13), (2, .inr (false, [(1, 60)])), (3, .inr (false, [(29, 29)])), (4, .inr (false, [(33, 33)])), (5, .inr (false, [(-9, -9)]))], [], kch47)] = true := by decide +kernel
def kch332 : aw_H := [(13, kcx326)]
/-- MiceRegisters.faultOfFigure -/
def kcc488 : ak_C := (18, [.inl 13, .inr (false, [(-1, 60)]), .inr (false, [(30, 30)]), .inr (false, [(0, 0)]), .inr (false, [(0, 7)])], kch22, [], [([], some (.inr (false, [(-9, -9)])), kch332), ([], some (.inr (false, [(-1, 63)])), [])])
def kch333 : aw_H := [(13, kcx328)]
/-- MiceRegisters.faultOfFigure -/
def kcc489 : ak_C := (18, [.inl 13, .inr (false, [(-1, 60)]), .inr (false, [(31, 31)]), .inr (false, [(1, 1)]), .inr (false, [(9, 9)])], kch332, [], [([], some (.inr (false, [(-9, -9)])), kch333), ([], some (.inr (false, [(-1, 63)])), [])])
/-- MiceRegisters.readMouse -/
def kcc490 : ak_C := (19, [.inl 0, .inl 13, .inr (false, [(-1, 60)]), .inr (false, [(29, 29)])], kch50, [24, 29, 30, 31], [([], some (.inr (false, [(-1, 63)])), kch37), ([], some (.inr (false, [(-9, -9)])), kch39)])
theorem kck490 : ai_chk [kcc28, kcc488, kcc489] kcc490 (fun pc => sm_ch sm_t19 pc, sm_Kn 2 6 none, fun x => sm_lk sm_ca2 x, some .int) [24, 29, 30, 31] 6 0 [] [] 2000 [] = true := by decide +kernel
/-- MiceRegisters.readLine -/
def kcc491 : ak_C := (17, [.inl 0, .inl 14, .inr (false, [(-1, 60)]), .inr (false, [(29, 29)])], kch51, [24, 25, 26], [([[], [], [], []], some (.inr (false, [(-1, 60)])), kch26), ([[], [], [(1, 60)], []], some (.inr (false, [(-9, -9)])), kch28)])
theorem kck491 : ai_chk [kcc42] kcc491 (fun pc => sm_ch sm_t17 pc, sm_Kn 2 6 none, fun x => sm_lk sm_ca2 x, some .int) [24, 25, 26] 6 4 [29] [] 2000 [(29, [(0, .inl 0), (1, .inl 14), (2, .inr (false, [(-1, 60)])), (3, .inr (false, [(29, 29)])), (4, .inr (false, [(30, 30)]))], [], kch52),
  (29, [(0, .inl 0), (1, .inl 14), (2, .inr (false, [(1, 60)])), (3, .inr (false, [(29, 29)])), (4, .inr (false, [(31, 31)])), (5, .inr (false, [(-9, -9)]))], [], kch52),
  (29, [(0, .inl 0), (1, .inl 14), (2, .inr (false, [(1, 60)])), (3, .inr (false, [(29, 29)])), (4, .inr (false, [(32, 32)])), (5, .inr (false, [(-9, -9)]))], [], kch52),
  (29, [(0, .inl 0), (1, .inl 14), (2, .inr (false, [(1, 60)])), (3, .inr (false, [(29, 29)])), (4, .inr (false, [(33, 33)])), (5, .inr (false, [(-9, -9)]))], [], kch52)] = true := by decide +kernel
def kch334 : aw_H := [(14, kcx326)]
/-- MiceRegisters.faultOfFigure -/
def kcc492 : ak_C := (18, [.inl 14, .inr (false, [(-1, 60)]), .inr (false, [(30, 30)]), .inr (false, [(0, 0)]), .inr (false, [(0, 7)])], kch21, [], [([], some (.inr (false, [(-9, -9)])), kch334), ([], some (.inr (false, [(-1, 63)])), [])])
def kch335 : aw_H := [(14, kcx328)]
/-- MiceRegisters.faultOfFigure -/
def kcc493 : ak_C := (18, [.inl 14, .inr (false, [(-1, 60)]), .inr (false, [(31, 31)]), .inr (false, [(1, 1)]), .inr (false, [(9, 9)])], kch334, [], [([], some (.inr (false, [(-9, -9)])), kch335), ([], some (.inr (false, [(-1, 63)])), [])])
/-- MiceRegisters.readMouse -/
def kcc494 : ak_C := (19, [.inl 0, .inl 14, .inr (false, [(-1, 60)]), .inr (false, [(29, 29)])], kch55, [24, 29, 30, 31], [([], some (.inr (false, [(-1, 63)])), kch37), ([], some (.inr (false, [(-9, -9)])), kch39)])
theorem kck494 : ai_chk [kcc28, kcc492, kcc493] kcc494 (fun pc => sm_ch sm_t19 pc, sm_Kn 2 6 none, fun x => sm_lk sm_ca2 x, some .int) [24, 29, 30, 31] 6 0 [] [] 2000 [] = true := by decide +kernel
/-- MiceRegisters.readLine -/
def kcc495 : ak_C := (17, [.inl 0, .inl 11, .inr (false, [(-1, 60)]), .inr (false, [(30, 30)])], kch29, [24, 25, 26], [([[], [], [], []], some (.inr (false, [(-1, 60)])), kch26), ([[], [], [(1, 60)], []], some (.inr (false, [(-9, -9)])), kch28)])
theorem kck495 : ai_chk [kcc26] kcc495 (fun pc => sm_ch sm_t17 pc, sm_Kn 2 6 none, fun x => sm_lk sm_ca2 x, some .int) [24, 25, 26] 6 4 [29] [] 2000 [(29, [(0, .inl 0), (1, .inl 11), (2, .inr (false, [(-1, 60)])), (3, .inr (false, [(30, 30)])), (4, .inr (false, [(31, 31)]))], [], kch31),
  (29, [(0, .inl 0), (1, .inl 11), (2, .inr (false, [(1, 60)])), (3, .inr (false, [(30, 30)])), (4, .inr (false, [(32, 32)])), (5, .inr (false, [(-9, -9)]))], [], kch31),
  (29, [(0, .inl 0), (1, .inl 11), (2, .inr (false, [(1, 60)])), (3, .inr (false, [(30, 30)])), (4, .inr (false, [(33, 33)])), (5, .inr (false, [(-9, -9)]))], [], kch31),
  (29, [(0, .inl 0), (1, .inl 11), (2, .inr (false, [(1, 60)])), (3, .inr (false, [(30, 30)])), (4, .inr (false, [(34, 34)])), (5, .inr (false, [(-9, -9)]))], [], kch31)] = true := by decide +kernel
def kcx336 : aw_A := .inr (.inl (1, 60, [], [(31, [(48, 55)])]))
def kch337 : aw_H := [(11, kcx336)]
/-- MiceRegisters.faultOfFigure -/
def kcc496 : ak_C := (18, [.inl 11, .inr (false, [(-1, 60)]), .inr (false, [(31, 31)]), .inr (false, [(0, 0)]), .inr (false, [(0, 7)])], kch24, [], [([], some (.inr (false, [(-9, -9)])), kch337), ([], some (.inr (false, [(-1, 63)])), [])])
def kcx338 : aw_A := .inr (.inl (1, 60, [], [(32, [(49, 57)]), (31, [(48, 55)])]))
def kch339 : aw_H := [(11, kcx338)]
/-- MiceRegisters.faultOfFigure -/
def kcc497 : ak_C := (18, [.inl 11, .inr (false, [(-1, 60)]), .inr (false, [(32, 32)]), .inr (false, [(1, 1)]), .inr (false, [(9, 9)])], kch337, [], [([], some (.inr (false, [(-9, -9)])), kch339), ([], some (.inr (false, [(-1, 63)])), [])])
/-- MiceRegisters.readMouse -/
def kcc498 : ak_C := (19, [.inl 0, .inl 11, .inr (false, [(-1, 60)]), .inr (false, [(30, 30)])], kch40, [24, 29, 30, 31], [([], some (.inr (false, [(-1, 63)])), kch37), ([], some (.inr (false, [(-9, -9)])), kch39)])
theorem kck498 : ai_chk [kcc28, kcc496, kcc497] kcc498 (fun pc => sm_ch sm_t19 pc, sm_Kn 2 6 none, fun x => sm_lk sm_ca2 x, some .int) [24, 29, 30, 31] 6 0 [] [] 2000 [] = true := by decide +kernel
/-- MiceRegisters.readLine -/
def kcc499 : ak_C := (17, [.inl 0, .inl 12, .inr (false, [(-1, 60)]), .inr (false, [(30, 30)])], kch41, [24, 25, 26], [([[], [], [], []], some (.inr (false, [(-1, 60)])), kch26), ([[], [], [(1, 60)], []], some (.inr (false, [(-9, -9)])), kch28)])
theorem kck499 : ai_chk [kcc32] kcc499 (fun pc => sm_ch sm_t17 pc, sm_Kn 2 6 none, fun x => sm_lk sm_ca2 x, some .int) [24, 25, 26] 6 4 [29] [] 2000 [(29, [(0, .inl 0), (1, .inl 12), (2, .inr (false, [(-1, 60)])), (3, .inr (false, [(30, 30)])), (4, .inr (false, [(31, 31)]))], [], kch42),
  (29, [(0, .inl 0), (1, .inl 12), (2, .inr (false, [(1, 60)])), (3, .inr (false, [(30, 30)])), (4, .inr (false, [(32, 32)])), (5, .inr (false, [(-9, -9)]))], [], kch42),
  (29, [(0, .inl 0), (1, .inl 12), (2, .inr (false, [(1, 60)])), (3, .inr (false, [(30, 30)])), (4, .inr (false, [(33, 33)])), (5, .inr (false, [(-9, -9)]))], [], kch42),
  (29, [(0, .inl 0), (1, .inl 12), (2, .inr (false, [(1, 60)])), (3, .inr (false, [(30, 30)])), (4, .inr (false, [(34, 34)])), (5, .inr (false, [(-9, -9)]))], [], kch42)] = true := by decide +kernel
def kch340 : aw_H := [(12, kcx336)]
/-- MiceRegisters.faultOfFigure -/
def kcc500 : ak_C := (18, [.inl 12, .inr (false, [(-1, 60)]), .inr (false, [(31, 31)]), .inr (false, [(0, 0)]), .inr (false, [(0, 7)])], kch23, [], [([], some (.inr (false, [(-9, -9)])), kch340), ([], some (.inr (false, [(-1, 63)])), [])])
def kch341 : aw_H := [(12, kcx338)]
/-- MiceRegisters.faultOfFigure -/
def kcc501 : ak_C := (18, [.inl 12, .inr (false, [(-1, 60)]), .inr (false, [(32, 32)]), .inr (false, [(1, 1)]), .inr (false, [(9, 9)])], kch340, [], [([], some (.inr (false, [(-9, -9)])), kch341), ([], some (.inr (false, [(-1, 63)])), [])])
/-- MiceRegisters.readMouse -/
def kcc502 : ak_C := (19, [.inl 0, .inl 12, .inr (false, [(-1, 60)]), .inr (false, [(30, 30)])], kch45, [24, 29, 30, 31], [([], some (.inr (false, [(-1, 63)])), kch37), ([], some (.inr (false, [(-9, -9)])), kch39)])
theorem kck502 : ai_chk [kcc28, kcc500, kcc501] kcc502 (fun pc => sm_ch sm_t19 pc, sm_Kn 2 6 none, fun x => sm_lk sm_ca2 x, some .int) [24, 29, 30, 31] 6 0 [] [] 2000 [] = true := by decide +kernel
/-- MiceRegisters.readLine -/
def kcc503 : ak_C := (17, [.inl 0, .inl 13, .inr (false, [(-1, 60)]), .inr (false, [(30, 30)])], kch46, [24, 25, 26], [([[], [], [], []], some (.inr (false, [(-1, 60)])), kch26), ([[], [], [(1, 60)], []], some (.inr (false, [(-9, -9)])), kch28)])
theorem kck503 : ai_chk [kcc37] kcc503 (fun pc => sm_ch sm_t17 pc, sm_Kn 2 6 none, fun x => sm_lk sm_ca2 x, some .int) [24, 25, 26] 6 4 [29] [] 2000 [(29, [(0, .inl 0), (1, .inl 13), (2, .inr (false, [(-1, 60)])), (3, .inr (false, [(30, 30)])), (4, .inr (false, [(31, 31)]))], [], kch47),
  (29, [(0, .inl 0), (1, .inl 13), (2, .inr (false, [(1, 60)])), (3, .inr (false, [(30, 30)])), (4, .inr (false, [(32, 32)])), (5, .inr (false, [(-9, -9)]))], [], kch47),
  (29, [(0, .inl 0), (1, .inl 13), (2, .inr (false, [(1, 60)])), (3, .inr (false, [(30, 30)])), (4, .inr (false, [(33, 33)])), (5, .inr (false, [(-9, -9)]))], [], kch47),
  (29, [(0, .inl 0), (1, .inl 13), (2, .inr (false, [(1, 60)])), (3, .inr (false, [(30, 30)])), (4, .inr (false, [(34, 34)])), (5, .inr (false, [(-9, -9)]))], [], kch47)] = true := by decide +kernel
def kch342 : aw_H := [(13, kcx336)]
/-- MiceRegisters.faultOfFigure -/
def kcc504 : ak_C := (18, [.inl 13, .inr (false, [(-1, 60)]), .inr (false, [(31, 31)]), .inr (false, [(0, 0)]), .inr (false, [(0, 7)])], kch22, [], [([], some (.inr (false, [(-9, -9)])), kch342), ([], some (.inr (false, [(-1, 63)])), [])])
def kch343 : aw_H := [(13, kcx338)]
/-- MiceRegisters.faultOfFigure -/
def kcc505 : ak_C := (18, [.inl 13, .inr (false, [(-1, 60)]), .inr (false, [(32, 32)]), .inr (false, [(1, 1)]), .inr (false, [(9, 9)])], kch342, [], [([], some (.inr (false, [(-9, -9)])), kch343), ([], some (.inr (false, [(-1, 63)])), [])])
/-- MiceRegisters.readMouse -/
def kcc506 : ak_C := (19, [.inl 0, .inl 13, .inr (false, [(-1, 60)]), .inr (false, [(30, 30)])], kch50, [24, 29, 30, 31], [([], some (.inr (false, [(-1, 63)])), kch37), ([], some (.inr (false, [(-9, -9)])), kch39)])
theorem kck506 : ai_chk [kcc28, kcc504, kcc505] kcc506 (fun pc => sm_ch sm_t19 pc, sm_Kn 2 6 none, fun x => sm_lk sm_ca2 x, some .int) [24, 29, 30, 31] 6 0 [] [] 2000 [] = true := by decide +kernel
/-- MiceRegisters.readLine -/
def kcc507 : ak_C := (17, [.inl 0, .inl 14, .inr (false, [(-1, 60)]), .inr (false, [(30, 30)])], kch51, [24, 25, 26], [([[], [], [], []], some (.inr (false, [(-1, 60)])), kch26), ([[], [], [(1, 60)], []], some (.inr (false, [(-9, -9)])), kch28)])
theorem kck507 : ai_chk [kcc42] kcc507 (fun pc => sm_ch sm_t17 pc, sm_Kn 2 6 none, fun x => sm_lk sm_ca2 x, some .int) [24, 25, 26] 6 4 [29] [] 2000 [(29, [(0, .inl 0), (1, .inl 14), (2, .inr (false, [(-1, 60)])), (3, .inr (false, [(30, 30)])), (4, .inr (false, [(31, 31)]))], [], kch52),
  (29, [(0, .inl 0), (1, .inl 14), (2, .inr (false, [(1, 60)])), (3, .inr (false, [(30, 30)])), (4, .inr (false, [(32, 32)])), (5, .inr (false, [(-9, -9)]))], [], kch52),
  (29, [(0, .inl 0), (1, .inl 14), (2, .inr (false, [(1, 60)])), (3, .inr (false, [(30, 30)])), (4, .inr (false, [(33, 33)])), (5, .inr (false, [(-9, -9)]))], [], kch52),
  (29, [(0, .inl 0), (1, .inl 14), (2, .inr (false, [(1, 60)])), (3, .inr (false, [(30, 30)])), (4, .inr (false, [(34, 34)])), (5, .inr (false, [(-9, -9)]))], [], kch52)] = true := by decide +kernel
def kch344 : aw_H := [(14, kcx336)]
/-- MiceRegisters.faultOfFigure -/
def kcc508 : ak_C := (18, [.inl 14, .inr (false, [(-1, 60)]), .inr (false, [(31, 31)]), .inr (false, [(0, 0)]), .inr (false, [(0, 7)])], kch21, [], [([], some (.inr (false, [(-9, -9)])), kch344), ([], some (.inr (false, [(-1, 63)])), [])])
def kch345 : aw_H := [(14, kcx338)]
/-- MiceRegisters.faultOfFigure -/
def kcc509 : ak_C := (18, [.inl 14, .inr (false, [(-1, 60)]), .inr (false, [(32, 32)]), .inr (false, [(1, 1)]), .inr (false, [(9, 9)])], kch344, [], [([], some (.inr (false, [(-9, -9)])), kch345), ([], some (.inr (false, [(-1, 63)])), [])])
/-- MiceRegisters.readMouse -/
def kcc510 : ak_C := (19, [.inl 0, .inl 14, .inr (false, [(-1, 60)]), .inr (false, [(30, 30)])], kch55, [24, 29, 30, 31], [([], some (.inr (false, [(-1, 63)])), kch37), ([], some (.inr (false, [(-9, -9)])), kch39)])
theorem kck510 : ai_chk [kcc28, kcc508, kcc509] kcc510 (fun pc => sm_ch sm_t19 pc, sm_Kn 2 6 none, fun x => sm_lk sm_ca2 x, some .int) [24, 29, 30, 31] 6 0 [] [] 2000 [] = true := by decide +kernel
/-- MiceRegisters.readLine -/
def kcc511 : ak_C := (17, [.inl 0, .inl 11, .inr (false, [(-1, 60)]), .inr (false, [(31, 31)])], kch29, [24, 25, 26], [([[], [], [], []], some (.inr (false, [(-1, 60)])), kch26), ([[], [], [(1, 60)], []], some (.inr (false, [(-9, -9)])), kch28)])
theorem kck511 : ai_chk [kcc26] kcc511 (fun pc => sm_ch sm_t17 pc, sm_Kn 2 6 none, fun x => sm_lk sm_ca2 x, some .int) [24, 25, 26] 6 4 [29] [] 2000 [(29, [(0, .inl 0), (1, .inl 11), (2, .inr (false, [(-1, 60)])), (3, .inr (false, [(31, 31)])), (4, .inr (false, [(32, 32)]))], [], kch31),
  (29, [(0, .inl 0), (1, .inl 11), (2, .inr (false, [(1, 60)])), (3, .inr (false, [(31, 31)])), (4, .inr (false, [(33, 33)])), (5, .inr (false, [(-9, -9)]))], [], kch31),
  (29, [(0, .inl 0), (1, .inl 11), (2, .inr (false, [(1, 60)])), (3, .inr (false, [(31, 31)])), (4, .inr (false, [(34, 34)])), (5, .inr (false, [(-9, -9)]))], [], kch31),
  (29, [(0, .inl 0), (1, .inl 11), (2, .inr (false, [(1, 60)])), (3, .inr (false, [(31, 31)])), (4, .inr (false, [(35, 35)])), (5, .inr (false, [(-9, -9)]))], [], kch31)] = true := by decide +kernel
def kcx346 : aw_A := .inr (.inl (1, 60, [], [(32, [(48, 55)])]))
def kch347 : aw_H := [(11, kcx346)]
/-- MiceRegisters.faultOfFigure -/
def kcc512 : ak_C := (18, [.inl 11, .inr (false, [(-1, 60)]), .inr (false, [(32, 32)]), .inr (false, [(0, 0)]), .inr (false, [(0, 7)])], kch24, [], [([], some (.inr (false, [(-9, -9)])), kch347), ([], some (.inr (false, [(-1, 63)])), [])])
def kcx348 : aw_A := .inr (.inl (1, 60, [], [(33, [(49, 57)]), (32, [(48, 55)])]))
def kch349 : aw_H := [(11, kcx348)]
/-- MiceRegisters.faultOfFigure -/
def kcc513 : ak_C := (18, [.inl 11, .inr (false, [(-1, 60)]), .inr (false, [(33, 33)]), .inr (false, [(1, 1)]), .inr (false, [(9, 9)])], kch347, [], [([], some (.inr (false, [(-9, -9)])), kch349), ([], some (.inr (false, [(-1, 63)])), [])])
/-- MiceRegisters.readMouse -/
def kcc514 : ak_C := (19, [.inl 0, .inl 11, .inr (false, [(-1, 60)]), .inr (false, [(31, 31)])], kch40, [24, 29, 30, 31], [([], some (.inr (false, [(-1, 63)])), kch37), ([], some (.inr (false, [(-9, -9)])), kch39)])
theorem kck514 : ai_chk [kcc28, kcc512, kcc513] kcc514 (fun pc => sm_ch sm_t19 pc, sm_Kn 2 6 none, fun x => sm_lk sm_ca2 x, some .int) [24, 29, 30, 31] 6 0 [] [] 2000 [] = true := by decide +kernel
/-- MiceRegisters.readLine -/
def kcc515 : ak_C := (17, [.inl 0, .inl 12, .inr (false, [(-1, 60)]), .inr (false, [(31, 31)])], kch41, [24, 25, 26], [([[], [], [], []], some (.inr (false, [(-1, 60)])), kch26), ([[], [], [(1, 60)], []], some (.inr (false, [(-9, -9)])), kch28)])
theorem kck515 : ai_chk [kcc32] kcc515 (fun pc => sm_ch sm_t17 pc, sm_Kn 2 6 none, fun x => sm_lk sm_ca2 x, some .int) [24, 25, 26] 6 4 [29] [] 2000 [(29, [(0, .inl 0), (1, .inl 12), (2, .inr (false, [(-1, 60)])), (3, .inr (false, [(31, 31)])), (4, .inr (false, [(32, 32)]))], [], kch42),
  (29, [(0, .inl 0), (1, .inl 12), (2, .inr (false, [(1, 60)])), (3, .inr (false, [(31, 31)])), (4, .inr (false, [(33, 33)])), (5, .inr (false, [(-9, -9)]))], [], kch42),
  (29, [(0, .inl 0), (1, .inl 12), (2, .inr (false, [(1, 60)])), (3, .inr (false, [(31, 31)])), (4, .inr (false, [(34, 34)])), (5, .inr (false, [(-9, -9)]))], [], kch42),
  (29, [(0, .inl 0), (1, .inl 12), (2, .inr (false, [(1, 60)])), (3, .inr (false, [(31, 31)])), (4, .inr (false, [(35, 35)])), (5, .inr (false, [(-9, -9)]))], [], kch42)] = true := by decide +kernel
def kch350 : aw_H := [(12, kcx346)]
/-- MiceRegisters.faultOfFigure -/
def kcc516 : ak_C := (18, [.inl 12, .inr (false, [(-1, 60)]), .inr (false, [(32, 32)]), .inr (false, [(0, 0)]), .inr (false, [(0, 7)])], kch23, [], [([], some (.inr (false, [(-9, -9)])), kch350), ([], some (.inr (false, [(-1, 63)])), [])])
def kch351 : aw_H := [(12, kcx348)]
/-- MiceRegisters.faultOfFigure -/
def kcc517 : ak_C := (18, [.inl 12, .inr (false, [(-1, 60)]), .inr (false, [(33, 33)]), .inr (false, [(1, 1)]), .inr (false, [(9, 9)])], kch350, [], [([], some (.inr (false, [(-9, -9)])), kch351), ([], some (.inr (false, [(-1, 63)])), [])])
/-- MiceRegisters.readMouse -/
def kcc518 : ak_C := (19, [.inl 0, .inl 12, .inr (false, [(-1, 60)]), .inr (false, [(31, 31)])], kch45, [24, 29, 30, 31], [([], some (.inr (false, [(-1, 63)])), kch37), ([], some (.inr (false, [(-9, -9)])), kch39)])
theorem kck518 : ai_chk [kcc28, kcc516, kcc517] kcc518 (fun pc => sm_ch sm_t19 pc, sm_Kn 2 6 none, fun x => sm_lk sm_ca2 x, some .int) [24, 29, 30, 31] 6 0 [] [] 2000 [] = true := by decide +kernel
/-- MiceRegisters.readLine -/
def kcc519 : ak_C := (17, [.inl 0, .inl 13, .inr (false, [(-1, 60)]), .inr (false, [(31, 31)])], kch46, [24, 25, 26], [([[], [], [], []], some (.inr (false, [(-1, 60)])), kch26), ([[], [], [(1, 60)], []], some (.inr (false, [(-9, -9)])), kch28)])
theorem kck519 : ai_chk [kcc37] kcc519 (fun pc => sm_ch sm_t17 pc, sm_Kn 2 6 none, fun x => sm_lk sm_ca2 x, some .int) [24, 25, 26] 6 4 [29] [] 2000 [(29, [(0, .inl 0), (1, .inl 13), (2, .inr (false, [(-1, 60)])), (3, .inr (false, [(31, 31)])), (4, .inr (false, [(32, 32)]))], [], kch47),
  (29, [(0, .inl 0), (1, .inl 13), (2, .inr (false, [(1, 60)])), (3, .inr (false, [(31, 31)])), (4, .inr (false, [(33, 33)])), (5, .inr (false, [(-9, -9)]))], [], kch47),
  (29, [(0, .inl 0), (1, .inl 13), (2, .inr (false, [(1, 60)])), (3, .inr (false, [(31, 31)])), (4, .inr (false, [(34, 34)])), (5, .inr (false, [(-9, -9)]))], [], kch47),
  (29, [(0, .inl 0), (1, .inl 13), (2, .inr (false, [(1, 60)])), (3, .inr (false, [(31, 31)])), (4, .inr (false, [(35, 35)])), (5, .inr (false, [(-9, -9)]))], [], kch47)] = true := by decide +kernel
def kch352 : aw_H := [(13, kcx346)]
/-- MiceRegisters.faultOfFigure -/
def kcc520 : ak_C := (18, [.inl 13, .inr (false, [(-1, 60)]), .inr (false, [(32, 32)]), .inr (false, [(0, 0)]), .inr (false, [(0, 7)])], kch22, [], [([], some (.inr (false, [(-9, -9)])), kch352), ([], some (.inr (false, [(-1, 63)])), [])])
def kch353 : aw_H := [(13, kcx348)]
/-- MiceRegisters.faultOfFigure -/
def kcc521 : ak_C := (18, [.inl 13, .inr (false, [(-1, 60)]), .inr (false, [(33, 33)]), .inr (false, [(1, 1)]), .inr (false, [(9, 9)])], kch352, [], [([], some (.inr (false, [(-9, -9)])), kch353), ([], some (.inr (false, [(-1, 63)])), [])])
/-- MiceRegisters.readMouse -/
def kcc522 : ak_C := (19, [.inl 0, .inl 13, .inr (false, [(-1, 60)]), .inr (false, [(31, 31)])], kch50, [24, 29, 30, 31], [([], some (.inr (false, [(-1, 63)])), kch37), ([], some (.inr (false, [(-9, -9)])), kch39)])
theorem kck522 : ai_chk [kcc28, kcc520, kcc521] kcc522 (fun pc => sm_ch sm_t19 pc, sm_Kn 2 6 none, fun x => sm_lk sm_ca2 x, some .int) [24, 29, 30, 31] 6 0 [] [] 2000 [] = true := by decide +kernel
/-- MiceRegisters.readLine -/
def kcc523 : ak_C := (17, [.inl 0, .inl 14, .inr (false, [(-1, 60)]), .inr (false, [(31, 31)])], kch51, [24, 25, 26], [([[], [], [], []], some (.inr (false, [(-1, 60)])), kch26), ([[], [], [(1, 60)], []], some (.inr (false, [(-9, -9)])), kch28)])
theorem kck523 : ai_chk [kcc42] kcc523 (fun pc => sm_ch sm_t17 pc, sm_Kn 2 6 none, fun x => sm_lk sm_ca2 x, some .int) [24, 25, 26] 6 4 [29] [] 2000 [(29, [(0, .inl 0), (1, .inl 14), (2, .inr (false, [(-1, 60)])), (3, .inr (false, [(31, 31)])), (4, .inr (false, [(32, 32)]))], [], kch52),
  (29, [(0, .inl 0), (1, .inl 14), (2, .inr (false, [(1, 60)])), (3, .inr (false, [(31, 31)])), (4, .inr (false, [(33, 33)])), (5, .inr (false, [(-9, -9)]))], [], kch52),
  (29, [(0, .inl 0), (1, .inl 14), (2, .inr (false, [(1, 60)])), (3, .inr (false, [(31, 31)])), (4, .inr (false, [(34, 34)])), (5, .inr (false, [(-9, -9)]))], [], kch52),
  (29, [(0, .inl 0), (1, .inl 14), (2, .inr (false, [(1, 60)])), (3, .inr (false, [(31, 31)])), (4, .inr (false, [(35, 35)])), (5, .inr (false, [(-9, -9)]))], [], kch52)] = true := by decide +kernel
def kch354 : aw_H := [(14, kcx346)]
/-- MiceRegisters.faultOfFigure -/
def kcc524 : ak_C := (18, [.inl 14, .inr (false, [(-1, 60)]), .inr (false, [(32, 32)]), .inr (false, [(0, 0)]), .inr (false, [(0, 7)])], kch21, [], [([], some (.inr (false, [(-9, -9)])), kch354), ([], some (.inr (false, [(-1, 63)])), [])])
def kch355 : aw_H := [(14, kcx348)]
/-- MiceRegisters.faultOfFigure -/
def kcc525 : ak_C := (18, [.inl 14, .inr (false, [(-1, 60)]), .inr (false, [(33, 33)]), .inr (false, [(1, 1)]), .inr (false, [(9, 9)])], kch354, [], [([], some (.inr (false, [(-9, -9)])), kch355), ([], some (.inr (false, [(-1, 63)])), [])])
/-- MiceRegisters.readMouse -/
def kcc526 : ak_C := (19, [.inl 0, .inl 14, .inr (false, [(-1, 60)]), .inr (false, [(31, 31)])], kch55, [24, 29, 30, 31], [([], some (.inr (false, [(-1, 63)])), kch37), ([], some (.inr (false, [(-9, -9)])), kch39)])
theorem kck526 : ai_chk [kcc28, kcc524, kcc525] kcc526 (fun pc => sm_ch sm_t19 pc, sm_Kn 2 6 none, fun x => sm_lk sm_ca2 x, some .int) [24, 29, 30, 31] 6 0 [] [] 2000 [] = true := by decide +kernel
/-- MiceRegisters.readLine -/
def kcc527 : ak_C := (17, [.inl 0, .inl 11, .inr (false, [(-1, 60)]), .inr (false, [(32, 32)])], kch29, [24, 25, 26], [([[], [], [], []], some (.inr (false, [(-1, 60)])), kch26), ([[], [], [(1, 60)], []], some (.inr (false, [(-9, -9)])), kch28)])
theorem kck527 : ai_chk [kcc26] kcc527 (fun pc => sm_ch sm_t17 pc, sm_Kn 2 6 none, fun x => sm_lk sm_ca2 x, some .int) [24, 25, 26] 6 4 [29] [] 2000 [(29, [(0, .inl 0), (1, .inl 11), (2, .inr (false, [(-1, 60)])), (3, .inr (false, [(32, 32)])), (4, .inr (false, [(33, 33)]))], [], kch31),
  (29, [(0, .inl 0), (1, .inl 11), (2, .inr (false, [(1, 60)])), (3, .inr (false, [(32, 32)])), (4, .inr (false, [(34, 34)])), (5, .inr (false, [(-9, -9)]))], [], kch31),
  (29, [(0, .inl 0), (1, .inl 11), (2, .inr (false, [(1, 60)])), (3, .inr (false, [(32, 32)])), (4, .inr (false, [(35, 35)])), (5, .inr (false, [(-9, -9)]))], [], kch31),
  (29, [(0, .inl 0), (1, .inl 11), (2, .inr (false, [(1, 60)])), (3, .inr (false, [(32, 32)])), (4, .inr (false, [(36, 36)])), (5, .inr (false, [(-9, -9)]))], [], kch31)] = true := by decide +kernel
def kcx356 : aw_A := .inr (.inl (1, 60, [], [(33, [(48, 55)])]))
def kch357 : aw_H := [(11, kcx356)]
/-- MiceRegisters.faultOfFigure -/
def kcc528 : ak_C := (18, [.inl 11, .inr (false, [(-1, 60)]), .inr (false, [(33, 33)]), .inr (false, [(0, 0)]), .inr (false, [(0, 7)])], kch24, [], [([], some (.inr (false, [(-9, -9)])), kch357), ([], some (.inr (false, [(-1, 63)])), [])])
def kcx358 : aw_A := .inr (.inl (1, 60, [], [(34, [(49, 57)]), (33, [(48, 55)])]))
def kch359 : aw_H := [(11, kcx358)]
/-- MiceRegisters.faultOfFigure -/
def kcc529 : ak_C := (18, [.inl 11, .inr (false, [(-1, 60)]), .inr (false, [(34, 34)]), .inr (false, [(1, 1)]), .inr (false, [(9, 9)])], kch357, [], [([], some (.inr (false, [(-9, -9)])), kch359), ([], some (.inr (false, [(-1, 63)])), [])])
/-- MiceRegisters.readMouse -/
def kcc530 : ak_C := (19, [.inl 0, .inl 11, .inr (false, [(-1, 60)]), .inr (false, [(32, 32)])], kch40, [24, 29, 30, 31], [([], some (.inr (false, [(-1, 63)])), kch37), ([], some (.inr (false, [(-9, -9)])), kch39)])
theorem kck530 : ai_chk [kcc28, kcc528, kcc529] kcc530 (fun pc => sm_ch sm_t19 pc, sm_Kn 2 6 none, fun x => sm_lk sm_ca2 x, some .int) [24, 29, 30, 31] 6 0 [] [] 2000 [] = true := by decide +kernel
