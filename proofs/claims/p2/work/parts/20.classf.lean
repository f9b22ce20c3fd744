/-! Contracts over ranges of the class, and their checks; printed by a program of mine. -/
/-- MiceRegisters.readLine -/
def kcc399 : ak_C := (17, [.inl 0, .inl 13, .inr (false, [(-1, 60)]), .inr (false, [(25, 25)])], kch275, [24, 25, 26], [([[], [], [], []], some (.inr (false, [(-1, 60)])), kch40), ([[], [], [(1, 60)], []], some (.inr (false, [(-9, -9)])), kch42)])
theorem kck399 : ai_chk [kcc263] kcc399 (fun pc => sm_ch sm_t17 pc, sm_Kn 2 6 none, fun x => sm_lk sm_ca2 x, some .int) [24, 25, 26] 6 4 [29] [] 2000 [(29, [(0, .inl 0), (1, .inl 13), (2, .inr (false, [(-1, 60)])), (3, .inr (false, [(25, 25)])), (4, .inr (false, [(26, 26)]))], [], kch276),
  (29, [(0, .inl 0), (1, .inl 13), (2, .inr (false, [(1, 60)])), (3, .inr (false, [(25, 25)])), (4, .inr (false, [(27, 27)])), (5, .inr (false, [(-9, -9)]))], [], kch276),
  (29, [(0, .inl 0), (1, .inl 13), (2, .inr (false, [(1, 60)])), (3, .inr (false, [(25, 25)])), (4, .inr (false, [(28, 28)])), (5, .inr (false, [(-9, -9)]))], [], kch276),
  (29, [(0, .inl 0), (1, .inl 13), (2, .inr (false, [(1, 60)])), (3, .inr (false, [(25, 25)])), (4, .inr (false, [(29, 29)])), (5, .inr (false, [(-9, -9)]))], [], kch276)] = true := by decide +kernel
def kch339 : aw_H := [(13, kcx169)]
/-- MiceRegisters.faultOfFigure -/
def kcc400 : ak_C := (18, [.inl 13, .inr (false, [(-1, 60)]), .inr (false, [(26, 26)]), .inr (false, [(0, 0)]), .inr (false, [(0, 7)])], kch22, [], [([], some (.inr (false, [(-9, -9)])), kch339), ([], some (.inr (false, [(-1, 63)])), [])])
def kch340 : aw_H := [(13, kcx171)]
/-- MiceRegisters.faultOfFigure -/
def kcc401 : ak_C := (18, [.inl 13, .inr (false, [(-1, 60)]), .inr (false, [(27, 27)]), .inr (false, [(1, 1)]), .inr (false, [(9, 9)])], kch339, [], [([], some (.inr (false, [(-9, -9)])), kch340), ([], some (.inr (false, [(-1, 63)])), [])])
/-- MiceRegisters.readMouse -/
def kcc402 : ak_C := (19, [.inl 0, .inl 13, .inr (false, [(-1, 60)]), .inr (false, [(25, 25)])], kch274, [24, 29, 30, 31], [([], some (.inr (false, [(-1, 63)])), kch36), ([], some (.inr (false, [(-9, -9)])), kch38)])
theorem kck402 : ai_chk [kcc28, kcc400, kcc401] kcc402 (fun pc => sm_ch sm_t19 pc, sm_Kn 2 6 none, fun x => sm_lk sm_ca2 x, some .int) [24, 29, 30, 31] 6 0 [] [] 2000 [] = true := by decide +kernel
/-- MiceRegisters.readLine -/
def kcc403 : ak_C := (17, [.inl 0, .inl 13, .inr (false, [(-1, 60)]), .inr (false, [(24, 24)])], kch275, [24, 25, 26], [([[], [], [], []], some (.inr (false, [(-1, 60)])), kch40), ([[], [], [(1, 60)], []], some (.inr (false, [(-9, -9)])), kch42)])
theorem kck403 : ai_chk [kcc263] kcc403 (fun pc => sm_ch sm_t17 pc, sm_Kn 2 6 none, fun x => sm_lk sm_ca2 x, some .int) [24, 25, 26] 6 4 [29] [] 2000 [(29, [(0, .inl 0), (1, .inl 13), (2, .inr (false, [(-1, 60)])), (3, .inr (false, [(24, 24)])), (4, .inr (false, [(25, 25)]))], [], kch276),
  (29, [(0, .inl 0), (1, .inl 13), (2, .inr (false, [(1, 60)])), (3, .inr (false, [(24, 24)])), (4, .inr (false, [(26, 26)])), (5, .inr (false, [(-9, -9)]))], [], kch276),
  (29, [(0, .inl 0), (1, .inl 13), (2, .inr (false, [(1, 60)])), (3, .inr (false, [(24, 24)])), (4, .inr (false, [(27, 27)])), (5, .inr (false, [(-9, -9)]))], [], kch276),
  (29, [(0, .inl 0), (1, .inl 13), (2, .inr (false, [(1, 60)])), (3, .inr (false, [(24, 24)])), (4, .inr (false, [(28, 28)])), (5, .inr (false, [(-9, -9)]))], [], kch276)] = true := by decide +kernel
def kch341 : aw_H := [(13, kcx173)]
/-- MiceRegisters.faultOfFigure -/
def kcc404 : ak_C := (18, [.inl 13, .inr (false, [(-1, 60)]), .inr (false, [(25, 25)]), .inr (false, [(0, 0)]), .inr (false, [(0, 7)])], kch22, [], [([], some (.inr (false, [(-9, -9)])), kch341), ([], some (.inr (false, [(-1, 63)])), [])])
def kch342 : aw_H := [(13, kcx175)]
/-- MiceRegisters.faultOfFigure -/
def kcc405 : ak_C := (18, [.inl 13, .inr (false, [(-1, 60)]), .inr (false, [(26, 26)]), .inr (false, [(1, 1)]), .inr (false, [(9, 9)])], kch341, [], [([], some (.inr (false, [(-9, -9)])), kch342), ([], some (.inr (false, [(-1, 63)])), [])])
/-- MiceRegisters.readMouse -/
def kcc406 : ak_C := (19, [.inl 0, .inl 13, .inr (false, [(-1, 60)]), .inr (false, [(24, 24)])], kch274, [24, 29, 30, 31], [([], some (.inr (false, [(-1, 63)])), kch36), ([], some (.inr (false, [(-9, -9)])), kch38)])
theorem kck406 : ai_chk [kcc28, kcc404, kcc405] kcc406 (fun pc => sm_ch sm_t19 pc, sm_Kn 2 6 none, fun x => sm_lk sm_ca2 x, some .int) [24, 29, 30, 31] 6 0 [] [] 2000 [] = true := by decide +kernel
/-- MiceRegisters.readLine -/
def kcc407 : ak_C := (17, [.inl 0, .inl 13, .inr (false, [(-1, 60)]), .inr (false, [(23, 23)])], kch275, [24, 25, 26], [([[], [], [], []], some (.inr (false, [(-1, 60)])), kch40), ([[], [], [(1, 60)], []], some (.inr (false, [(-9, -9)])), kch42)])
theorem kck407 : ai_chk [kcc263] kcc407 (fun pc => sm_ch sm_t17 pc, sm_Kn 2 6 none, fun x => sm_lk sm_ca2 x, some .int) [24, 25, 26] 6 4 [29] [] 2000 [(29, [(0, .inl 0), (1, .inl 13), (2, .inr (false, [(-1, 60)])), (3, .inr (false, [(23, 23)])), (4, .inr (false, [(24, 24)]))], [], kch276),
  (29, [(0, .inl 0), (1, .inl 13), (2, .inr (false, [(1, 60)])), (3, .inr (false, [(23, 23)])), (4, .inr (false, [(25, 25)])), (5, .inr (false, [(-9, -9)]))], [], kch276),
  (29, [(0, .inl 0), (1, .inl 13), (2, .inr (false, [(1, 60)])), (3, .inr (false, [(23, 23)])), (4, .inr (false, [(26, 26)])), (5, .inr (false, [(-9, -9)]))], [], kch276),
  (29, [(0, .inl 0), (1, .inl 13), (2, .inr (false, [(1, 60)])), (3, .inr (false, [(23, 23)])), (4, .inr (false, [(27, 27)])), (5, .inr (false, [(-9, -9)]))], [], kch276)] = true := by decide +kernel
def kch343 : aw_H := [(13, kcx177)]
/-- MiceRegisters.faultOfFigure -/
def kcc408 : ak_C := (18, [.inl 13, .inr (false, [(-1, 60)]), .inr (false, [(24, 24)]), .inr (false, [(0, 0)]), .inr (false, [(0, 7)])], kch22, [], [([], some (.inr (false, [(-9, -9)])), kch343), ([], some (.inr (false, [(-1, 63)])), [])])
def kch344 : aw_H := [(13, kcx179)]
/-- MiceRegisters.faultOfFigure -/
def kcc409 : ak_C := (18, [.inl 13, .inr (false, [(-1, 60)]), .inr (false, [(25, 25)]), .inr (false, [(1, 1)]), .inr (false, [(9, 9)])], kch343, [], [([], some (.inr (false, [(-9, -9)])), kch344), ([], some (.inr (false, [(-1, 63)])), [])])
/-- MiceRegisters.readMouse -/
def kcc410 : ak_C := (19, [.inl 0, .inl 13, .inr (false, [(-1, 60)]), .inr (false, [(23, 23)])], kch274, [24, 29, 30, 31], [([], some (.inr (false, [(-1, 63)])), kch36), ([], some (.inr (false, [(-9, -9)])), kch38)])
theorem kck410 : ai_chk [kcc28, kcc408, kcc409] kcc410 (fun pc => sm_ch sm_t19 pc, sm_Kn 2 6 none, fun x => sm_lk sm_ca2 x, some .int) [24, 29, 30, 31] 6 0 [] [] 2000 [] = true := by decide +kernel
/-- MiceRegisters.readLine -/
def kcc411 : ak_C := (17, [.inl 0, .inl 13, .inr (false, [(-1, 60)]), .inr (false, [(22, 22)])], kch275, [24, 25, 26], [([[], [], [], []], some (.inr (false, [(-1, 60)])), kch40), ([[], [], [(1, 60)], []], some (.inr (false, [(-9, -9)])), kch42)])
theorem kck411 : ai_chk [kcc263] kcc411 (fun pc => sm_ch sm_t17 pc, sm_Kn 2 6 none, fun x => sm_lk sm_ca2 x, some .int) [24, 25, 26] 6 4 [29] [] 2000 [(29, [(0, .inl 0), (1, .inl 13), (2, .inr (false, [(-1, 60)])), (3, .inr (false, [(22, 22)])), (4, .inr (false, [(23, 23)]))], [], kch276),
  (29, [(0, .inl 0), (1, .inl 13), (2, .inr (false, [(1, 60)])), (3, .inr (false, [(22, 22)])), (4, .inr (false, [(24, 24)])), (5, .inr (false, [(-9, -9)]))], [], kch276),
  (29, [(0, .inl 0), (1, .inl 13), (2, .inr (false, [(1, 60)])), (3, .inr (false, [(22, 22)])), (4, .inr (false, [(25, 25)])), (5, .inr (false, [(-9, -9)]))], [], kch276),
  (29, [(0, .inl 0), (1, .inl 13), (2, .inr (false, [(1, 60)])), (3, .inr (false, [(22, 22)])), (4, .inr (false, [(26, 26)])), (5, .inr (false, [(-9, -9)]))], [], kch276)] = true := by decide +kernel
def kch345 : aw_H := [(13, kcx181)]
/-- MiceRegisters.faultOfFigure -/
def kcc412 : ak_C := (18, [.inl 13, .inr (false, [(-1, 60)]), .inr (false, [(23, 23)]), .inr (false, [(0, 0)]), .inr (false, [(0, 7)])], kch22, [], [([], some (.inr (false, [(-9, -9)])), kch345), ([], some (.inr (false, [(-1, 63)])), [])])
def kch346 : aw_H := [(13, kcx183)]
/-- MiceRegisters.faultOfFigure -/
def kcc413 : ak_C := (18, [.inl 13, .inr (false, [(-1, 60)]), .inr (false, [(24, 24)]), .inr (false, [(1, 1)]), .inr (false, [(9, 9)])], kch345, [], [([], some (.inr (false, [(-9, -9)])), kch346), ([], some (.inr (false, [(-1, 63)])), [])])
/-- MiceRegisters.readMouse -/
def kcc414 : ak_C := (19, [.inl 0, .inl 13, .inr (false, [(-1, 60)]), .inr (false, [(22, 22)])], kch274, [24, 29, 30, 31], [([], some (.inr (false, [(-1, 63)])), kch36), ([], some (.inr (false, [(-9, -9)])), kch38)])
theorem kck414 : ai_chk [kcc28, kcc412, kcc413] kcc414 (fun pc => sm_ch sm_t19 pc, sm_Kn 2 6 none, fun x => sm_lk sm_ca2 x, some .int) [24, 29, 30, 31] 6 0 [] [] 2000 [] = true := by decide +kernel
/-- MiceRegisters.readLine -/
def kcc415 : ak_C := (17, [.inl 0, .inl 13, .inr (false, [(-1, 60)]), .inr (false, [(21, 21)])], kch275, [24, 25, 26], [([[], [], [], []], some (.inr (false, [(-1, 60)])), kch40), ([[], [], [(1, 60)], []], some (.inr (false, [(-9, -9)])), kch42)])
theorem kck415 : ai_chk [kcc263] kcc415 (fun pc => sm_ch sm_t17 pc, sm_Kn 2 6 none, fun x => sm_lk sm_ca2 x, some .int) [24, 25, 26] 6 4 [29] [] 2000 [(29, [(0, .inl 0), (1, .inl 13), (2, .inr (false, [(-1, 60)])), (3, .inr (false, [(21, 21)])), (4, .inr (false, [(22, 22)]))], [], kch276),
  (29, [(0, .inl 0), (1, .inl 13), (2, .inr (false, [(1, 60)])), (3, .inr (false, [(21, 21)])), (4, .inr (false, [(23, 23)])), (5, .inr (false, [(-9, -9)]))], [], kch276),
  (29, [(0, .inl 0), (1, .inl 13), (2, .inr (false, [(1, 60)])), (3, .inr (false, [(21, 21)])), (4, .inr (false, [(24, 24)])), (5, .inr (false, [(-9, -9)]))], [], kch276),
  (29, [(0, .inl 0), (1, .inl 13), (2, .inr (false, [(1, 60)])), (3, .inr (false, [(21, 21)])), (4, .inr (false, [(25, 25)])), (5, .inr (false, [(-9, -9)]))], [], kch276)] = true := by decide +kernel
def kch347 : aw_H := [(13, kcx185)]
/-- MiceRegisters.faultOfFigure -/
def kcc416 : ak_C := (18, [.inl 13, .inr (false, [(-1, 60)]), .inr (false, [(22, 22)]), .inr (false, [(0, 0)]), .inr (false, [(0, 7)])], kch22, [], [([], some (.inr (false, [(-9, -9)])), kch347), ([], some (.inr (false, [(-1, 63)])), [])])
def kch348 : aw_H := [(13, kcx187)]
/-- MiceRegisters.faultOfFigure -/
def kcc417 : ak_C := (18, [.inl 13, .inr (false, [(-1, 60)]), .inr (false, [(23, 23)]), .inr (false, [(1, 1)]), .inr (false, [(9, 9)])], kch347, [], [([], some (.inr (false, [(-9, -9)])), kch348), ([], some (.inr (false, [(-1, 63)])), [])])
/-- MiceRegisters.readMouse -/
def kcc418 : ak_C := (19, [.inl 0, .inl 13, .inr (false, [(-1, 60)]), .inr (false, [(21, 21)])], kch274, [24, 29, 30, 31], [([], some (.inr (false, [(-1, 63)])), kch36), ([], some (.inr (false, [(-9, -9)])), kch38)])
theorem kck418 : ai_chk [kcc28, kcc416, kcc417] kcc418 (fun pc => sm_ch sm_t19 pc, sm_Kn 2 6 none, fun x => sm_lk sm_ca2 x, some .int) [24, 29, 30, 31] 6 0 [] [] 2000 [] = true := by decide +kernel
/-- MiceRegisters.readLine -/
def kcc419 : ak_C := (17, [.inl 0, .inl 13, .inr (false, [(-1, 60)]), .inr (false, [(20, 20)])], kch275, [24, 25, 26], [([[], [], [], []], some (.inr (false, [(-1, 60)])), kch40), ([[], [], [(1, 60)], []], some (.inr (false, [(-9, -9)])), kch42)])
theorem kck419 : ai_chk [kcc263] kcc419 (fun pc => sm_ch sm_t17 pc, sm_Kn 2 6 none, fun x => sm_lk sm_ca2 x, some .int) [24, 25, 26] 6 4 [29] [] 2000 [(29, [(0, .inl 0), (1, .inl 13), (2, .inr (false, [(-1, 60)])), (3, .inr (false, [(20, 20)])), (4, .inr (false, [(21, 21)]))], [], kch276),
  (29, [(0, .inl 0), (1, .inl 13), (2, .inr (false, [(1, 60)])), (3, .inr (false, [(20, 20)])), (4, .inr (false, [(22, 22)])), (5, .inr (false, [(-9, -9)]))], [], kch276),
  (29, [(0, .inl 0), (1, .inl 13), (2, .inr (false, [(1, 60)])), (3, .inr (false, [(20, 20)])), (4, .inr (false, [(23, 23)])), (5, .inr (false, [(-9, -9)]))], [], kch276),
  (29, [(0, .inl 0), (1, .inl 13), (2, .inr (false, [(1, 60)])), (3, .inr (false, [(20, 20)])), (4, .inr (false, [(24, 24)])), (5, .inr (false, [(-9, -9)]))], [], kch276)] = true := by decide +kernel
def kch349 : aw_H := [(13, kcx189)]
/-- MiceRegisters.faultOfFigure -/
def kcc420 : ak_C := (18, [.inl 13, .inr (false, [(-1, 60)]), .inr (false, [(21, 21)]), .inr (false, [(0, 0)]), .inr (false, [(0, 7)])], kch22, [], [([], some (.inr (false, [(-9, -9)])), kch349), ([], some (.inr (false, [(-1, 63)])), [])])
def kch350 : aw_H := [(13, kcx191)]
/-- MiceRegisters.faultOfFigure -/
def kcc421 : ak_C := (18, [.inl 13, .inr (false, [(-1, 60)]), .inr (false, [(22, 22)]), .inr (false, [(1, 1)]), .inr (false, [(9, 9)])], kch349, [], [([], some (.inr (false, [(-9, -9)])), kch350), ([], some (.inr (false, [(-1, 63)])), [])])
/-- MiceRegisters.readMouse -/
def kcc422 : ak_C := (19, [.inl 0, .inl 13, .inr (false, [(-1, 60)]), .inr (false, [(20, 20)])], kch274, [24, 29, 30, 31], [([], some (.inr (false, [(-1, 63)])), kch36), ([], some (.inr (false, [(-9, -9)])), kch38)])
theorem kck422 : ai_chk [kcc28, kcc420, kcc421] kcc422 (fun pc => sm_ch sm_t19 pc, sm_Kn 2 6 none, fun x => sm_lk sm_ca2 x, some .int) [24, 29, 30, 31] 6 0 [] [] 2000 [] = true := by decide +kernel
/-- MiceRegisters.readLine -/
def kcc423 : ak_C := (17, [.inl 0, .inl 13, .inr (false, [(-1, 60)]), .inr (false, [(19, 19)])], kch275, [24, 25, 26], [([[], [], [], []], some (.inr (false, [(-1, 60)])), kch40), ([[], [], [(1, 60)], []], some (.inr (false, [(-9, -9)])), kch42)])
theorem kck423 : ai_chk [kcc263] kcc423 (fun pc => sm_ch sm_t17 pc, sm_Kn 2 6 none, fun x => sm_lk sm_ca2 x, some .int) [24, 25, 26] 6 4 [29] [] 2000 [(29, [(0, .inl 0), (1, .inl 13), (2, .inr (false, [(-1, 60)])), (3, .inr (false, [(19, 19)])), (4, .inr (false, [(20, 20)]))], [], kch276),
  (29, [(0, .inl 0), (1, .inl 13), (2, .inr (false, [(1, 60)])), (3, .inr (false, [(19, 19)])), (4, .inr (false, [(21, 21)])), (5, .inr (false, [(-9, -9)]))], [], kch276),
  (29, [(0, .inl 0), (1, .inl 13), (2, .inr (false, [(1, 60)])), (3, .inr (false, [(19, 19)])), (4, .inr (false, [(22, 22)])), (5, .inr (false, [(-9, -9)]))], [], kch276),
  (29, [(0, .inl 0), (1, .inl 13), (2, .inr (false, [(1, 60)])), (3, .inr (false, [(19, 19)])), (4, .inr (false, [(23, 23)])), (5, .inr (false, [(-9, -9)]))], [], kch276)] = true := by decide +kernel
def kch351 : aw_H := [(13, kcx193)]
/-- MiceRegisters.faultOfFigure -/
def kcc424 : ak_C := (18, [.inl 13, .inr (false, [(-1, 60)]), .inr (false, [(20, 20)]), .inr (false, [(0, 0)]), .inr (false, [(0, 7)])], kch22, [], [([], some (.inr (false, [(-9, -9)])), kch351), ([], some (.inr (false, [(-1, 63)])), [])])
def kch352 : aw_H := [(13, kcx195)]
/-- MiceRegisters.faultOfFigure -/
def kcc425 : ak_C := (18, [.inl 13, .inr (false, [(-1, 60)]), .inr (false, [(21, 21)]), .inr (false, [(1, 1)]), .inr (false, [(9, 9)])], kch351, [], [([], some (.inr (false, [(-9, -9)])), kch352), ([], some (.inr (false, [(-1, 63)])), [])])
/-- MiceRegisters.readMouse -/
def kcc426 : ak_C := (19, [.inl 0, .inl 13, .inr (false, [(-1, 60)]), .inr (false, [(19, 19)])], kch274, [24, 29, 30, 31], [([], some (.inr (false, [(-1, 63)])), kch36), ([], some (.inr (false, [(-9, -9)])), kch38)])
theorem kck426 : ai_chk [kcc28, kcc424, kcc425] kcc426 (fun pc => sm_ch sm_t19 pc, sm_Kn 2 6 none, fun x => sm_lk sm_ca2 x, some .int) [24, 29, 30, 31] 6 0 [] [] 2000 [] = true := by decide +kernel
/-- MiceRegisters.readLine -/
def kcc427 : ak_C := (17, [.inl 0, .inl 13, .inr (false, [(-1, 60)]), .inr (false, [(18, 18)])], kch275, [24, 25, 26], [([[], [], [], []], some (.inr (false, [(-1, 60)])), kch40), ([[], [], [(1, 60)], []], some (.inr (false, [(-9, -9)])), kch42)])
theorem kck427 : ai_chk [kcc263] kcc427 (fun pc => sm_ch sm_t17 pc, sm_Kn 2 6 none, fun x => sm_lk sm_ca2 x, some .int) [24, 25, 26] 6 4 [29] [] 2000 [(29, [(0, .inl 0), (1, .inl 13), (2, .inr (false, [(-1, 60)])), (3, .inr (false, [(18, 18)])), (4, .inr (false, [(19, 19)]))], [], kch276),
  (29, [(0, .inl 0), (1, .inl 13), (2, .inr (false, [(1, 60)])), (3, .inr (false, [(18, 18)])), (4, .inr (false, [(20, 20)])), (5, .inr (false, [(-9, -9)]))], [], kch276),
  (29, [(0, .inl 0), (1, .inl 13), (2, .inr (false, [(1, 60)])), (3, .inr (false, [(18, 18)])), (4, .inr (false, [(21, 21)])), (5, .inr (false, [(-9, -9)]))], [], kch276),
  (29, [(0, .inl 0), (1, .inl 13), (2, .inr (false, [(1, 60)])), (3, .inr (false, [(18, 18)])), (4, .inr (false, [(22, 22)])), (5, .inr (false, [(-9, -9)]))], [], kch276)] = true := by decide +kernel
def kch353 : aw_H := [(13, kcx197)]
/-- MiceRegisters.faultOfFigure -/
def kcc428 : ak_C := (18, [.inl 13, .inr (false, [(-1, 60)]), .inr (false, [(19, 19)]), .inr (false, [(0, 0)]), .inr (false, [(0, 7)])], kch22, [], [([], some (.inr (false, [(-9, -9)])), kch353), ([], some (.inr (false, [(-1, 63)])), [])])
def kch354 : aw_H := [(13, kcx199)]
/-- MiceRegisters.faultOfFigure -/
def kcc429 : ak_C := (18, [.inl 13, .inr (false, [(-1, 60)]), .inr (false, [(20, 20)]), .inr (false, [(1, 1)]), .inr (false, [(9, 9)])], kch353, [], [([], some (.inr (false, [(-9, -9)])), kch354), ([], some (.inr (false, [(-1, 63)])), [])])
/-- MiceRegisters.readMouse -/
def kcc430 : ak_C := (19, [.inl 0, .inl 13, .inr (false, [(-1, 60)]), .inr (false, [(18, 18)])], kch274, [24, 29, 30, 31], [([], some (.inr (false, [(-1, 63)])), kch36), ([], some (.inr (false, [(-9, -9)])), kch38)])
theorem kck430 : ai_chk [kcc28, kcc428, kcc429] kcc430 (fun pc => sm_ch sm_t19 pc, sm_Kn 2 6 none, fun x => sm_lk sm_ca2 x, some .int) [24, 29, 30, 31] 6 0 [] [] 2000 [] = true := by decide +kernel
/-- MiceRegisters.readLine -/
def kcc431 : ak_C := (17, [.inl 0, .inl 13, .inr (false, [(-1, 60)]), .inr (false, [(17, 17)])], kch275, [24, 25, 26], [([[], [], [], []], some (.inr (false, [(-1, 60)])), kch40), ([[], [], [(1, 60)], []], some (.inr (false, [(-9, -9)])), kch42)])
theorem kck431 : ai_chk [kcc263] kcc431 (fun pc => sm_ch sm_t17 pc, sm_Kn 2 6 none, fun x => sm_lk sm_ca2 x, some .int) [24, 25, 26] 6 4 [29] [] 2000 [(29, [(0, .inl 0), (1, .inl 13), (2, .inr (false, [(-1, 60)])), (3, .inr (false, [(17, 17)])), (4, .inr (false, [(18, 18)]))], [], kch276),
  (29, [(0, .inl 0), (1, .inl 13), (2, .inr (false, [(1, 60)])), (3, .inr (false, [(17, 17)])), (4, .inr (false, [(19, 19)])), (5, .inr (false, [(-9, -9)]))], [], kch276),
  (29, [(0, .inl 0), (1, .inl 13), (2, .inr (false, [(1, 60)])), (3, .inr (false, [(17, 17)])), (4, .inr (false, [(20, 20)])), (5, .inr (false, [(-9, -9)]))], [], kch276),
  (29, [(0, .inl 0), (1, .inl 13), (2, .inr (false, [(1, 60)])), (3, .inr (false, [(17, 17)])), (4, .inr (false, [(21, 21)])), (5, .inr (false, [(-9, -9)]))], [], kch276)] = true := by decide +kernel
def kch355 : aw_H := [(13, kcx201)]
/-- MiceRegisters.faultOfFigure -/
def kcc432 : ak_C := (18, [.inl 13, .inr (false, [(-1, 60)]), .inr (false, [(18, 18)]), .inr (false, [(0, 0)]), .inr (false, [(0, 7)])], kch22, [], [([], some (.inr (false, [(-9, -9)])), kch355), ([], some (.inr (false, [(-1, 63)])), [])])
def kch356 : aw_H := [(13, kcx203)]
/-- MiceRegisters.faultOfFigure -/
def kcc433 : ak_C := (18, [.inl 13, .inr (false, [(-1, 60)]), .inr (false, [(19, 19)]), .inr (false, [(1, 1)]), .inr (false, [(9, 9)])], kch355, [], [([], some (.inr (false, [(-9, -9)])), kch356), ([], some (.inr (false, [(-1, 63)])), [])])
/-- MiceRegisters.readMouse -/
def kcc434 : ak_C := (19, [.inl 0, .inl 13, .inr (false, [(-1, 60)]), .inr (false, [(17, 17)])], kch274, [24, 29, 30, 31], [([], some (.inr (false, [(-1, 63)])), kch36), ([], some (.inr (false, [(-9, -9)])), kch38)])
theorem kck434 : ai_chk [kcc28, kcc432, kcc433] kcc434 (fun pc => sm_ch sm_t19 pc, sm_Kn 2 6 none, fun x => sm_lk sm_ca2 x, some .int) [24, 29, 30, 31] 6 0 [] [] 2000 [] = true := by decide +kernel
/-- MiceRegisters.readLine -/
def kcc435 : ak_C := (17, [.inl 0, .inl 13, .inr (false, [(-1, 60)]), .inr (false, [(16, 16)])], kch275, [24, 25, 26], [([[], [], [], []], some (.inr (false, [(-1, 60)])), kch40), ([[], [], [(1, 60)], []], some (.inr (false, [(-9, -9)])), kch42)])
theorem kck435 : ai_chk [kcc263] kcc435 (fun pc => sm_ch sm_t17 pc, sm_Kn 2 6 none, fun x => sm_lk sm_ca2 x, some .int) [24, 25, 26] 6 4 [29] [] 2000 [(29, [(0, .inl 0), (1, .inl 13), (2, .inr (false, [(-1, 60)])), (3, .inr (false, [(16, 16)])), (4, .inr (false, [(17, 17)]))], [], kch276),
  (29, [(0, .inl 0), (1, .inl 13), (2, .inr (false, [(1, 60)])), (3, .inr (false, [(16, 16)])), (4, .inr (false, [(18, 18)])), (5, .inr (false, [(-9, -9)]))], [], kch276),
  (29, [(0, .inl 0), (1, .inl 13), (2, .inr (false, [(1, 60)])), (3, .inr (false, [(16, 16)])), (4, .inr (false, [(19, 19)])), (5, .inr (false, [(-9, -9)]))], [], kch276),
  (29, [(0, .inl 0), (1, .inl 13), (2, .inr (false, [(1, 60)])), (3, .inr (false, [(16, 16)])), (4, .inr (false, [(20, 20)])), (5, .inr (false, [(-9, -9)]))], [], kch276)] = true := by decide +kernel
def kch357 : aw_H := [(13, kcx205)]
/-- MiceRegisters.faultOfFigure -/
def kcc436 : ak_C := (18, [.inl 13, .inr (false, [(-1, 60)]), .inr (false, [(17, 17)]), .inr (false, [(0, 0)]), .inr (false, [(0, 7)])], kch22, [], [([], some (.inr (false, [(-9, -9)])), kch357), ([], some (.inr (false, [(-1, 63)])), [])])
def kch358 : aw_H := [(13, kcx207)]
/-- MiceRegisters.faultOfFigure -/
def kcc437 : ak_C := (18, [.inl 13, .inr (false, [(-1, 60)]), .inr (false, [(18, 18)]), .inr (false, [(1, 1)]), .inr (false, [(9, 9)])], kch357, [], [([], some (.inr (false, [(-9, -9)])), kch358), ([], some (.inr (false, [(-1, 63)])), [])])
/-- MiceRegisters.readMouse -/
def kcc438 : ak_C := (19, [.inl 0, .inl 13, .inr (false, [(-1, 60)]), .inr (false, [(16, 16)])], kch274, [24, 29, 30, 31], [([], some (.inr (false, [(-1, 63)])), kch36), ([], some (.inr (false, [(-9, -9)])), kch38)])
theorem kck438 : ai_chk [kcc28, kcc436, kcc437] kcc438 (fun pc => sm_ch sm_t19 pc, sm_Kn 2 6 none, fun x => sm_lk sm_ca2 x, some .int) [24, 29, 30, 31] 6 0 [] [] 2000 [] = true := by decide +kernel
/-- MiceRegisters.readLine -/
def kcc439 : ak_C := (17, [.inl 0, .inl 13, .inr (false, [(-1, 60)]), .inr (false, [(15, 15)])], kch275, [24, 25, 26], [([[], [], [], []], some (.inr (false, [(-1, 60)])), kch40), ([[], [], [(1, 60)], []], some (.inr (false, [(-9, -9)])), kch42)])
theorem kck439 : ai_chk [kcc263] kcc439 (fun pc => sm_ch sm_t17 pc, sm_Kn 2 6 none, fun x => sm_lk sm_ca2 x, some .int) [24, 25, 26] 6 4 [29] [] 2000 [(29, [(0, .inl 0), (1, .inl 13), (2, .inr (false, [(-1, 60)])), (3, .inr (false, [(15, 15)])), (4, .inr (false, [(16, 16)]))], [], kch276),
  (29, [(0, .inl 0), (1, .inl 13), (2, .inr (false, [(1, 60)])), (3, .inr (false, [(15, 15)])), (4, .inr (false, [(17, 17)])), (5, .inr (false, [(-9, -9)]))], [], kch276),
  (29, [(0, .inl 0), (1, .inl 13), (2, .inr (false, [(1, 60)])), (3, .inr (false, [(15, 15)])), (4, .inr (false, [(18, 18)])), (5, .inr (false, [(-9, -9)]))], [], kch276),
  (29, [(0, .inl 0), (1, .inl 13), (2, .inr (false, [(1, 60)])), (3, .inr (false, [(15, 15)])), (4, .inr (false, [(19, 19)])), (5, .inr (false, [(-9, -9)]))], [], kch276)] = true := by decide +kernel
def kch359 : aw_H := [(13, kcx209)]
/-- MiceRegisters.faultOfFigure -/
def kcc440 : ak_C := (18, [.inl 13, .inr (false, [(-1, 60)]), .inr (false, [(16, 16)]), .inr (false, [(0, 0)]), .inr (false, [(0, 7)])], kch22, [], [([], some (.inr (false, [(-9, -9)])), kch359), ([], some (.inr (false, [(-1, 63)])), [])])
def kch360 : aw_H := [(13, kcx211)]
/-- MiceRegisters.faultOfFigure -/
def kcc441 : ak_C := (18, [.inl 13, .inr (false, [(-1, 60)]), .inr (false, [(17, 17)]), .inr (false, [(1, 1)]), .inr (false, [(9, 9)])], kch359, [], [([], some (.inr (false, [(-9, -9)])), kch360), ([], some (.inr (false, [(-1, 63)])), [])])
/-- MiceRegisters.readMouse -/
def kcc442 : ak_C := (19, [.inl 0, .inl 13, .inr (false, [(-1, 60)]), .inr (false, [(15, 15)])], kch274, [24, 29, 30, 31], [([], some (.inr (false, [(-1, 63)])), kch36), ([], some (.inr (false, [(-9, -9)])), kch38)])
theorem kck442 : ai_chk [kcc28, kcc440, kcc441] kcc442 (fun pc => sm_ch sm_t19 pc, sm_Kn 2 6 none, fun x => sm_lk sm_ca2 x, some .int) [24, 29, 30, 31] 6 0 [] [] 2000 [] = true := by decide +kernel
/-- MiceRegisters.readLine -/
def kcc443 : ak_C := (17, [.inl 0, .inl 13, .inr (false, [(-1, 60)]), .inr (false, [(14, 14)])], kch275, [24, 25, 26], [([[], [], [], []], some (.inr (false, [(-1, 60)])), kch40), ([[], [], [(1, 60)], []], some (.inr (false, [(-9, -9)])), kch42)])
theorem kck443 : ai_chk [kcc263] kcc443 (fun pc => sm_ch sm_t17 pc, sm_Kn 2 6 none, fun x => sm_lk sm_ca2 x, some .int) [24, 25, 26] 6 4 [29] [] 2000 [(29, [(0, .inl 0), (1, .inl 13), (2, .inr (false, [(-1, 60)])), (3, .inr (false, [(14, 14)])), (4, .inr (false, [(15, 15)]))], [], kch276),
  (29, [(0, .inl 0), (1, .inl 13), (2, .inr (false, [(1, 60)])), (3, .inr (false, [(14, 14)])), (4, .inr (false, [(16, 16)])), (5, .inr (false, [(-9, -9)]))], [], kch276),
  (29, [(0, .inl 0), (1, .inl 13), (2, .inr (false, [(1, 60)])), (3, .inr (false, [(14, 14)])), (4, .inr (false, [(17, 17)])), (5, .inr (false, [(-9, -9)]))], [], kch276),
  (29, [(0, .inl 0), (1, .inl 13), (2, .inr (false, [(1, 60)])), (3, .inr (false, [(14, 14)])), (4, .inr (false, [(18, 18)])), (5, .inr (false, [(-9, -9)]))], [], kch276)] = true := by decide +kernel
def kch361 : aw_H := [(13, kcx213)]
/-- MiceRegisters.faultOfFigure -/
def kcc444 : ak_C := (18, [.inl 13, .inr (false, [(-1, 60)]), .inr (false, [(15, 15)]), .inr (false, [(0, 0)]), .inr (false, [(0, 7)])], kch22, [], [([], some (.inr (false, [(-9, -9)])), kch361), ([], some (.inr (false, [(-1, 63)])), [])])
def kch362 : aw_H := [(13, kcx215)]
/-- MiceRegisters.faultOfFigure -/
def kcc445 : ak_C := (18, [.inl 13, .inr (false, [(-1, 60)]), .inr (false, [(16, 16)]), .inr (false, [(1, 1)]), .inr (false, [(9, 9)])], kch361, [], [([], some (.inr (false, [(-9, -9)])), kch362), ([], some (.inr (false, [(-1, 63)])), [])])
/-- MiceRegisters.readMouse -/
def kcc446 : ak_C := (19, [.inl 0, .inl 13, .inr (false, [(-1, 60)]), .inr (false, [(14, 14)])], kch274, [24, 29, 30, 31], [([], some (.inr (false, [(-1, 63)])), kch36), ([], some (.inr (false, [(-9, -9)])), kch38)])
theorem kck446 : ai_chk [kcc28, kcc444, kcc445] kcc446 (fun pc => sm_ch sm_t19 pc, sm_Kn 2 6 none, fun x => sm_lk sm_ca2 x, some .int) [24, 29, 30, 31] 6 0 [] [] 2000 [] = true := by decide +kernel
/-- MiceRegisters.readLine -/
def kcc447 : ak_C := (17, [.inl 0, .inl 13, .inr (false, [(-1, 60)]), .inr (false, [(13, 13)])], kch275, [24, 25, 26], [([[], [], [], []], some (.inr (false, [(-1, 60)])), kch40), ([[], [], [(1, 60)], []], some (.inr (false, [(-9, -9)])), kch42)])
theorem kck447 : ai_chk [kcc263] kcc447 (fun pc => sm_ch sm_t17 pc, sm_Kn 2 6 none, fun x => sm_lk sm_ca2 x, some .int) [24, 25, 26] 6 4 [29] [] 2000 [(29, [(0, .inl 0), (1, .inl 13), (2, .inr (false, [(-1, 60)])), (3, .inr (false, [(13, 13)])), (4, .inr (false, [(14, 14)]))], [], kch276),
  (29, [(0, .inl 0), (1, .inl 13), (2, .inr (false, [(1, 60)])), (3, .inr (false, [(13, 13)])), (4, .inr (false, [(15, 15)])), (5, .inr (false, [(-9, -9)]))], [], kch276),
  (29, [(0, .inl 0), (1, .inl 13), (2, .inr (false, [(1, 60)])), (3, .inr (false, [(13, 13)])), (4, .inr (false, [(16, 16)])), (5, .inr (false, [(-9, -9)]))], [], kch276),
  (29, [(0, .inl 0), (1, .inl 13), (2, .inr (false, [(1, 60)])), (3, .inr (false, [(13, 13)])), (4, .inr (false, [(17, 17)])), (5, .inr (false, [(-9, -9)]))], [], kch276)] = true := by decide +kernel
def kch363 : aw_H := [(13, kcx217)]
/-- MiceRegisters.faultOfFigure -/
def kcc448 : ak_C := (18, [.inl 13, .inr (false, [(-1, 60)]), .inr (false, [(14, 14)]), .inr (false, [(0, 0)]), .inr (false, [(0, 7)])], kch22, [], [([], some (.inr (false, [(-9, -9)])), kch363), ([], some (.inr (false, [(-1, 63)])), [])])
def kch364 : aw_H := [(13, kcx219)]
/-- MiceRegisters.faultOfFigure -/
def kcc449 : ak_C := (18, [.inl 13, .inr (false, [(-1, 60)]), .inr (false, [(15, 15)]), .inr (false, [(1, 1)]), .inr (false, [(9, 9)])], kch363, [], [([], some (.inr (false, [(-9, -9)])), kch364), ([], some (.inr (false, [(-1, 63)])), [])])
/-- MiceRegisters.readMouse -/
def kcc450 : ak_C := (19, [.inl 0, .inl 13, .inr (false, [(-1, 60)]), .inr (false, [(13, 13)])], kch274, [24, 29, 30, 31], [([], some (.inr (false, [(-1, 63)])), kch36), ([], some (.inr (false, [(-9, -9)])), kch38)])
theorem kck450 : ai_chk [kcc28, kcc448, kcc449] kcc450 (fun pc => sm_ch sm_t19 pc, sm_Kn 2 6 none, fun x => sm_lk sm_ca2 x, some .int) [24, 29, 30, 31] 6 0 [] [] 2000 [] = true := by decide +kernel
/-- MiceRegisters.readLine -/
def kcc451 : ak_C := (17, [.inl 0, .inl 13, .inr (false, [(-1, 60)]), .inr (false, [(12, 12)])], kch275, [24, 25, 26], [([[], [], [], []], some (.inr (false, [(-1, 60)])), kch40), ([[], [], [(1, 60)], []], some (.inr (false, [(-9, -9)])), kch42)])
theorem kck451 : ai_chk [kcc263] kcc451 (fun pc => sm_ch sm_t17 pc, sm_Kn 2 6 none, fun x => sm_lk sm_ca2 x, some .int) [24, 25, 26] 6 4 [29] [] 2000 [(29, [(0, .inl 0), (1, .inl 13), (2, .inr (false, [(-1, 60)])), (3, .inr (false, [(12, 12)])), (4, .inr (false, [(13, 13)]))], [], kch276),
  (29, [(0, .inl 0), (1, .inl 13), (2, .inr (false, [(1, 60)])), (3, .inr (false, [(12, 12)])), (4, .inr (false, [(14, 14)])), (5, .inr (false, [(-9, -9)]))], [], kch276),
  (29, [(0, .inl 0), (1, .inl 13), (2, .inr (false, [(1, 60)])), (3, .inr (false, [(12, 12)])), (4, .inr (false, [(15, 15)])), (5, .inr (false, [(-9, -9)]))], [], kch276),
  (29, [(0, .inl 0), (1, .inl 13), (2, .inr (false, [(1, 60)])), (3, .inr (false, [(12, 12)])), (4, .inr (false, [(16, 16)])), (5, .inr (false, [(-9, -9)]))], [], kch276)] = true := by decide +kernel
def kch365 : aw_H := [(13, kcx221)]
/-- MiceRegisters.faultOfFigure -/
def kcc452 : ak_C := (18, [.inl 13, .inr (false, [(-1, 60)]), .inr (false, [(13, 13)]), .inr (false, [(0, 0)]), .inr (false, [(0, 7)])], kch22, [], [([], some (.inr (false, [(-9, -9)])), kch365), ([], some (.inr (false, [(-1, 63)])), [])])
def kch366 : aw_H := [(13, kcx223)]
/-- MiceRegisters.faultOfFigure -/
def kcc453 : ak_C := (18, [.inl 13, .inr (false, [(-1, 60)]), .inr (false, [(14, 14)]), .inr (false, [(1, 1)]), .inr (false, [(9, 9)])], kch365, [], [([], some (.inr (false, [(-9, -9)])), kch366), ([], some (.inr (false, [(-1, 63)])), [])])
/-- MiceRegisters.readMouse -/
def kcc454 : ak_C := (19, [.inl 0, .inl 13, .inr (false, [(-1, 60)]), .inr (false, [(12, 12)])], kch274, [24, 29, 30, 31], [([], some (.inr (false, [(-1, 63)])), kch36), ([], some (.inr (false, [(-9, -9)])), kch38)])
theorem kck454 : ai_chk [kcc28, kcc452, kcc453] kcc454 (fun pc => sm_ch sm_t19 pc, sm_Kn 2 6 none, fun x => sm_lk sm_ca2 x, some .int) [24, 29, 30, 31] 6 0 [] [] 2000 [] = true := by decide +kernel
/-- MiceRegisters.readLine -/
def kcc455 : ak_C := (17, [.inl 0, .inl 13, .inr (false, [(-1, 60)]), .inr (false, [(11, 11)])], kch275, [24, 25, 26], [([[], [], [], []], some (.inr (false, [(-1, 60)])), kch40), ([[], [], [(1, 60)], []], some (.inr (false, [(-9, -9)])), kch42)])
theorem kck455 : ai_chk [kcc263] kcc455 (fun pc => sm_ch sm_t17 pc, sm_Kn 2 6 none, fun x => sm_lk sm_ca2 x, some .int) [24, 25, 26] 6 4 [29] [] 2000 [(29, [(0, .inl 0), (1, .inl 13), (2, .inr (false, [(-1, 60)])), (3, .inr (false, [(11, 11)])), (4, .inr (false, [(12, 12)]))], [], kch276),
  (29, [(0, .inl 0), (1, .inl 13), (2, .inr (false, [(1, 60)])), (3, .inr (false, [(11, 11)])), (4, .inr (false, [(13, 13)])), (5, .inr (false, [(-9, -9)]))], [], kch276),
  (29, [(0, .inl 0), (1, .inl 13), (2, .inr (false, [(1, 60)])), (3, .inr (false, [(11, 11)])), (4, .inr (false, [(14, 14)])), (5, .inr (false, [(-9, -9)]))], [], kch276),
  (29, [(0, .inl 0), (1, .inl 13), (2, .inr (false, [(1, 60)])), (3, .inr (false, [(11, 11)])), (4, .inr (false, [(15, 15)])), (5, .inr (false, [(-9, -9)]))], [], kch276)] = true := by decide +kernel
def kch367 : aw_H := [(13, kcx225)]
/-- MiceRegisters.faultOfFigure -/
def kcc456 : ak_C := (18, [.inl 13, .inr (false, [(-1, 60)]), .inr (false, [(12, 12)]), .inr (false, [(0, 0)]), .inr (false, [(0, 7)])], kch22, [], [([], some (.inr (false, [(-9, -9)])), kch367), ([], some (.inr (false, [(-1, 63)])), [])])
def kch368 : aw_H := [(13, kcx227)]
/-- MiceRegisters.faultOfFigure -/
def kcc457 : ak_C := (18, [.inl 13, .inr (false, [(-1, 60)]), .inr (false, [(13, 13)]), .inr (false, [(1, 1)]), .inr (false, [(9, 9)])], kch367, [], [([], some (.inr (false, [(-9, -9)])), kch368), ([], some (.inr (false, [(-1, 63)])), [])])
/-- MiceRegisters.readMouse -/
def kcc458 : ak_C := (19, [.inl 0, .inl 13, .inr (false, [(-1, 60)]), .inr (false, [(11, 11)])], kch274, [24, 29, 30, 31], [([], some (.inr (false, [(-1, 63)])), kch36), ([], some (.inr (false, [(-9, -9)])), kch38)])
theorem kck458 : ai_chk [kcc28, kcc456, kcc457] kcc458 (fun pc => sm_ch sm_t19 pc, sm_Kn 2 6 none, fun x => sm_lk sm_ca2 x, some .int) [24, 29, 30, 31] 6 0 [] [] 2000 [] = true := by decide +kernel
/-- MiceRegisters.readLine -/
def kcc459 : ak_C := (17, [.inl 0, .inl 13, .inr (false, [(-1, 60)]), .inr (false, [(10, 10)])], kch275, [24, 25, 26], [([[], [], [], []], some (.inr (false, [(-1, 60)])), kch40), ([[], [], [(1, 60)], []], some (.inr (false, [(-9, -9)])), kch42)])
theorem kck459 : ai_chk [kcc263] kcc459 (fun pc => sm_ch sm_t17 pc, sm_Kn 2 6 none, fun x => sm_lk sm_ca2 x, some .int) [24, 25, 26] 6 4 [29] [] 2000 [(29, [(0, .inl 0), (1, .inl 13), (2, .inr (false, [(-1, 60)])), (3, .inr (false, [(10, 10)])), (4, .inr (false, [(11, 11)]))], [], kch276),
  (29, [(0, .inl 0), (1, .inl 13), (2, .inr (false, [(1, 60)])), (3, .inr (false, [(10, 10)])), (4, .inr (false, [(12, 12)])), (5, .inr (false, [(-9, -9)]))], [], kch276),
  (29, [(0, .inl 0), (1, .inl 13), (2, .inr (false, [(1, 60)])), (3, .inr (false, [(10, 10)])), (4, .inr (false, [(13, 13)])), (5, .inr (false, [(-9, -9)]))], [], kch276),
  (29, [(0, .inl 0), (1, .inl 13), (2, .inr (false, [(1, 60)])), (3, .inr (false, [(10, 10)])), (4, .inr (false, [(14, 14)])), (5, .inr (false, [(-9, -9)]))], [], kch276)] = true := by decide +kernel
def kch369 : aw_H := [(13, kcx229)]
/-- MiceRegisters.faultOfFigure -/
def kcc460 : ak_C := (18, [.inl 13, .inr (false, [(-1, 60)]), .inr (false, [(11, 11)]), .inr (false, [(0, 0)]), .inr (false, [(0, 7)])], kch22, [], [([], some (.inr (false, [(-9, -9)])), kch369), ([], some (.inr (false, [(-1, 63)])), [])])
def kch370 : aw_H := [(13, kcx231)]
/-- MiceRegisters.faultOfFigure -/
def kcc461 : ak_C := (18, [.inl 13, .inr (false, [(-1, 60)]), .inr (false, [(12, 12)]), .inr (false, [(1, 1)]), .inr (false, [(9, 9)])], kch369, [], [([], some (.inr (false, [(-9, -9)])), kch370), ([], some (.inr (false, [(-1, 63)])), [])])
/-- MiceRegisters.readMouse -/
def kcc462 : ak_C := (19, [.inl 0, .inl 13, .inr (false, [(-1, 60)]), .inr (false, [(10, 10)])], kch274, [24, 29, 30, 31], [([], some (.inr (false, [(-1, 63)])), kch36), ([], some (.inr (false, [(-9, -9)])), kch38)])
theorem kck462 : ai_chk [kcc28, kcc460, kcc461] kcc462 (fun pc => sm_ch sm_t19 pc, sm_Kn 2 6 none, fun x => sm_lk sm_ca2 x, some .int) [24, 29, 30, 31] 6 0 [] [] 2000 [] = true := by decide +kernel
/-- MiceRegisters.readLine -/
def kcc463 : ak_C := (17, [.inl 0, .inl 13, .inr (false, [(-1, 60)]), .inr (false, [(9, 9)])], kch275, [24, 25, 26], [([[], [], [], []], some (.inr (false, [(-1, 60)])), kch40), ([[], [], [(1, 60)], []], some (.inr (false, [(-9, -9)])), kch42)])
theorem kck463 : ai_chk [kcc263] kcc463 (fun pc => sm_ch sm_t17 pc, sm_Kn 2 6 none, fun x => sm_lk sm_ca2 x, some .int) [24, 25, 26] 6 4 [29] [] 2000 [(29, [(0, .inl 0), (1, .inl 13), (2, .inr (false, [(-1, 60)])), (3, .inr (false, [(9, 9)])), (4, .inr (false, [(10, 10)]))], [], kch276),
  (29, [(0, .inl 0), (1, .inl 13), (2, .inr (false, [(1, 60)])), (3, .inr (false, [(9, 9)])), (4, .inr (false, [(11, 11)])), (5, .inr (false, [(-9, -9)]))], [], kch276),
  (29, [(0, .inl 0), (1, .inl 13), (2, .inr (false, [(1, 60)])), (3, .inr (false, [(9, 9)])), (4, .inr (false, [(12, 12)])), (5, .inr (false, [(-9, -9)]))], [], kch276),
  (29, [(0, .inl 0), (1, .inl 13), (2, .inr (false, [(1, 60)])), (3, .inr (false, [(9, 9)])), (4, .inr (false, [(13, 13)])), (5, .inr (false, [(-9, -9)]))], [], kch276)] = true := by decide +kernel
def kch371 : aw_H := [(13, kcx233)]
/-- MiceRegisters.faultOfFigure -/
def kcc464 : ak_C := (18, [.inl 13, .inr (false, [(-1, 60)]), .inr (false, [(10, 10)]), .inr (false, [(0, 0)]), .inr (false, [(0, 7)])], kch22, [], [([], some (.inr (false, [(-9, -9)])), kch371), ([], some (.inr (false, [(-1, 63)])), [])])
def kch372 : aw_H := [(13, kcx235)]
/-- MiceRegisters.faultOfFigure -/
def kcc465 : ak_C := (18, [.inl 13, .inr (false, [(-1, 60)]), .inr (false, [(11, 11)]), .inr (false, [(1, 1)]), .inr (false, [(9, 9)])], kch371, [], [([], some (.inr (false, [(-9, -9)])), kch372), ([], some (.inr (false, [(-1, 63)])), [])])
/-- MiceRegisters.readMouse -/
def kcc466 : ak_C := (19, [.inl 0, .inl 13, .inr (false, [(-1, 60)]), .inr (false, [(9, 9)])], kch274, [24, 29, 30, 31], [([], some (.inr (false, [(-1, 63)])), kch36), ([], some (.inr (false, [(-9, -9)])), kch38)])
theorem kck466 : ai_chk [kcc28, kcc464, kcc465] kcc466 (fun pc => sm_ch sm_t19 pc, sm_Kn 2 6 none, fun x => sm_lk sm_ca2 x, some .int) [24, 29, 30, 31] 6 0 [] [] 2000 [] = true := by decide +kernel
/-- MiceRegisters.readLine -/
def kcc467 : ak_C := (17, [.inl 0, .inl 13, .inr (false, [(-1, 60)]), .inr (false, [(8, 8)])], kch275, [24, 25, 26], [([[], [], [], []], some (.inr (false, [(-1, 60)])), kch40), ([[], [], [(1, 60)], []], some (.inr (false, [(-9, -9)])), kch42)])
theorem kck467 : ai_chk [kcc263] kcc467 (fun pc => sm_ch sm_t17 pc, sm_Kn 2 6 none, fun x => sm_lk sm_ca2 x, some .int) [24, 25, 26] 6 4 [29] [] 2000 [(29, [(0, .inl 0), (1, .inl 13), (2, .inr (false, [(-1, 60)])), (3, .inr (false, [(8, 8)])), (4, .inr (false, [(9, 9)]))], [], kch276),
  (29, [(0, .inl 0), (1, .inl 13), (2, .inr (false, [(1, 60)])), (3, .inr (false, [(8, 8)])), (4, .inr (false, [(10, 10)])), (5, .inr (false, [(-9, -9)]))], [], kch276),
  (29, [(0, .inl 0), (1, .inl 13), (2, .inr (false, [(1, 60)])), (3, .inr (false, [(8, 8)])), (4, .inr (false, [(11, 11)])), (5, .inr (false, [(-9, -9)]))], [], kch276),
  (29, [(0, .inl 0), (1, .inl 13), (2, .inr (false, [(1, 60)])), (3, .inr (false, [(8, 8)])), (4, .inr (false, [(12, 12)])), (5, .inr (false, [(-9, -9)]))], [], kch276)] = true := by decide +kernel
def kch373 : aw_H := [(13, kcx237)]
/-- MiceRegisters.faultOfFigure -/
def kcc468 : ak_C := (18, [.inl 13, .inr (false, [(-1, 60)]), .inr (false, [(9, 9)]), .inr (false, [(0, 0)]), .inr (false, [(0, 7)])], kch22, [], [([], some (.inr (false, [(-9, -9)])), kch373), ([], some (.inr (false, [(-1, 63)])), [])])
def kch374 : aw_H := [(13, kcx239)]
/-- MiceRegisters.faultOfFigure -/
def kcc469 : ak_C := (18, [.inl 13, .inr (false, [(-1, 60)]), .inr (false, [(10, 10)]), .inr (false, [(1, 1)]), .inr (false, [(9, 9)])], kch373, [], [([], some (.inr (false, [(-9, -9)])), kch374), ([], some (.inr (false, [(-1, 63)])), [])])
/-- MiceRegisters.readMouse -/
def kcc470 : ak_C := (19, [.inl 0, .inl 13, .inr (false, [(-1, 60)]), .inr (false, [(8, 8)])], kch274, [24, 29, 30, 31], [([], some (.inr (false, [(-1, 63)])), kch36), ([], some (.inr (false, [(-9, -9)])), kch38)])
theorem kck470 : ai_chk [kcc28, kcc468, kcc469] kcc470 (fun pc => sm_ch sm_t19 pc, sm_Kn 2 6 none, fun x => sm_lk sm_ca2 x, some .int) [24, 29, 30, 31] 6 0 [] [] 2000 [] = true := by decide +kernel
/-- MiceRegisters.readLine -/
def kcc471 : ak_C := (17, [.inl 0, .inl 13, .inr (false, [(-1, 60)]), .inr (false, [(7, 7)])], kch275, [24, 25, 26], [([[], [], [], []], some (.inr (false, [(-1, 60)])), kch40), ([[], [], [(1, 60)], []], some (.inr (false, [(-9, -9)])), kch42)])
theorem kck471 : ai_chk [kcc263] kcc471 (fun pc => sm_ch sm_t17 pc, sm_Kn 2 6 none, fun x => sm_lk sm_ca2 x, some .int) [24, 25, 26] 6 4 [29] [] 2000 [(29, [(0, .inl 0), (1, .inl 13), (2, .inr (false, [(-1, 60)])), (3, .inr (false, [(7, 7)])), (4, .inr (false, [(8, 8)]))], [], kch276),
  (29, [(0, .inl 0), (1, .inl 13), (2, .inr (false, [(1, 60)])), (3, .inr (false, [(7, 7)])), (4, .inr (false, [(9, 9)])), (5, .inr (false, [(-9, -9)]))], [], kch276),
  (29, [(0, .inl 0), (1, .inl 13), (2, .inr (false, [(1, 60)])), (3, .inr (false, [(7, 7)])), (4, .inr (false, [(10, 10)])), (5, .inr (false, [(-9, -9)]))], [], kch276),
  (29, [(0, .inl 0), (1, .inl 13), (2, .inr (false, [(1, 60)])), (3, .inr (false, [(7, 7)])), (4, .inr (false, [(11, 11)])), (5, .inr (false, [(-9, -9)]))], [], kch276)] = true := by decide +kernel
def kch375 : aw_H := [(13, kcx241)]
/-- MiceRegisters.faultOfFigure -/
def kcc472 : ak_C := (18, [.inl 13, .inr (false, [(-1, 60)]), .inr (false, [(8, 8)]), .inr (false, [(0, 0)]), .inr (false, [(0, 7)])], kch22, [], [([], some (.inr (false, [(-9, -9)])), kch375), ([], some (.inr (false, [(-1, 63)])), [])])
def kch376 : aw_H := [(13, kcx243)]
/-- MiceRegisters.faultOfFigure -/
def kcc473 : ak_C := (18, [.inl 13, .inr (false, [(-1, 60)]), .inr (false, [(9, 9)]), .inr (false, [(1, 1)]), .inr (false, [(9, 9)])], kch375, [], [([], some (.inr (false, [(-9, -9)])), kch376), ([], some (.inr (false, [(-1, 63)])), [])])
/-- MiceRegisters.readMouse -/
def kcc474 : ak_C := (19, [.inl 0, .inl 13, .inr (false, [(-1, 60)]), .inr (false, [(7, 7)])], kch274, [24, 29, 30, 31], [([], some (.inr (false, [(-1, 63)])), kch36), ([], some (.inr (false, [(-9, -9)])), kch38)])
theorem kck474 : ai_chk [kcc28, kcc472, kcc473] kcc474 (fun pc => sm_ch sm_t19 pc, sm_Kn 2 6 none, fun x => sm_lk sm_ca2 x, some .int) [24, 29, 30, 31] 6 0 [] [] 2000 [] = true := by decide +kernel
/-- MiceRegisters.readLine -/
def kcc475 : ak_C := (17, [.inl 0, .inl 13, .inr (false, [(-1, 60)]), .inr (false, [(6, 6)])], kch275, [24, 25, 26], [([[], [], [], []], some (.inr (false, [(-1, 60)])), kch40), ([[], [], [(1, 60)], []], some (.inr (false, [(-9, -9)])), kch42)])
theorem kck475 : ai_chk [kcc263] kcc475 (fun pc => sm_ch sm_t17 pc, sm_Kn 2 6 none, fun x => sm_lk sm_ca2 x, some .int) [24, 25, 26] 6 4 [29] [] 2000 [(29, [(0, .inl 0), (1, .inl 13), (2, .inr (false, [(-1, 60)])), (3, .inr (false, [(6, 6)])), (4, .inr (false, [(7, 7)]))], [], kch276),
  (29, [(0, .inl 0), (1, .inl 13), (2, .inr (false, [(1, 60)])), (3, .inr (false, [(6, 6)])), (4, .inr (false, [(8, 8)])), (5, .inr (false, [(-9, -9)]))], [], kch276),
  (29, [(0, .inl 0), (1, .inl 13), (2, .inr (false, [(1, 60)])), (3, .inr (false, [(6, 6)])), (4, .inr (false, [(9, 9)])), (5, .inr (false, [(-9, -9)]))], [], kch276),
  (29, [(0, .inl 0), (1, .inl 13), (2, .inr (false, [(1, 60)])), (3, .inr (false, [(6, 6)])), (4, .inr (false, [(10, 10)])), (5, .inr (false, [(-9, -9)]))], [], kch276)] = true := by decide +kernel
def kch377 : aw_H := [(13, kcx245)]
/-- MiceRegisters.faultOfFigure -/
def kcc476 : ak_C := (18, [.inl 13, .inr (false, [(-1, 60)]), .inr (false, [(7, 7)]), .inr (false, [(0, 0)]), .inr (false, [(0, 7)])], kch22, [], [([], some (.inr (false, [(-9, -9)])), kch377), ([], some (.inr (false, [(-1, 63)])), [])])
def kch378 : aw_H := [(13, kcx247)]
/-- MiceRegisters.faultOfFigure -/
def kcc477 : ak_C := (18, [.inl 13, .inr (false, [(-1, 60)]), .inr (false, [(8, 8)]), .inr (false, [(1, 1)]), .inr (false, [(9, 9)])], kch377, [], [([], some (.inr (false, [(-9, -9)])), kch378), ([], some (.inr (false, [(-1, 63)])), [])])
/-- MiceRegisters.readMouse -/
def kcc478 : ak_C := (19, [.inl 0, .inl 13, .inr (false, [(-1, 60)]), .inr (false, [(6, 6)])], kch274, [24, 29, 30, 31], [([], some (.inr (false, [(-1, 63)])), kch36), ([], some (.inr (false, [(-9, -9)])), kch38)])
theorem kck478 : ai_chk [kcc28, kcc476, kcc477] kcc478 (fun pc => sm_ch sm_t19 pc, sm_Kn 2 6 none, fun x => sm_lk sm_ca2 x, some .int) [24, 29, 30, 31] 6 0 [] [] 2000 [] = true := by decide +kernel
/-- MiceRegisters.readLine -/
def kcc479 : ak_C := (17, [.inl 0, .inl 13, .inr (false, [(-1, 60)]), .inr (false, [(5, 5)])], kch275, [24, 25, 26], [([[], [], [], []], some (.inr (false, [(-1, 60)])), kch40), ([[], [], [(1, 60)], []], some (.inr (false, [(-9, -9)])), kch42)])
theorem kck479 : ai_chk [kcc263] kcc479 (fun pc => sm_ch sm_t17 pc, sm_Kn 2 6 none, fun x => sm_lk sm_ca2 x, some .int) [24, 25, 26] 6 4 [29] [] 2000 [(29, [(0, .inl 0), (1, .inl 13), (2, .inr (false, [(-1, 60)])), (3, .inr (false, [(5, 5)])), (4, .inr (false, [(6, 6)]))], [], kch276),
  (29, [(0, .inl 0), (1, .inl 13), (2, .inr (false, [(1, 60)])), (3, .inr (false, [(5, 5)])), (4, .inr (false, [(7, 7)])), (5, .inr (false, [(-9, -9)]))], [], kch276),
  (29, [(0, .inl 0), (1, .inl 13), (2, .inr (false, [(1, 60)])), (3, .inr (false, [(5, 5)])), (4, .inr (false, [(8, 8)])), (5, .inr (false, [(-9, -9)]))], [], kch276),
  (29, [(0, .inl 0), (1, .inl 13), (2, .inr (false, [(1, 60)])), (3, .inr (false, [(5, 5)])), (4, .inr (false, [(9, 9)])), (5, .inr (false, [(-9, -9)]))], [], kch276)] = true := by decide +kernel
def kch379 : aw_H := [(13, kcx249)]
/-- MiceRegisters.faultOfFigure -/
def kcc480 : ak_C := (18, [.inl 13, .inr (false, [(-1, 60)]), .inr (false, [(6, 6)]), .inr (false, [(0, 0)]), .inr (false, [(0, 7)])], kch22, [], [([], some (.inr (false, [(-9, -9)])), kch379), ([], some (.inr (false, [(-1, 63)])), [])])
def kch380 : aw_H := [(13, kcx251)]
/-- MiceRegisters.faultOfFigure -/
def kcc481 : ak_C := (18, [.inl 13, .inr (false, [(-1, 60)]), .inr (false, [(7, 7)]), .inr (false, [(1, 1)]), .inr (false, [(9, 9)])], kch379, [], [([], some (.inr (false, [(-9, -9)])), kch380), ([], some (.inr (false, [(-1, 63)])), [])])
/-- MiceRegisters.readMouse -/
def kcc482 : ak_C := (19, [.inl 0, .inl 13, .inr (false, [(-1, 60)]), .inr (false, [(5, 5)])], kch274, [24, 29, 30, 31], [([], some (.inr (false, [(-1, 63)])), kch36), ([], some (.inr (false, [(-9, -9)])), kch38)])
theorem kck482 : ai_chk [kcc28, kcc480, kcc481] kcc482 (fun pc => sm_ch sm_t19 pc, sm_Kn 2 6 none, fun x => sm_lk sm_ca2 x, some .int) [24, 29, 30, 31] 6 0 [] [] 2000 [] = true := by decide +kernel
/-- MiceRegisters.readLine -/
def kcc483 : ak_C := (17, [.inl 0, .inl 13, .inr (false, [(-1, 60)]), .inr (false, [(4, 4)])], kch275, [24, 25, 26], [([[], [], [], []], some (.inr (false, [(-1, 60)])), kch40), ([[], [], [(1, 60)], []], some (.inr (false, [(-9, -9)])), kch42)])
theorem kck483 : ai_chk [kcc263] kcc483 (fun pc => sm_ch sm_t17 pc, sm_Kn 2 6 none, fun x => sm_lk sm_ca2 x, some .int) [24, 25, 26] 6 4 [29] [] 2000 [(29, [(0, .inl 0), (1, .inl 13), (2, .inr (false, [(-1, 60)])), (3, .inr (false, [(4, 4)])), (4, .inr (false, [(5, 5)]))], [], kch276),
  (29, [(0, .inl 0), (1, .inl 13), (2, .inr (false, [(1, 60)])), (3, .inr (false, [(4, 4)])), (4, .inr (false, [(6, 6)])), (5, .inr (false, [(-9, -9)]))], [], kch276),
  (29, [(0, .inl 0), (1, .inl 13), (2, .inr (false, [(1, 60)])), (3, .inr (false, [(4, 4)])), (4, .inr (false, [(7, 7)])), (5, .inr (false, [(-9, -9)]))], [], kch276),
  (29, [(0, .inl 0), (1, .inl 13), (2, .inr (false, [(1, 60)])), (3, .inr (false, [(4, 4)])), (4, .inr (false, [(8, 8)])), (5, .inr (false, [(-9, -9)]))], [], kch276)] = true := by decide +kernel
def kch381 : aw_H := [(13, kcx253)]
/-- MiceRegisters.faultOfFigure -/
def kcc484 : ak_C := (18, [.inl 13, .inr (false, [(-1, 60)]), .inr (false, [(5, 5)]), .inr (false, [(0, 0)]), .inr (false, [(0, 7)])], kch22, [], [([], some (.inr (false, [(-9, -9)])), kch381), ([], some (.inr (false, [(-1, 63)])), [])])
def kch382 : aw_H := [(13, kcx255)]
/-- MiceRegisters.faultOfFigure -/
def kcc485 : ak_C := (18, [.inl 13, .inr (false, [(-1, 60)]), .inr (false, [(6, 6)]), .inr (false, [(1, 1)]), .inr (false, [(9, 9)])], kch381, [], [([], some (.inr (false, [(-9, -9)])), kch382), ([], some (.inr (false, [(-1, 63)])), [])])
/-- MiceRegisters.readMouse -/
def kcc486 : ak_C := (19, [.inl 0, .inl 13, .inr (false, [(-1, 60)]), .inr (false, [(4, 4)])], kch274, [24, 29, 30, 31], [([], some (.inr (false, [(-1, 63)])), kch36), ([], some (.inr (false, [(-9, -9)])), kch38)])
theorem kck486 : ai_chk [kcc28, kcc484, kcc485] kcc486 (fun pc => sm_ch sm_t19 pc, sm_Kn 2 6 none, fun x => sm_lk sm_ca2 x, some .int) [24, 29, 30, 31] 6 0 [] [] 2000 [] = true := by decide +kernel
/-- MiceRegisters.readLine -/
def kcc487 : ak_C := (17, [.inl 0, .inl 13, .inr (false, [(-1, 60)]), .inr (false, [(3, 3)])], kch275, [24, 25, 26], [([[], [], [], []], some (.inr (false, [(-1, 60)])), kch40), ([[], [], [(1, 60)], []], some (.inr (false, [(-9, -9)])), kch42)])
theorem kck487 : ai_chk [kcc263] kcc487 (fun pc => sm_ch sm_t17 pc, sm_Kn 2 6 none, fun x => sm_lk sm_ca2 x, some .int) [24, 25, 26] 6 4 [29] [] 2000 [(29, [(0, .inl 0), (1, .inl 13), (2, .inr (false, [(-1, 60)])), (3, .inr (false, [(3, 3)])), (4, .inr (false, [(4, 4)]))], [], kch276),
  (29, [(0, .inl 0), (1, .inl 13), (2, .inr (false, [(1, 60)])), (3, .inr (false, [(3, 3)])), (4, .inr (false, [(5, 5)])), (5, .inr (false, [(-9, -9)]))], [], kch276),
  (29, [(0, .inl 0), (1, .inl 13), (2, .inr (false, [(1, 60)])), (3, .inr (false, [(3, 3)])), (4, .inr (false, [(6, 6)])), (5, .inr (false, [(-9, -9)]))], [], kch276),
  (29, [(0, .inl 0), (1, .inl 13), (2, .inr (false, [(1, 60)])), (3, .inr (false, [(3, 3)])), (4, .inr (false, [(7, 7)])), (5, .inr (false, [(-9, -9)]))], [], kch276)] = true := by decide +kernel
def kch383 : aw_H := [(13, kcx257)]
/-- MiceRegisters.faultOfFigure -/
def kcc488 : ak_C := (18, [.inl 13, .inr (false, [(-1, 60)]), .inr (false, [(4, 4)]), .inr (false, [(0, 0)]), .inr (false, [(0, 7)])], kch22, [], [([], some (.inr (false, [(-9, -9)])), kch383), ([], some (.inr (false, [(-1, 63)])), [])])
def kch384 : aw_H := [(13, kcx259)]
/-- MiceRegisters.faultOfFigure -/
def kcc489 : ak_C := (18, [.inl 13, .inr (false, [(-1, 60)]), .inr (false, [(5, 5)]), .inr (false, [(1, 1)]), .inr (false, [(9, 9)])], kch383, [], [([], some (.inr (false, [(-9, -9)])), kch384), ([], some (.inr (false, [(-1, 63)])), [])])
/-- MiceRegisters.readMouse -/
def kcc490 : ak_C := (19, [.inl 0, .inl 13, .inr (false, [(-1, 60)]), .inr (false, [(3, 3)])], kch274, [24, 29, 30, 31], [([], some (.inr (false, [(-1, 63)])), kch36), ([], some (.inr (false, [(-9, -9)])), kch38)])
theorem kck490 : ai_chk [kcc28, kcc488, kcc489] kcc490 (fun pc => sm_ch sm_t19 pc, sm_Kn 2 6 none, fun x => sm_lk sm_ca2 x, some .int) [24, 29, 30, 31] 6 0 [] [] 2000 [] = true := by decide +kernel
/-- MiceRegisters.readLine -/
def kcc491 : ak_C := (17, [.inl 0, .inl 13, .inr (false, [(-1, 60)]), .inr (false, [(2, 2)])], kch275, [24, 25, 26], [([[], [], [], []], some (.inr (false, [(-1, 60)])), kch40), ([[], [], [(1, 60)], []], some (.inr (false, [(-9, -9)])), kch42)])
theorem kck491 : ai_chk [kcc263] kcc491 (fun pc => sm_ch sm_t17 pc, sm_Kn 2 6 none, fun x => sm_lk sm_ca2 x, some .int) [24, 25, 26] 6 4 [29] [] 2000 [(29, [(0, .inl 0), (1, .inl 13), (2, .inr (false, [(-1, 60)])), (3, .inr (false, [(2, 2)])), (4, .inr (false, [(3, 3)]))], [], kch276),
  (29, [(0, .inl 0), (1, .inl 13), (2, .inr (false, [(1, 60)])), (3, .inr (false, [(2, 2)])), (4, .inr (false, [(4, 4)])), (5, .inr (false, [(-9, -9)]))], [], kch276),
  (29, [(0, .inl 0), (1, .inl 13), (2, .inr (false, [(1, 60)])), (3, .inr (false, [(2, 2)])), (4, .inr (false, [(5, 5)])), (5, .inr (false, [(-9, -9)]))], [], kch276),
  (29, [(0, .inl 0), (1, .inl 13), (2, .inr (false, [(1, 60)])), (3, .inr (false, [(2, 2)])), (4, .inr (false, [(6, 6)])), (5, .inr (false, [(-9, -9)]))], [], kch276)] = true := by decide +kernel
def kch385 : aw_H := [(13, kcx261)]
/-- MiceRegisters.faultOfFigure -/
def kcc492 : ak_C := (18, [.inl 13, .inr (false, [(-1, 60)]), .inr (false, [(3, 3)]), .inr (false, [(0, 0)]), .inr (false, [(0, 7)])], kch22, [], [([], some (.inr (false, [(-9, -9)])), kch385), ([], some (.inr (false, [(-1, 63)])), [])])
def kch386 : aw_H := [(13, kcx263)]
/-- MiceRegisters.faultOfFigure -/
def kcc493 : ak_C := (18, [.inl 13, .inr (false, [(-1, 60)]), .inr (false, [(4, 4)]), .inr (false, [(1, 1)]), .inr (false, [(9, 9)])], kch385, [], [([], some (.inr (false, [(-9, -9)])), kch386), ([], some (.inr (false, [(-1, 63)])), [])])
/-- MiceRegisters.readMouse -/
def kcc494 : ak_C := (19, [.inl 0, .inl 13, .inr (false, [(-1, 60)]), .inr (false, [(2, 2)])], kch274, [24, 29, 30, 31], [([], some (.inr (false, [(-1, 63)])), kch36), ([], some (.inr (false, [(-9, -9)])), kch38)])
theorem kck494 : ai_chk [kcc28, kcc492, kcc493] kcc494 (fun pc => sm_ch sm_t19 pc, sm_Kn 2 6 none, fun x => sm_lk sm_ca2 x, some .int) [24, 29, 30, 31] 6 0 [] [] 2000 [] = true := by decide +kernel
/-- MiceRegisters.readLine -/
def kcc495 : ak_C := (17, [.inl 0, .inl 13, .inr (false, [(-1, 60)]), .inr (false, [(1, 1)])], kch275, [24, 25, 26], [([[], [], [], []], some (.inr (false, [(-1, 60)])), kch40), ([[], [], [(1, 60)], []], some (.inr (false, [(-9, -9)])), kch42)])
theorem kck495 : ai_chk [kcc263] kcc495 (fun pc => sm_ch sm_t17 pc, sm_Kn 2 6 none, fun x => sm_lk sm_ca2 x, some .int) [24, 25, 26] 6 4 [29] [] 2000 [(29, [(0, .inl 0), (1, .inl 13), (2, .inr (false, [(-1, 60)])), (3, .inr (false, [(1, 1)])), (4, .inr (false, [(2, 2)]))], [], kch276),
  (29, [(0, .inl 0), (1, .inl 13), (2, .inr (false, [(1, 60)])), (3, .inr (false, [(1, 1)])), (4, .inr (false, [(3, 3)])), (5, .inr (false, [(-9, -9)]))], [], kch276),
  (29, [(0, .inl 0), (1, .inl 13), (2, .inr (false, [(1, 60)])), (3, .inr (false, [(1, 1)])), (4, .inr (false, [(4, 4)])), (5, .inr (false, [(-9, -9)]))], [], kch276),
  (29, [(0, .inl 0), (1, .inl 13), (2, .inr (false, [(1, 60)])), (3, .inr (false, [(1, 1)])), (4, .inr (false, [(5, 5)])), (5, .inr (false, [(-9, -9)]))], [], kch276)] = true := by decide +kernel
def kch387 : aw_H := [(13, kcx265)]
/-- MiceRegisters.faultOfFigure -/
def kcc496 : ak_C := (18, [.inl 13, .inr (false, [(-1, 60)]), .inr (false, [(2, 2)]), .inr (false, [(0, 0)]), .inr (false, [(0, 7)])], kch22, [], [([], some (.inr (false, [(-9, -9)])), kch387), ([], some (.inr (false, [(-1, 63)])), [])])
def kch388 : aw_H := [(13, kcx267)]
/-- MiceRegisters.faultOfFigure -/
def kcc497 : ak_C := (18, [.inl 13, .inr (false, [(-1, 60)]), .inr (false, [(3, 3)]), .inr (false, [(1, 1)]), .inr (false, [(9, 9)])], kch387, [], [([], some (.inr (false, [(-9, -9)])), kch388), ([], some (.inr (false, [(-1, 63)])), [])])
/-- MiceRegisters.readMouse -/
def kcc498 : ak_C := (19, [.inl 0, .inl 13, .inr (false, [(-1, 60)]), .inr (false, [(1, 1)])], kch274, [24, 29, 30, 31], [([], some (.inr (false, [(-1, 63)])), kch36), ([], some (.inr (false, [(-9, -9)])), kch38)])
theorem kck498 : ai_chk [kcc28, kcc496, kcc497] kcc498 (fun pc => sm_ch sm_t19 pc, sm_Kn 2 6 none, fun x => sm_lk sm_ca2 x, some .int) [24, 29, 30, 31] 6 0 [] [] 2000 [] = true := by decide +kernel
/-- MiceRegisters.faultOfFigure -/
def kcc499 : ak_C := (18, [.inl 12, .inr (false, [(-1, 60)]), .inr (false, [(0, 63)]), .inr (false, ar_t32), .inr (false, ar_t32)], kch23, [], [([[], [], [], [], []], some (.inr (false, [(-1, 60)])), []), ([[], [(1, 60)], [(0, 59)], [], []], some (.inr (false, [(-9, -9)])), [])])
theorem kck499 : ai_chk [] kcc499 (fun pc => sm_ch sm_t18 pc, sm_Kn 2 6 none, fun x => sm_lk sm_ca2 x, some .int) [] 6 5 [] [] 2000 [] = true := by decide +kernel
/-- MiceRegisters.readLine -/
def kch389 : aw_H := [(0, kcx2), (12, .inr (.inl (1, 60, [], []))), (24, kcx25)]
def kcc500 : ak_C := (17, [.inl 0, .inl 12, .inr (false, [(-1, 60)]), .inr (false, [(59, 59)])], kch389, [], [([], some (.inr (false, [(-1, 60)])), [])])
def kch390 : aw_H := [(0, kcx2), (12, .inr (.inl (1, 60, [], []))), (24, kcx27)]
theorem kck500 : ai_chk [kcc499] kcc500 (fun pc => sm_ch sm_t17 pc, sm_Kn 2 6 none, fun x => sm_lk sm_ca2 x, some .int) [] 6 0 [29] [] 2000 [(29, [(0, .inl 0), (1, .inl 12), (2, .inr (false, [(-1, 60)])), (3, .inr (false, [(59, 59)])), (4, .inr (false, [(60, 60)]))], [], kch390)] = true := by decide +kernel
/-- MiceRegisters.faultOfFigure -/
def kcc501 : ak_C := (18, [.inl 12, .inr (false, [(-1, 60)]), .inr (false, [(60, 60)]), .inr (false, [(0, 0)]), .inr (false, [(0, 7)])], kch23, [], [([], some (.inr (false, [(-1, 63)])), [])])
/-- MiceRegisters.readMouse -/
def kcc502 : ak_C := (19, [.inl 0, .inl 12, .inr (false, [(-1, 60)]), .inr (false, [(59, 59)])], kch389, [], [([], some (.inr (false, [(-1, 63)])), [])])
theorem kck502 : ai_chk [kcc28, kcc501] kcc502 (fun pc => sm_ch sm_t19 pc, sm_Kn 2 6 none, fun x => sm_lk sm_ca2 x, some .int) [] 6 0 [] [] 2000 [] = true := by decide +kernel
/-- MiceRegisters.readLine -/
def kcc503 : ak_C := (17, [.inl 0, .inl 12, .inr (false, [(-1, 60)]), .inr (false, [(58, 58)])], kch389, [], [([], some (.inr (false, [(-1, 60)])), [])])
theorem kck503 : ai_chk [kcc499] kcc503 (fun pc => sm_ch sm_t17 pc, sm_Kn 2 6 none, fun x => sm_lk sm_ca2 x, some .int) [] 6 0 [29] [] 2000 [(29, [(0, .inl 0), (1, .inl 12), (2, .inr (false, [(-1, 60)])), (3, .inr (false, [(58, 58)])), (4, .inr (false, [(59, 59)]))], [], kch390),
  (29, [(0, .inl 0), (1, .inl 12), (2, .inr (false, [(1, 60)])), (3, .inr (false, [(58, 58)])), (4, .inr (false, [(60, 60)])), (5, .inr (false, [(-9, -9)]))], [], kch390)] = true := by decide +kernel
def kch391 : aw_H := [(12, kcx29)]
/-- MiceRegisters.faultOfFigure -/
def kcc504 : ak_C := (18, [.inl 12, .inr (false, [(-1, 60)]), .inr (false, [(59, 59)]), .inr (false, [(0, 0)]), .inr (false, [(0, 7)])], kch23, [], [([], some (.inr (false, [(-9, -9)])), kch391), ([], some (.inr (false, [(-1, 63)])), [])])
/-- MiceRegisters.faultOfFigure -/
def kcc505 : ak_C := (18, [.inl 12, .inr (false, [(-1, 60)]), .inr (false, [(60, 60)]), .inr (false, [(1, 1)]), .inr (false, [(9, 9)])], kch391, [], [([], some (.inr (false, [(-1, 63)])), [])])
/-- MiceRegisters.readMouse -/
def kcc506 : ak_C := (19, [.inl 0, .inl 12, .inr (false, [(-1, 60)]), .inr (false, [(58, 58)])], kch389, [], [([], some (.inr (false, [(-1, 63)])), [])])
theorem kck506 : ai_chk [kcc28, kcc504, kcc505] kcc506 (fun pc => sm_ch sm_t19 pc, sm_Kn 2 6 none, fun x => sm_lk sm_ca2 x, some .int) [] 6 0 [] [] 2000 [] = true := by decide +kernel
