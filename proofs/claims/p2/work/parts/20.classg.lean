/-! Contracts over ranges of the class, and their checks; printed by a program of mine. -/
/-- MiceRegisters.readLine -/
def kcc507 : ak_C := (17, [.inl 0, .inl 12, .inr (false, [(-1, 60)]), .inr (false, [(57, 57)])], kch389, [], [([], some (.inr (false, [(-1, 60)])), [])])
theorem kck507 : ai_chk [kcc499] kcc507 (fun pc => sm_ch sm_t17 pc, sm_Kn 2 6 none, fun x => sm_lk sm_ca2 x, some .int) [] 6 0 [29] [] 2000 [(29, [(0, .inl 0), (1, .inl 12), (2, .inr (false, [(-1, 60)])), (3, .inr (false, [(57, 57)])), (4, .inr (false, [(58, 58)]))], [], kch390),
  (29, [(0, .inl 0), (1, .inl 12), (2, .inr (false, [(1, 60)])), (3, .inr (false, [(57, 57)])), (4, .inr (false, [(59, 59)])), (5, .inr (false, [(-9, -9)]))], [], kch390),
  (29, [(0, .inl 0), (1, .inl 12), (2, .inr (false, [(1, 60)])), (3, .inr (false, [(57, 57)])), (4, .inr (false, [(60, 60)])), (5, .inr (false, [(-9, -9)]))], [], kch390)] = true := by decide +kernel
def kch392 : aw_H := [(12, kcx31)]
/-- MiceRegisters.faultOfFigure -/
def kcc508 : ak_C := (18, [.inl 12, .inr (false, [(-1, 60)]), .inr (false, [(58, 58)]), .inr (false, [(0, 0)]), .inr (false, [(0, 7)])], kch23, [], [([], some (.inr (false, [(-9, -9)])), kch392), ([], some (.inr (false, [(-1, 63)])), [])])
def kch393 : aw_H := [(12, kcx33)]
/-- MiceRegisters.faultOfFigure -/
def kcc509 : ak_C := (18, [.inl 12, .inr (false, [(-1, 60)]), .inr (false, [(59, 59)]), .inr (false, [(1, 1)]), .inr (false, [(9, 9)])], kch392, [], [([], some (.inr (false, [(-9, -9)])), kch393), ([], some (.inr (false, [(-1, 63)])), [])])
/-- MiceRegisters.readMouse -/
def kch394 : aw_H := [(0, kcx2), (12, .inr (.inl (1, 60, [], []))), (24, kcx25), (29, .inr (.inl (0, 4, [], []))), (30, .inr (.inl (0, 4, [], []))), (31, kcx35)]
def kcc510 : ak_C := (19, [.inl 0, .inl 12, .inr (false, [(-1, 60)]), .inr (false, [(57, 57)])], kch394, [24, 29, 30, 31], [([], some (.inr (false, [(-1, 63)])), kch36), ([], some (.inr (false, [(-9, -9)])), kch38)])
theorem kck510 : ai_chk [kcc28, kcc508, kcc509] kcc510 (fun pc => sm_ch sm_t19 pc, sm_Kn 2 6 none, fun x => sm_lk sm_ca2 x, some .int) [24, 29, 30, 31] 6 0 [] [] 2000 [] = true := by decide +kernel
/-- MiceRegisters.readLine -/
def kch395 : aw_H := [(0, kcx2), (12, .inr (.inl (1, 60, [], []))), (24, kcx25), (25, .inr (.inl (0, 8, [], []))), (26, .inr (.inl (0, 8, [], [])))]
def kcc511 : ak_C := (17, [.inl 0, .inl 12, .inr (false, [(-1, 60)]), .inr (false, [(56, 56)])], kch395, [24, 25, 26], [([[], [], [], []], some (.inr (false, [(-1, 60)])), kch40), ([[], [], [(1, 60)], []], some (.inr (false, [(-9, -9)])), kch42)])
def kch396 : aw_H := [(0, kcx2), (12, .inr (.inl (1, 60, [], []))), (24, kcx27), (25, .inr (.inl (0, 8, [], []))), (26, .inr (.inl (0, 8, [], [])))]
theorem kck511 : ai_chk [kcc499] kcc511 (fun pc => sm_ch sm_t17 pc, sm_Kn 2 6 none, fun x => sm_lk sm_ca2 x, some .int) [24, 25, 26] 6 4 [29] [] 2000 [(29, [(0, .inl 0), (1, .inl 12), (2, .inr (false, [(-1, 60)])), (3, .inr (false, [(56, 56)])), (4, .inr (false, [(57, 57)]))], [], kch396),
  (29, [(0, .inl 0), (1, .inl 12), (2, .inr (false, [(1, 60)])), (3, .inr (false, [(56, 56)])), (4, .inr (false, [(58, 58)])), (5, .inr (false, [(-9, -9)]))], [], kch396),
  (29, [(0, .inl 0), (1, .inl 12), (2, .inr (false, [(1, 60)])), (3, .inr (false, [(56, 56)])), (4, .inr (false, [(59, 59)])), (5, .inr (false, [(-9, -9)]))], [], kch396),
  (29, [(0, .inl 0), (1, .inl 12), (2, .inr (false, [(1, 60)])), (3, .inr (false, [(56, 56)])), (4, .inr (false, [(60, 60)])), (5, .inr (false, [(-9, -9)]))], [], kch396)] = true := by decide +kernel
def kch397 : aw_H := [(12, kcx45)]
/-- MiceRegisters.faultOfFigure -/
def kcc512 : ak_C := (18, [.inl 12, .inr (false, [(-1, 60)]), .inr (false, [(57, 57)]), .inr (false, [(0, 0)]), .inr (false, [(0, 7)])], kch23, [], [([], some (.inr (false, [(-9, -9)])), kch397), ([], some (.inr (false, [(-1, 63)])), [])])
def kch398 : aw_H := [(12, kcx47)]
/-- MiceRegisters.faultOfFigure -/
def kcc513 : ak_C := (18, [.inl 12, .inr (false, [(-1, 60)]), .inr (false, [(58, 58)]), .inr (false, [(1, 1)]), .inr (false, [(9, 9)])], kch397, [], [([], some (.inr (false, [(-9, -9)])), kch398), ([], some (.inr (false, [(-1, 63)])), [])])
/-- MiceRegisters.readMouse -/
def kcc514 : ak_C := (19, [.inl 0, .inl 12, .inr (false, [(-1, 60)]), .inr (false, [(56, 56)])], kch394, [24, 29, 30, 31], [([], some (.inr (false, [(-1, 63)])), kch36), ([], some (.inr (false, [(-9, -9)])), kch38)])
theorem kck514 : ai_chk [kcc28, kcc512, kcc513] kcc514 (fun pc => sm_ch sm_t19 pc, sm_Kn 2 6 none, fun x => sm_lk sm_ca2 x, some .int) [24, 29, 30, 31] 6 0 [] [] 2000 [] = true := by decide +kernel
/-- MiceRegisters.readLine -/
def kcc515 : ak_C := (17, [.inl 0, .inl 12, .inr (false, [(-1, 60)]), .inr (false, [(55, 55)])], kch395, [24, 25, 26], [([[], [], [], []], some (.inr (false, [(-1, 60)])), kch40), ([[], [], [(1, 60)], []], some (.inr (false, [(-9, -9)])), kch42)])
theorem kck515 : ai_chk [kcc499] kcc515 (fun pc => sm_ch sm_t17 pc, sm_Kn 2 6 none, fun x => sm_lk sm_ca2 x, some .int) [24, 25, 26] 6 4 [29] [] 2000 [(29, [(0, .inl 0), (1, .inl 12), (2, .inr (false, [(-1, 60)])), (3, .inr (false, [(55, 55)])), (4, .inr (false, [(56, 56)]))], [], kch396),
  (29, [(0, .inl 0), (1, .inl 12), (2, .inr (false, [(1, 60)])), (3, .inr (false, [(55, 55)])), (4, .inr (false, [(57, 57)])), (5, .inr (false, [(-9, -9)]))], [], kch396),
  (29, [(0, .inl 0), (1, .inl 12), (2, .inr (false, [(1, 60)])), (3, .inr (false, [(55, 55)])), (4, .inr (false, [(58, 58)])), (5, .inr (false, [(-9, -9)]))], [], kch396),
  (29, [(0, .inl 0), (1, .inl 12), (2, .inr (false, [(1, 60)])), (3, .inr (false, [(55, 55)])), (4, .inr (false, [(59, 59)])), (5, .inr (false, [(-9, -9)]))], [], kch396)] = true := by decide +kernel
def kch399 : aw_H := [(12, kcx49)]
/-- MiceRegisters.faultOfFigure -/
def kcc516 : ak_C := (18, [.inl 12, .inr (false, [(-1, 60)]), .inr (false, [(56, 56)]), .inr (false, [(0, 0)]), .inr (false, [(0, 7)])], kch23, [], [([], some (.inr (false, [(-9, -9)])), kch399), ([], some (.inr (false, [(-1, 63)])), [])])
def kch400 : aw_H := [(12, kcx51)]
/-- MiceRegisters.faultOfFigure -/
def kcc517 : ak_C := (18, [.inl 12, .inr (false, [(-1, 60)]), .inr (false, [(57, 57)]), .inr (false, [(1, 1)]), .inr (false, [(9, 9)])], kch399, [], [([], some (.inr (false, [(-9, -9)])), kch400), ([], some (.inr (false, [(-1, 63)])), [])])
/-- MiceRegisters.readMouse -/
def kcc518 : ak_C := (19, [.inl 0, .inl 12, .inr (false, [(-1, 60)]), .inr (false, [(55, 55)])], kch394, [24, 29, 30, 31], [([], some (.inr (false, [(-1, 63)])), kch36), ([], some (.inr (false, [(-9, -9)])), kch38)])
theorem kck518 : ai_chk [kcc28, kcc516, kcc517] kcc518 (fun pc => sm_ch sm_t19 pc, sm_Kn 2 6 none, fun x => sm_lk sm_ca2 x, some .int) [24, 29, 30, 31] 6 0 [] [] 2000 [] = true := by decide +kernel
/-- MiceRegisters.readLine -/
def kcc519 : ak_C := (17, [.inl 0, .inl 12, .inr (false, [(-1, 60)]), .inr (false, [(54, 54)])], kch395, [24, 25, 26], [([[], [], [], []], some (.inr (false, [(-1, 60)])), kch40), ([[], [], [(1, 60)], []], some (.inr (false, [(-9, -9)])), kch42)])
theorem kck519 : ai_chk [kcc499] kcc519 (fun pc => sm_ch sm_t17 pc, sm_Kn 2 6 none, fun x => sm_lk sm_ca2 x, some .int) [24, 25, 26] 6 4 [29] [] 2000 [(29, [(0, .inl 0), (1, .inl 12), (2, .inr (false, [(-1, 60)])), (3, .inr (false, [(54, 54)])), (4, .inr (false, [(55, 55)]))], [], kch396),
  (29, [(0, .inl 0), (1, .inl 12), (2, .inr (false, [(1, 60)])), (3, .inr (false, [(54, 54)])), (4, .inr (false, [(56, 56)])), (5, .inr (false, [(-9, -9)]))], [], kch396),
  (29, [(0, .inl 0), (1, .inl 12), (2, .inr (false, [(1, 60)])), (3, .inr (false, [(54, 54)])), (4, .inr (false, [(57, 57)])), (5, .inr (false, [(-9, -9)]))], [], kch396),
  (29, [(0, .inl 0), (1, .inl 12), (2, .inr (false, [(1, 60)])), (3, .inr (false, [(54, 54)])), (4, .inr (false, [(58, 58)])), (5, .inr (false, [(-9, -9)]))], [], kch396)] = true := by decide +kernel
def kch401 : aw_H := [(12, kcx53)]
/-- MiceRegisters.faultOfFigure -/
def kcc520 : ak_C := (18, [.inl 12, .inr (false, [(-1, 60)]), .inr (false, [(55, 55)]), .inr (false, [(0, 0)]), .inr (false, [(0, 7)])], kch23, [], [([], some (.inr (false, [(-9, -9)])), kch401), ([], some (.inr (false, [(-1, 63)])), [])])
def kch402 : aw_H := [(12, kcx55)]
/-- MiceRegisters.faultOfFigure -/
def kcc521 : ak_C := (18, [.inl 12, .inr (false, [(-1, 60)]), .inr (false, [(56, 56)]), .inr (false, [(1, 1)]), .inr (false, [(9, 9)])], kch401, [], [([], some (.inr (false, [(-9, -9)])), kch402), ([], some (.inr (false, [(-1, 63)])), [])])
/-- MiceRegisters.readMouse -/
def kcc522 : ak_C := (19, [.inl 0, .inl 12, .inr (false, [(-1, 60)]), .inr (false, [(54, 54)])], kch394, [24, 29, 30, 31], [([], some (.inr (false, [(-1, 63)])), kch36), ([], some (.inr (false, [(-9, -9)])), kch38)])
theorem kck522 : ai_chk [kcc28, kcc520, kcc521] kcc522 (fun pc => sm_ch sm_t19 pc, sm_Kn 2 6 none, fun x => sm_lk sm_ca2 x, some .int) [24, 29, 30, 31] 6 0 [] [] 2000 [] = true := by decide +kernel
/-- MiceRegisters.readLine -/
def kcc523 : ak_C := (17, [.inl 0, .inl 12, .inr (false, [(-1, 60)]), .inr (false, [(53, 53)])], kch395, [24, 25, 26], [([[], [], [], []], some (.inr (false, [(-1, 60)])), kch40), ([[], [], [(1, 60)], []], some (.inr (false, [(-9, -9)])), kch42)])
theorem kck523 : ai_chk [kcc499] kcc523 (fun pc => sm_ch sm_t17 pc, sm_Kn 2 6 none, fun x => sm_lk sm_ca2 x, some .int) [24, 25, 26] 6 4 [29] [] 2000 [(29, [(0, .inl 0), (1, .inl 12), (2, .inr (false, [(-1, 60)])), (3, .inr (false, [(53, 53)])), (4, .inr (false, [(54, 54)]))], [], kch396),
  (29, [(0, .inl 0), (1, .inl 12), (2, .inr (false, [(1, 60)])), (3, .inr (false, [(53, 53)])), (4, .inr (false, [(55, 55)])), (5, .inr (false, [(-9, -9)]))], [], kch396),
  (29, [(0, .inl 0), (1, .inl 12), (2, .inr (false, [(1, 60)])), (3, .inr (false, [(53, 53)])), (4, .inr (false, [(56, 56)])), (5, .inr (false, [(-9, -9)]))], [], kch396),
  (29, [(0, .inl 0), (1, .inl 12), (2, .inr (false, [(1, 60)])), (3, .inr (false, [(53, 53)])), (4, .inr (false, [(57, 57)])), (5, .inr (false, [(-9, -9)]))], [], kch396)] = true := by decide +kernel
def kch403 : aw_H := [(12, kcx57)]
/-- MiceRegisters.faultOfFigure -/
def kcc524 : ak_C := (18, [.inl 12, .inr (false, [(-1, 60)]), .inr (false, [(54, 54)]), .inr (false, [(0, 0)]), .inr (false, [(0, 7)])], kch23, [], [([], some (.inr (false, [(-9, -9)])), kch403), ([], some (.inr (false, [(-1, 63)])), [])])
def kch404 : aw_H := [(12, kcx59)]
/-- MiceRegisters.faultOfFigure -/
def kcc525 : ak_C := (18, [.inl 12, .inr (false, [(-1, 60)]), .inr (false, [(55, 55)]), .inr (false, [(1, 1)]), .inr (false, [(9, 9)])], kch403, [], [([], some (.inr (false, [(-9, -9)])), kch404), ([], some (.inr (false, [(-1, 63)])), [])])
/-- MiceRegisters.readMouse -/
def kcc526 : ak_C := (19, [.inl 0, .inl 12, .inr (false, [(-1, 60)]), .inr (false, [(53, 53)])], kch394, [24, 29, 30, 31], [([], some (.inr (false, [(-1, 63)])), kch36), ([], some (.inr (false, [(-9, -9)])), kch38)])
theorem kck526 : ai_chk [kcc28, kcc524, kcc525] kcc526 (fun pc => sm_ch sm_t19 pc, sm_Kn 2 6 none, fun x => sm_lk sm_ca2 x, some .int) [24, 29, 30, 31] 6 0 [] [] 2000 [] = true := by decide +kernel
/-- MiceRegisters.readLine -/
def kcc527 : ak_C := (17, [.inl 0, .inl 12, .inr (false, [(-1, 60)]), .inr (false, [(52, 52)])], kch395, [24, 25, 26], [([[], [], [], []], some (.inr (false, [(-1, 60)])), kch40), ([[], [], [(1, 60)], []], some (.inr (false, [(-9, -9)])), kch42)])
theorem kck527 : ai_chk [kcc499] kcc527 (fun pc => sm_ch sm_t17 pc, sm_Kn 2 6 none, fun x => sm_lk sm_ca2 x, some .int) [24, 25, 26] 6 4 [29] [] 2000 [(29, [(0, .inl 0), (1, .inl 12), (2, .inr (false, [(-1, 60)])), (3, .inr (false, [(52, 52)])), (4, .inr (false, [(53, 53)]))], [], kch396),
  (29, [(0, .inl 0), (1, .inl 12), (2, .inr (false, [(1, 60)])), (3, .inr (false, [(52, 52)])), (4, .inr (false, [(54, 54)])), (5, .inr (false, [(-9, -9)]))], [], kch396),
  (29, [(0, .inl 0), (1, .inl 12), (2, .inr (false, [(1, 60)])), (3, .inr (false, [(52, 52)])), (4, .inr (false, [(55, 55)])), (5, .inr (false, [(-9, -9)]))], [], kch396),
  (29, [(0, .inl 0), (1, .inl 12), (2, .inr (false, [(1, 60)])), (3, .inr (false, [(52, 52)])), (4, .inr (false, [(56, 56)])), (5, .inr (false, [(-9, -9)]))], [], kch396)] = true := by decide +kernel
def kch405 : aw_H := [(12, kcx61)]
/-- MiceRegisters.faultOfFigure -/
def kcc528 : ak_C := (18, [.inl 12, .inr (false, [(-1, 60)]), .inr (false, [(53, 53)]), .inr (false, [(0, 0)]), .inr (false, [(0, 7)])], kch23, [], [([], some (.inr (false, [(-9, -9)])), kch405), ([], some (.inr (false, [(-1, 63)])), [])])
def kch406 : aw_H := [(12, kcx63)]
/-- MiceRegisters.faultOfFigure -/
def kcc529 : ak_C := (18, [.inl 12, .inr (false, [(-1, 60)]), .inr (false, [(54, 54)]), .inr (false, [(1, 1)]), .inr (false, [(9, 9)])], kch405, [], [([], some (.inr (false, [(-9, -9)])), kch406), ([], some (.inr (false, [(-1, 63)])), [])])
/-- MiceRegisters.readMouse -/
def kcc530 : ak_C := (19, [.inl 0, .inl 12, .inr (false, [(-1, 60)]), .inr (false, [(52, 52)])], kch394, [24, 29, 30, 31], [([], some (.inr (false, [(-1, 63)])), kch36), ([], some (.inr (false, [(-9, -9)])), kch38)])
theorem kck530 : ai_chk [kcc28, kcc528, kcc529] kcc530 (fun pc => sm_ch sm_t19 pc, sm_Kn 2 6 none, fun x => sm_lk sm_ca2 x, some .int) [24, 29, 30, 31] 6 0 [] [] 2000 [] = true := by decide +kernel
/-- MiceRegisters.readLine -/
def kcc531 : ak_C := (17, [.inl 0, .inl 12, .inr (false, [(-1, 60)]), .inr (false, [(51, 51)])], kch395, [24, 25, 26], [([[], [], [], []], some (.inr (false, [(-1, 60)])), kch40), ([[], [], [(1, 60)], []], some (.inr (false, [(-9, -9)])), kch42)])
theorem kck531 : ai_chk [kcc499] kcc531 (fun pc => sm_ch sm_t17 pc, sm_Kn 2 6 none, fun x => sm_lk sm_ca2 x, some .int) [24, 25, 26] 6 4 [29] [] 2000 [(29, [(0, .inl 0), (1, .inl 12), (2, .inr (false, [(-1, 60)])), (3, .inr (false, [(51, 51)])), (4, .inr (false, [(52, 52)]))], [], kch396),
  (29, [(0, .inl 0), (1, .inl 12), (2, .inr (false, [(1, 60)])), (3, .inr (false, [(51, 51)])), (4, .inr (false, [(53, 53)])), (5, .inr (false, [(-9, -9)]))], [], kch396),
  (29, [(0, .inl 0), (1, .inl 12), (2, .inr (false, [(1, 60)])), (3, .inr (false, [(51, 51)])), (4, .inr (false, [(54, 54)])), (5, .inr (false, [(-9, -9)]))], [], kch396),
  (29, [(0, .inl 0), (1, .inl 12), (2, .inr (false, [(1, 60)])), (3, .inr (false, [(51, 51)])), (4, .inr (false, [(55, 55)])), (5, .inr (false, [(-9, -9)]))], [], kch396)] = true := by decide +kernel
def kch407 : aw_H := [(12, kcx65)]
/-- MiceRegisters.faultOfFigure -/
def kcc532 : ak_C := (18, [.inl 12, .inr (false, [(-1, 60)]), .inr (false, [(52, 52)]), .inr (false, [(0, 0)]), .inr (false, [(0, 7)])], kch23, [], [([], some (.inr (false, [(-9, -9)])), kch407), ([], some (.inr (false, [(-1, 63)])), [])])
def kch408 : aw_H := [(12, kcx67)]
/-- MiceRegisters.faultOfFigure -/
def kcc533 : ak_C := (18, [.inl 12, .inr (false, [(-1, 60)]), .inr (false, [(53, 53)]), .inr (false, [(1, 1)]), .inr (false, [(9, 9)])], kch407, [], [([], some (.inr (false, [(-9, -9)])), kch408), ([], some (.inr (false, [(-1, 63)])), [])])
/-- MiceRegisters.readMouse -/
def kcc534 : ak_C := (19, [.inl 0, .inl 12, .inr (false, [(-1, 60)]), .inr (false, [(51, 51)])], kch394, [24, 29, 30, 31], [([], some (.inr (false, [(-1, 63)])), kch36), ([], some (.inr (false, [(-9, -9)])), kch38)])
theorem kck534 : ai_chk [kcc28, kcc532, kcc533] kcc534 (fun pc => sm_ch sm_t19 pc, sm_Kn 2 6 none, fun x => sm_lk sm_ca2 x, some .int) [24, 29, 30, 31] 6 0 [] [] 2000 [] = true := by decide +kernel
/-- MiceRegisters.readLine -/
def kcc535 : ak_C := (17, [.inl 0, .inl 12, .inr (false, [(-1, 60)]), .inr (false, [(50, 50)])], kch395, [24, 25, 26], [([[], [], [], []], some (.inr (false, [(-1, 60)])), kch40), ([[], [], [(1, 60)], []], some (.inr (false, [(-9, -9)])), kch42)])
theorem kck535 : ai_chk [kcc499] kcc535 (fun pc => sm_ch sm_t17 pc, sm_Kn 2 6 none, fun x => sm_lk sm_ca2 x, some .int) [24, 25, 26] 6 4 [29] [] 2000 [(29, [(0, .inl 0), (1, .inl 12), (2, .inr (false, [(-1, 60)])), (3, .inr (false, [(50, 50)])), (4, .inr (false, [(51, 51)]))], [], kch396),
  (29, [(0, .inl 0), (1, .inl 12), (2, .inr (false, [(1, 60)])), (3, .inr (false, [(50, 50)])), (4, .inr (false, [(52, 52)])), (5, .inr (false, [(-9, -9)]))], [], kch396),
  (29, [(0, .inl 0), (1, .inl 12), (2, .inr (false, [(1, 60)])), (3, .inr (false, [(50, 50)])), (4, .inr (false, [(53, 53)])), (5, .inr (false, [(-9, -9)]))], [], kch396),
  (29, [(0, .inl 0), (1, .inl 12), (2, .inr (false, [(1, 60)])), (3, .inr (false, [(50, 50)])), (4, .inr (false, [(54, 54)])), (5, .inr (false, [(-9, -9)]))], [], kch396)] = true := by decide +kernel
def kch409 : aw_H := [(12, kcx69)]
/-- MiceRegisters.faultOfFigure -/
def kcc536 : ak_C := (18, [.inl 12, .inr (false, [(-1, 60)]), .inr (false, [(51, 51)]), .inr (false, [(0, 0)]), .inr (false, [(0, 7)])], kch23, [], [([], some (.inr (false, [(-9, -9)])), kch409), ([], some (.inr (false, [(-1, 63)])), [])])
def kch410 : aw_H := [(12, kcx71)]
/-- MiceRegisters.faultOfFigure -/
def kcc537 : ak_C := (18, [.inl 12, .inr (false, [(-1, 60)]), .inr (false, [(52, 52)]), .inr (false, [(1, 1)]), .inr (false, [(9, 9)])], kch409, [], [([], some (.inr (false, [(-9, -9)])), kch410), ([], some (.inr (false, [(-1, 63)])), [])])
/-- MiceRegisters.readMouse -/
def kcc538 : ak_C := (19, [.inl 0, .inl 12, .inr (false, [(-1, 60)]), .inr (false, [(50, 50)])], kch394, [24, 29, 30, 31], [([], some (.inr (false, [(-1, 63)])), kch36), ([], some (.inr (false, [(-9, -9)])), kch38)])
theorem kck538 : ai_chk [kcc28, kcc536, kcc537] kcc538 (fun pc => sm_ch sm_t19 pc, sm_Kn 2 6 none, fun x => sm_lk sm_ca2 x, some .int) [24, 29, 30, 31] 6 0 [] [] 2000 [] = true := by decide +kernel
/-- MiceRegisters.readLine -/
def kcc539 : ak_C := (17, [.inl 0, .inl 12, .inr (false, [(-1, 60)]), .inr (false, [(49, 49)])], kch395, [24, 25, 26], [([[], [], [], []], some (.inr (false, [(-1, 60)])), kch40), ([[], [], [(1, 60)], []], some (.inr (false, [(-9, -9)])), kch42)])
theorem kck539 : ai_chk [kcc499] kcc539 (fun pc => sm_ch sm_t17 pc, sm_Kn 2 6 none, fun x => sm_lk sm_ca2 x, some .int) [24, 25, 26] 6 4 [29] [] 2000 [(29, [(0, .inl 0), (1, .inl 12), (2, .inr (false, [(-1, 60)])), (3, .inr (false, [(49, 49)])), (4, .inr (false, [(50, 50)]))], [], kch396),
  (29, [(0, .inl 0), (1, .inl 12), (2, .inr (false, [(1, 60)])), (3, .inr (false, [(49, 49)])), (4, .inr (false, [(51, 51)])), (5, .inr (false, [(-9, -9)]))], [], kch396),
  (29, [(0, .inl 0), (1, .inl 12), (2, .inr (false, [(1, 60)])), (3, .inr (false, [(49, 49)])), (4, .inr (false, [(52, 52)])), (5, .inr (false, [(-9, -9)]))], [], kch396),
  (29, [(0, .inl 0), (1, .inl 12), (2, .inr (false, [(1, 60)])), (3, .inr (false, [(49, 49)])), (4, .inr (false, [(53, 53)])), (5, .inr (false, [(-9, -9)]))], [], kch396)] = true := by decide +kernel
def kch411 : aw_H := [(12, kcx73)]
/-- MiceRegisters.faultOfFigure -/
def kcc540 : ak_C := (18, [.inl 12, .inr (false, [(-1, 60)]), .inr (false, [(50, 50)]), .inr (false, [(0, 0)]), .inr (false, [(0, 7)])], kch23, [], [([], some (.inr (false, [(-9, -9)])), kch411), ([], some (.inr (false, [(-1, 63)])), [])])
def kch412 : aw_H := [(12, kcx75)]
/-- MiceRegisters.faultOfFigure -/
def kcc541 : ak_C := (18, [.inl 12, .inr (false, [(-1, 60)]), .inr (false, [(51, 51)]), .inr (false, [(1, 1)]), .inr (false, [(9, 9)])], kch411, [], [([], some (.inr (false, [(-9, -9)])), kch412), ([], some (.inr (false, [(-1, 63)])), [])])
/-- MiceRegisters.readMouse -/
def kcc542 : ak_C := (19, [.inl 0, .inl 12, .inr (false, [(-1, 60)]), .inr (false, [(49, 49)])], kch394, [24, 29, 30, 31], [([], some (.inr (false, [(-1, 63)])), kch36), ([], some (.inr (false, [(-9, -9)])), kch38)])
theorem kck542 : ai_chk [kcc28, kcc540, kcc541] kcc542 (fun pc => sm_ch sm_t19 pc, sm_Kn 2 6 none, fun x => sm_lk sm_ca2 x, some .int) [24, 29, 30, 31] 6 0 [] [] 2000 [] = true := by decide +kernel
/-- MiceRegisters.readLine -/
def kcc543 : ak_C := (17, [.inl 0, .inl 12, .inr (false, [(-1, 60)]), .inr (false, [(48, 48)])], kch395, [24, 25, 26], [([[], [], [], []], some (.inr (false, [(-1, 60)])), kch40), ([[], [], [(1, 60)], []], some (.inr (false, [(-9, -9)])), kch42)])
theorem kck543 : ai_chk [kcc499] kcc543 (fun pc => sm_ch sm_t17 pc, sm_Kn 2 6 none, fun x => sm_lk sm_ca2 x, some .int) [24, 25, 26] 6 4 [29] [] 2000 [(29, [(0, .inl 0), (1, .inl 12), (2, .inr (false, [(-1, 60)])), (3, .inr (false, [(48, 48)])), (4, .inr (false, [(49, 49)]))], [], kch396),
  (29, [(0, .inl 0), (1, .inl 12), (2, .inr (false, [(1, 60)])), (3, .inr (false, [(48, 48)])), (4, .inr (false, [(50, 50)])), (5, .inr (false, [(-9, -9)]))], [], kch396),
  (29, [(0, .inl 0), (1, .inl 12), (2, .inr (false, [(1, 60)])), (3, .inr (false, [(48, 48)])), (4, .inr (false, [(51, 51)])), (5, .inr (false, [(-9, -9)]))], [], kch396),
  (29, [(0, .inl 0), (1, .inl 12), (2, .inr (false, [(1, 60)])), (3, .inr (false, [(48, 48)])), (4, .inr (false, [(52, 52)])), (5, .inr (false, [(-9, -9)]))], [], kch396)] = true := by decide +kernel
def kch413 : aw_H := [(12, kcx77)]
/-- MiceRegisters.faultOfFigure -/
def kcc544 : ak_C := (18, [.inl 12, .inr (false, [(-1, 60)]), .inr (false, [(49, 49)]), .inr (false, [(0, 0)]), .inr (false, [(0, 7)])], kch23, [], [([], some (.inr (false, [(-9, -9)])), kch413), ([], some (.inr (false, [(-1, 63)])), [])])
def kch414 : aw_H := [(12, kcx79)]
/-- MiceRegisters.faultOfFigure -/
def kcc545 : ak_C := (18, [.inl 12, .inr (false, [(-1, 60)]), .inr (false, [(50, 50)]), .inr (false, [(1, 1)]), .inr (false, [(9, 9)])], kch413, [], [([], some (.inr (false, [(-9, -9)])), kch414), ([], some (.inr (false, [(-1, 63)])), [])])
/-- MiceRegisters.readMouse -/
def kcc546 : ak_C := (19, [.inl 0, .inl 12, .inr (false, [(-1, 60)]), .inr (false, [(48, 48)])], kch394, [24, 29, 30, 31], [([], some (.inr (false, [(-1, 63)])), kch36), ([], some (.inr (false, [(-9, -9)])), kch38)])
theorem kck546 : ai_chk [kcc28, kcc544, kcc545] kcc546 (fun pc => sm_ch sm_t19 pc, sm_Kn 2 6 none, fun x => sm_lk sm_ca2 x, some .int) [24, 29, 30, 31] 6 0 [] [] 2000 [] = true := by decide +kernel
/-- MiceRegisters.readLine -/
def kcc547 : ak_C := (17, [.inl 0, .inl 12, .inr (false, [(-1, 60)]), .inr (false, [(47, 47)])], kch395, [24, 25, 26], [([[], [], [], []], some (.inr (false, [(-1, 60)])), kch40), ([[], [], [(1, 60)], []], some (.inr (false, [(-9, -9)])), kch42)])
theorem kck547 : ai_chk [kcc499] kcc547 (fun pc => sm_ch sm_t17 pc, sm_Kn 2 6 none, fun x => sm_lk sm_ca2 x, some .int) [24, 25, 26] 6 4 [29] [] 2000 [(29, [(0, .inl 0), (1, .inl 12), (2, .inr (false, [(-1, 60)])), (3, .inr (false, [(47, 47)])), (4, .inr (false, [(48, 48)]))], [], kch396),
  (29, [(0, .inl 0), (1, .inl 12), (2, .inr (false, [(1, 60)])), (3, .inr (false, [(47, 47)])), (4, .inr (false, [(49, 49)])), (5, .inr (false, [(-9, -9)]))], [], kch396),
  (29, [(0, .inl 0), (1, .inl 12), (2, .inr (false, [(1, 60)])), (3, .inr (false, [(47, 47)])), (4, .inr (false, [(50, 50)])), (5, .inr (false, [(-9, -9)]))], [], kch396),
  (29, [(0, .inl 0), (1, .inl 12), (2, .inr (false, [(1, 60)])), (3, .inr (false, [(47, 47)])), (4, .inr (false, [(51, 51)])), (5, .inr (false, [(-9, -9)]))], [], kch396)] = true := by decide +kernel
def kch415 : aw_H := [(12, kcx81)]
/-- MiceRegisters.faultOfFigure -/
def kcc548 : ak_C := (18, [.inl 12, .inr (false, [(-1, 60)]), .inr (false, [(48, 48)]), .inr (false, [(0, 0)]), .inr (false, [(0, 7)])], kch23, [], [([], some (.inr (false, [(-9, -9)])), kch415), ([], some (.inr (false, [(-1, 63)])), [])])
def kch416 : aw_H := [(12, kcx83)]
/-- MiceRegisters.faultOfFigure -/
def kcc549 : ak_C := (18, [.inl 12, .inr (false, [(-1, 60)]), .inr (false, [(49, 49)]), .inr (false, [(1, 1)]), .inr (false, [(9, 9)])], kch415, [], [([], some (.inr (false, [(-9, -9)])), kch416), ([], some (.inr (false, [(-1, 63)])), [])])
/-- MiceRegisters.readMouse -/
def kcc550 : ak_C := (19, [.inl 0, .inl 12, .inr (false, [(-1, 60)]), .inr (false, [(47, 47)])], kch394, [24, 29, 30, 31], [([], some (.inr (false, [(-1, 63)])), kch36), ([], some (.inr (false, [(-9, -9)])), kch38)])
theorem kck550 : ai_chk [kcc28, kcc548, kcc549] kcc550 (fun pc => sm_ch sm_t19 pc, sm_Kn 2 6 none, fun x => sm_lk sm_ca2 x, some .int) [24, 29, 30, 31] 6 0 [] [] 2000 [] = true := by decide +kernel
/-- MiceRegisters.readLine -/
def kcc551 : ak_C := (17, [.inl 0, .inl 12, .inr (false, [(-1, 60)]), .inr (false, [(46, 46)])], kch395, [24, 25, 26], [([[], [], [], []], some (.inr (false, [(-1, 60)])), kch40), ([[], [], [(1, 60)], []], some (.inr (false, [(-9, -9)])), kch42)])
theorem kck551 : ai_chk [kcc499] kcc551 (fun pc => sm_ch sm_t17 pc, sm_Kn 2 6 none, fun x => sm_lk sm_ca2 x, some .int) [24, 25, 26] 6 4 [29] [] 2000 [(29, [(0, .inl 0), (1, .inl 12), (2, .inr (false, [(-1, 60)])), (3, .inr (false, [(46, 46)])), (4, .inr (false, [(47, 47)]))], [], kch396),
  (29, [(0, .inl 0), (1, .inl 12), (2, .inr (false, [(1, 60)])), (3, .inr (false, [(46, 46)])), (4, .inr (false, [(48, 48)])), (5, .inr (false, [(-9, -9)]))], [], kch396),
  (29, [(0, .inl 0), (1, .inl 12), (2, .inr (false, [(1, 60)])), (3, .inr (false, [(46, 46)])), (4, .inr (false, [(49, 49)])), (5, .inr (false, [(-9, -9)]))], [], kch396),
  (29, [(0, .inl 0), (1, .inl 12), (2, .inr (false, [(1, 60)])), (3, .inr (false, [(46, 46)])), (4, .inr (false, [(50, 50)])), (5, .inr (false, [(-9, -9)]))], [], kch396)] = true := by decide +kernel
def kch417 : aw_H := [(12, kcx85)]
/-- MiceRegisters.faultOfFigure -/
def kcc552 : ak_C := (18, [.inl 12, .inr (false, [(-1, 60)]), .inr (false, [(47, 47)]), .inr (false, [(0, 0)]), .inr (false, [(0, 7)])], kch23, [], [([], some (.inr (false, [(-9, -9)])), kch417), ([], some (.inr (false, [(-1, 63)])), [])])
def kch418 : aw_H := [(12, kcx87)]
/-- MiceRegisters.faultOfFigure -/
def kcc553 : ak_C := (18, [.inl 12, .inr (false, [(-1, 60)]), .inr (false, [(48, 48)]), .inr (false, [(1, 1)]), .inr (false, [(9, 9)])], kch417, [], [([], some (.inr (false, [(-9, -9)])), kch418), ([], some (.inr (false, [(-1, 63)])), [])])
/-- MiceRegisters.readMouse -/
def kcc554 : ak_C := (19, [.inl 0, .inl 12, .inr (false, [(-1, 60)]), .inr (false, [(46, 46)])], kch394, [24, 29, 30, 31], [([], some (.inr (false, [(-1, 63)])), kch36), ([], some (.inr (false, [(-9, -9)])), kch38)])
theorem kck554 : ai_chk [kcc28, kcc552, kcc553] kcc554 (fun pc => sm_ch sm_t19 pc, sm_Kn 2 6 none, fun x => sm_lk sm_ca2 x, some .int) [24, 29, 30, 31] 6 0 [] [] 2000 [] = true := by decide +kernel
/-- MiceRegisters.readLine -/
def kcc555 : ak_C := (17, [.inl 0, .inl 12, .inr (false, [(-1, 60)]), .inr (false, [(45, 45)])], kch395, [24, 25, 26], [([[], [], [], []], some (.inr (false, [(-1, 60)])), kch40), ([[], [], [(1, 60)], []], some (.inr (false, [(-9, -9)])), kch42)])
theorem kck555 : ai_chk [kcc499] kcc555 (fun pc => sm_ch sm_t17 pc, sm_Kn 2 6 none, fun x => sm_lk sm_ca2 x, some .int) [24, 25, 26] 6 4 [29] [] 2000 [(29, [(0, .inl 0), (1, .inl 12), (2, .inr (false, [(-1, 60)])), (3, .inr (false, [(45, 45)])), (4, .inr (false, [(46, 46)]))], [], kch396),
  (29, [(0, .inl 0), (1, .inl 12), (2, .inr (false, [(1, 60)])), (3, .inr (false, [(45, 45)])), (4, .inr (false, [(47, 47)])), (5, .inr (false, [(-9, -9)]))], [], kch396),
  (29, [(0, .inl 0), (1, .inl 12), (2, .inr (false, [(1, 60)])), (3, .inr (false, [(45, 45)])), (4, .inr (false, [(48, 48)])), (5, .inr (false, [(-9, -9)]))], [], kch396),
  (29, [(0, .inl 0), (1, .inl 12), (2, .inr (false, [(1, 60)])), (3, .inr (false, [(45, 45)])), (4, .inr (false, [(49, 49)])), (5, .inr (false, [(-9, -9)]))], [], kch396)] = true := by decide +kernel
def kch419 : aw_H := [(12, kcx89)]
/-- MiceRegisters.faultOfFigure -/
def kcc556 : ak_C := (18, [.inl 12, .inr (false, [(-1, 60)]), .inr (false, [(46, 46)]), .inr (false, [(0, 0)]), .inr (false, [(0, 7)])], kch23, [], [([], some (.inr (false, [(-9, -9)])), kch419), ([], some (.inr (false, [(-1, 63)])), [])])
def kch420 : aw_H := [(12, kcx91)]
/-- MiceRegisters.faultOfFigure -/
def kcc557 : ak_C := (18, [.inl 12, .inr (false, [(-1, 60)]), .inr (false, [(47, 47)]), .inr (false, [(1, 1)]), .inr (false, [(9, 9)])], kch419, [], [([], some (.inr (false, [(-9, -9)])), kch420), ([], some (.inr (false, [(-1, 63)])), [])])
/-- MiceRegisters.readMouse -/
def kcc558 : ak_C := (19, [.inl 0, .inl 12, .inr (false, [(-1, 60)]), .inr (false, [(45, 45)])], kch394, [24, 29, 30, 31], [([], some (.inr (false, [(-1, 63)])), kch36), ([], some (.inr (false, [(-9, -9)])), kch38)])
theorem kck558 : ai_chk [kcc28, kcc556, kcc557] kcc558 (fun pc => sm_ch sm_t19 pc, sm_Kn 2 6 none, fun x => sm_lk sm_ca2 x, some .int) [24, 29, 30, 31] 6 0 [] [] 2000 [] = true := by decide +kernel
/-- MiceRegisters.readLine -/
def kcc559 : ak_C := (17, [.inl 0, .inl 12, .inr (false, [(-1, 60)]), .inr (false, [(44, 44)])], kch395, [24, 25, 26], [([[], [], [], []], some (.inr (false, [(-1, 60)])), kch40), ([[], [], [(1, 60)], []], some (.inr (false, [(-9, -9)])), kch42)])
theorem kck559 : ai_chk [kcc499] kcc559 (fun pc => sm_ch sm_t17 pc, sm_Kn 2 6 none, fun x => sm_lk sm_ca2 x, some .int) [24, 25, 26] 6 4 [29] [] 2000 [(29, [(0, .inl 0), (1, .inl 12), (2, .inr (false, [(-1, 60)])), (3, .inr (false, [(44, 44)])), (4, .inr (false, [(45, 45)]))], [], kch396),
  (29, [(0, .inl 0), (1, .inl 12), (2, .inr (false, [(1, 60)])), (3, .inr (false, [(44, 44)])), (4, .inr (false, [(46, 46)])), (5, .inr (false, [(-9, -9)]))], [], kch396),
  (29, [(0, .inl 0), (1, .inl 12), (2, .inr (false, [(1, 60)])), (3, .inr (false, [(44, 44)])), (4, .inr (false, [(47, 47)])), (5, .inr (false, [(-9, -9)]))], [], kch396),
  (29, [(0, .inl 0), (1, .inl 12), (2, .inr (false, [(1, 60)])), (3, .inr (false, [(44, 44)])), (4, .inr (false, [(48, 48)])), (5, .inr (false, [(-9, -9)]))], [], kch396)] = true := by decide +kernel
def kch421 : aw_H := [(12, kcx93)]
/-- MiceRegisters.faultOfFigure -/
def kcc560 : ak_C := (18, [.inl 12, .inr (false, [(-1, 60)]), .inr (false, [(45, 45)]), .inr (false, [(0, 0)]), .inr (false, [(0, 7)])], kch23, [], [([], some (.inr (false, [(-9, -9)])), kch421), ([], some (.inr (false, [(-1, 63)])), [])])
def kch422 : aw_H := [(12, kcx95)]
/-- MiceRegisters.faultOfFigure -/
def kcc561 : ak_C := (18, [.inl 12, .inr (false, [(-1, 60)]), .inr (false, [(46, 46)]), .inr (false, [(1, 1)]), .inr (false, [(9, 9)])], kch421, [], [([], some (.inr (false, [(-9, -9)])), kch422), ([], some (.inr (false, [(-1, 63)])), [])])
/-- MiceRegisters.readMouse -/
def kcc562 : ak_C := (19, [.inl 0, .inl 12, .inr (false, [(-1, 60)]), .inr (false, [(44, 44)])], kch394, [24, 29, 30, 31], [([], some (.inr (false, [(-1, 63)])), kch36), ([], some (.inr (false, [(-9, -9)])), kch38)])
theorem kck562 : ai_chk [kcc28, kcc560, kcc561] kcc562 (fun pc => sm_ch sm_t19 pc, sm_Kn 2 6 none, fun x => sm_lk sm_ca2 x, some .int) [24, 29, 30, 31] 6 0 [] [] 2000 [] = true := by decide +kernel
/-- MiceRegisters.readLine -/
def kcc563 : ak_C := (17, [.inl 0, .inl 12, .inr (false, [(-1, 60)]), .inr (false, [(43, 43)])], kch395, [24, 25, 26], [([[], [], [], []], some (.inr (false, [(-1, 60)])), kch40), ([[], [], [(1, 60)], []], some (.inr (false, [(-9, -9)])), kch42)])
theorem kck563 : ai_chk [kcc499] kcc563 (fun pc => sm_ch sm_t17 pc, sm_Kn 2 6 none, fun x => sm_lk sm_ca2 x, some .int) [24, 25, 26] 6 4 [29] [] 2000 [(29, [(0, .inl 0), (1, .inl 12), (2, .inr (false, [(-1, 60)])), (3, .inr (false, [(43, 43)])), (4, .inr (false, [(44, 44)]))], [], kch396),
  (29, [(0, .inl 0), (1, .inl 12), (2, .inr (false, [(1, 60)])), (3, .inr (false, [(43, 43)])), (4, .inr (false, [(45, 45)])), (5, .inr (false, [(-9, -9)]))], [], kch396),
  (29, [(0, .inl 0), (1, .inl 12), (2, .inr (false, [(1, 60)])), (3, .inr (false, [(43, 43)])), (4, .inr (false, [(46, 46)])), (5, .inr (false, [(-9, -9)]))], [], kch396),
  (29, [(0, .inl 0), (1, .inl 12), (2, .inr (false, [(1, 60)])), (3, .inr (false, [(43, 43)])), (4, .inr (false, [(47, 47)])), (5, .inr (false, [(-9, -9)]))], [], kch396)] = true := by decide +kernel
def kch423 : aw_H := [(12, kcx97)]
/-- MiceRegisters.faultOfFigure -/
def kcc564 : ak_C := (18, [.inl 12, .inr (false, [(-1, 60)]), .inr (false, [(44, 44)]), .inr (false, [(0, 0)]), .inr (false, [(0, 7)])], kch23, [], [([], some (.inr (false, [(-9, -9)])), kch423), ([], some (.inr (false, [(-1, 63)])), [])])
def kch424 : aw_H := [(12, kcx99)]
/-- MiceRegisters.faultOfFigure -/
def kcc565 : ak_C := (18, [.inl 12, .inr (false, [(-1, 60)]), .inr (false, [(45, 45)]), .inr (false, [(1, 1)]), .inr (false, [(9, 9)])], kch423, [], [([], some (.inr (false, [(-9, -9)])), kch424), ([], some (.inr (false, [(-1, 63)])), [])])
/-- MiceRegisters.readMouse -/
def kcc566 : ak_C := (19, [.inl 0, .inl 12, .inr (false, [(-1, 60)]), .inr (false, [(43, 43)])], kch394, [24, 29, 30, 31], [([], some (.inr (false, [(-1, 63)])), kch36), ([], some (.inr (false, [(-9, -9)])), kch38)])
theorem kck566 : ai_chk [kcc28, kcc564, kcc565] kcc566 (fun pc => sm_ch sm_t19 pc, sm_Kn 2 6 none, fun x => sm_lk sm_ca2 x, some .int) [24, 29, 30, 31] 6 0 [] [] 2000 [] = true := by decide +kernel
/-- MiceRegisters.readLine -/
def kcc567 : ak_C := (17, [.inl 0, .inl 12, .inr (false, [(-1, 60)]), .inr (false, [(42, 42)])], kch395, [24, 25, 26], [([[], [], [], []], some (.inr (false, [(-1, 60)])), kch40), ([[], [], [(1, 60)], []], some (.inr (false, [(-9, -9)])), kch42)])
theorem kck567 : ai_chk [kcc499] kcc567 (fun pc => sm_ch sm_t17 pc, sm_Kn 2 6 none, fun x => sm_lk sm_ca2 x, some .int) [24, 25, 26] 6 4 [29] [] 2000 [(29, [(0, .inl 0), (1, .inl 12), (2, .inr (false, [(-1, 60)])), (3, .inr (false, [(42, 42)])), (4, .inr (false, [(43, 43)]))], [], kch396),
  (29, [(0, .inl 0), (1, .inl 12), (2, .inr (false, [(1, 60)])), (3, .inr (false, [(42, 42)])), (4, .inr (false, [(44, 44)])), (5, .inr (false, [(-9, -9)]))], [], kch396),
  (29, [(0, .inl 0), (1, .inl 12), (2, .inr (false, [(1, 60)])), (3, .inr (false, [(42, 42)])), (4, .inr (false, [(45, 45)])), (5, .inr (false, [(-9, -9)]))], [], kch396),
  (29, [(0, .inl 0), (1, .inl 12), (2, .inr (false, [(1, 60)])), (3, .inr (false, [(42, 42)])), (4, .inr (false, [(46, 46)])), (5, .inr (false, [(-9, -9)]))], [], kch396)] = true := by decide +kernel
def kch425 : aw_H := [(12, kcx101)]
/-- MiceRegisters.faultOfFigure -/
def kcc568 : ak_C := (18, [.inl 12, .inr (false, [(-1, 60)]), .inr (false, [(43, 43)]), .inr (false, [(0, 0)]), .inr (false, [(0, 7)])], kch23, [], [([], some (.inr (false, [(-9, -9)])), kch425), ([], some (.inr (false, [(-1, 63)])), [])])
def kch426 : aw_H := [(12, kcx103)]
/-- MiceRegisters.faultOfFigure -/
def kcc569 : ak_C := (18, [.inl 12, .inr (false, [(-1, 60)]), .inr (false, [(44, 44)]), .inr (false, [(1, 1)]), .inr (false, [(9, 9)])], kch425, [], [([], some (.inr (false, [(-9, -9)])), kch426), ([], some (.inr (false, [(-1, 63)])), [])])
/-- MiceRegisters.readMouse -/
def kcc570 : ak_C := (19, [.inl 0, .inl 12, .inr (false, [(-1, 60)]), .inr (false, [(42, 42)])], kch394, [24, 29, 30, 31], [([], some (.inr (false, [(-1, 63)])), kch36), ([], some (.inr (false, [(-9, -9)])), kch38)])
theorem kck570 : ai_chk [kcc28, kcc568, kcc569] kcc570 (fun pc => sm_ch sm_t19 pc, sm_Kn 2 6 none, fun x => sm_lk sm_ca2 x, some .int) [24, 29, 30, 31] 6 0 [] [] 2000 [] = true := by decide +kernel
/-- MiceRegisters.readLine -/
def kcc571 : ak_C := (17, [.inl 0, .inl 12, .inr (false, [(-1, 60)]), .inr (false, [(41, 41)])], kch395, [24, 25, 26], [([[], [], [], []], some (.inr (false, [(-1, 60)])), kch40), ([[], [], [(1, 60)], []], some (.inr (false, [(-9, -9)])), kch42)])
theorem kck571 : ai_chk [kcc499] kcc571 (fun pc => sm_ch sm_t17 pc, sm_Kn 2 6 none, fun x => sm_lk sm_ca2 x, some .int) [24, 25, 26] 6 4 [29] [] 2000 [(29, [(0, .inl 0), (1, .inl 12), (2, .inr (false, [(-1, 60)])), (3, .inr (false, [(41, 41)])), (4, .inr (false, [(42, 42)]))], [], kch396),
  (29, [(0, .inl 0), (1, .inl 12), (2, .inr (false, [(1, 60)])), (3, .inr (false, [(41, 41)])), (4, .inr (false, [(43, 43)])), (5, .inr (false, [(-9, -9)]))], [], kch396),
  (29, [(0, .inl 0), (1, .inl 12), (2, .inr (false, [(1, 60)])), (3, .inr (false, [(41, 41)])), (4, .inr (false, [(44, 44)])), (5, .inr (false, [(-9, -9)]))], [], kch396),
  (29, [(0, .inl 0), (1, .inl 12), (2, .inr (false, [(1, 60)])), (3, .inr (false, [(41, 41)])), (4, .inr (false, [(45, 45)])), (5, .inr (false, [(-9, -9)]))], [], kch396)] = true := by decide +kernel
def kch427 : aw_H := [(12, kcx105)]
/-- MiceRegisters.faultOfFigure -/
def kcc572 : ak_C := (18, [.inl 12, .inr (false, [(-1, 60)]), .inr (false, [(42, 42)]), .inr (false, [(0, 0)]), .inr (false, [(0, 7)])], kch23, [], [([], some (.inr (false, [(-9, -9)])), kch427), ([], some (.inr (false, [(-1, 63)])), [])])
def kch428 : aw_H := [(12, kcx107)]
/-- MiceRegisters.faultOfFigure -/
def kcc573 : ak_C := (18, [.inl 12, .inr (false, [(-1, 60)]), .inr (false, [(43, 43)]), .inr (false, [(1, 1)]), .inr (false, [(9, 9)])], kch427, [], [([], some (.inr (false, [(-9, -9)])), kch428), ([], some (.inr (false, [(-1, 63)])), [])])
/-- MiceRegisters.readMouse -/
def kcc574 : ak_C := (19, [.inl 0, .inl 12, .inr (false, [(-1, 60)]), .inr (false, [(41, 41)])], kch394, [24, 29, 30, 31], [([], some (.inr (false, [(-1, 63)])), kch36), ([], some (.inr (false, [(-9, -9)])), kch38)])
theorem kck574 : ai_chk [kcc28, kcc572, kcc573] kcc574 (fun pc => sm_ch sm_t19 pc, sm_Kn 2 6 none, fun x => sm_lk sm_ca2 x, some .int) [24, 29, 30, 31] 6 0 [] [] 2000 [] = true := by decide +kernel
/-- MiceRegisters.readLine -/
def kcc575 : ak_C := (17, [.inl 0, .inl 12, .inr (false, [(-1, 60)]), .inr (false, [(40, 40)])], kch395, [24, 25, 26], [([[], [], [], []], some (.inr (false, [(-1, 60)])), kch40), ([[], [], [(1, 60)], []], some (.inr (false, [(-9, -9)])), kch42)])
theorem kck575 : ai_chk [kcc499] kcc575 (fun pc => sm_ch sm_t17 pc, sm_Kn 2 6 none, fun x => sm_lk sm_ca2 x, some .int) [24, 25, 26] 6 4 [29] [] 2000 [(29, [(0, .inl 0), (1, .inl 12), (2, .inr (false, [(-1, 60)])), (3, .inr (false, [(40, 40)])), (4, .inr (false, [(41, 41)]))], [], kch396),
  (29, [(0, .inl 0), (1, .inl 12), (2, .inr (false, [(1, 60)])), (3, .inr (false, [(40, 40)])), (4, .inr (false, [(42, 42)])), (5, .inr (false, [(-9, -9)]))], [], kch396),
  (29, [(0, .inl 0), (1, .inl 12), (2, .inr (false, [(1, 60)])), (3, .inr (false, [(40, 40)])), (4, .inr (false, [(43, 43)])), (5, .inr (false, [(-9, -9)]))], [], kch396),
  (29, [(0, .inl 0), (1, .inl 12), (2, .inr (false, [(1, 60)])), (3, .inr (false, [(40, 40)])), (4, .inr (false, [(44, 44)])), (5, .inr (false, [(-9, -9)]))], [], kch396)] = true := by decide +kernel
def kch429 : aw_H := [(12, kcx109)]
/-- MiceRegisters.faultOfFigure -/
def kcc576 : ak_C := (18, [.inl 12, .inr (false, [(-1, 60)]), .inr (false, [(41, 41)]), .inr (false, [(0, 0)]), .inr (false, [(0, 7)])], kch23, [], [([], some (.inr (false, [(-9, -9)])), kch429), ([], some (.inr (false, [(-1, 63)])), [])])
def kch430 : aw_H := [(12, kcx111)]
/-- MiceRegisters.faultOfFigure -/
def kcc577 : ak_C := (18, [.inl 12, .inr (false, [(-1, 60)]), .inr (false, [(42, 42)]), .inr (false, [(1, 1)]), .inr (false, [(9, 9)])], kch429, [], [([], some (.inr (false, [(-9, -9)])), kch430), ([], some (.inr (false, [(-1, 63)])), [])])
/-- MiceRegisters.readMouse -/
def kcc578 : ak_C := (19, [.inl 0, .inl 12, .inr (false, [(-1, 60)]), .inr (false, [(40, 40)])], kch394, [24, 29, 30, 31], [([], some (.inr (false, [(-1, 63)])), kch36), ([], some (.inr (false, [(-9, -9)])), kch38)])
theorem kck578 : ai_chk [kcc28, kcc576, kcc577] kcc578 (fun pc => sm_ch sm_t19 pc, sm_Kn 2 6 none, fun x => sm_lk sm_ca2 x, some .int) [24, 29, 30, 31] 6 0 [] [] 2000 [] = true := by decide +kernel
/-- MiceRegisters.readLine -/
def kcc579 : ak_C := (17, [.inl 0, .inl 12, .inr (false, [(-1, 60)]), .inr (false, [(39, 39)])], kch395, [24, 25, 26], [([[], [], [], []], some (.inr (false, [(-1, 60)])), kch40), ([[], [], [(1, 60)], []], some (.inr (false, [(-9, -9)])), kch42)])
theorem kck579 : ai_chk [kcc499] kcc579 (fun pc => sm_ch sm_t17 pc, sm_Kn 2 6 none, fun x => sm_lk sm_ca2 x, some .int) [24, 25, 26] 6 4 [29] [] 2000 [(29, [(0, .inl 0), (1, .inl 12), (2, .inr (false, [(-1, 60)])), (3, .inr (false, [(39, 39)])), (4, .inr (false, [(40, 40)]))], [], kch396),
  (29, [(0, .inl 0), (1, .inl 12), (2, .inr (false, [(1, 60)])), (3, .inr (false, [(39, 39)])), (4, .inr (false, [(41, 41)])), (5, .inr (false, [(-9, -9)]))], [], kch396),
  (29, [(0, .inl 0), (1, .inl 12), (2, .inr (false, [(1, 60)])), (3, .inr (false, [(39, 39)])), (4, .inr (false, [(42, 42)])), (5, .inr (false, [(-9, -9)]))], [], kch396),
  (29, [(0, .inl 0), (1, .inl 12), (2, .inr (false, [(1, 60)])), (3, .inr (false, [(39, 39)])), (4, .inr (false, [(43, 43)])), (5, .inr (false, [(-9, -9)]))], [], kch396)] = true := by decide +kernel
def kch431 : aw_H := [(12, kcx113)]
/-- MiceRegisters.faultOfFigure -/
def kcc580 : ak_C := (18, [.inl 12, .inr (false, [(-1, 60)]), .inr (false, [(40, 40)]), .inr (false, [(0, 0)]), .inr (false, [(0, 7)])], kch23, [], [([], some (.inr (false, [(-9, -9)])), kch431), ([], some (.inr (false, [(-1, 63)])), [])])
def kch432 : aw_H := [(12, kcx115)]
/-- MiceRegisters.faultOfFigure -/
def kcc581 : ak_C := (18, [.inl 12, .inr (false, [(-1, 60)]), .inr (false, [(41, 41)]), .inr (false, [(1, 1)]), .inr (false, [(9, 9)])], kch431, [], [([], some (.inr (false, [(-9, -9)])), kch432), ([], some (.inr (false, [(-1, 63)])), [])])
/-- MiceRegisters.readMouse -/
def kcc582 : ak_C := (19, [.inl 0, .inl 12, .inr (false, [(-1, 60)]), .inr (false, [(39, 39)])], kch394, [24, 29, 30, 31], [([], some (.inr (false, [(-1, 63)])), kch36), ([], some (.inr (false, [(-9, -9)])), kch38)])
theorem kck582 : ai_chk [kcc28, kcc580, kcc581] kcc582 (fun pc => sm_ch sm_t19 pc, sm_Kn 2 6 none, fun x => sm_lk sm_ca2 x, some .int) [24, 29, 30, 31] 6 0 [] [] 2000 [] = true := by decide +kernel
/-- MiceRegisters.readLine -/
def kcc583 : ak_C := (17, [.inl 0, .inl 12, .inr (false, [(-1, 60)]), .inr (false, [(38, 38)])], kch395, [24, 25, 26], [([[], [], [], []], some (.inr (false, [(-1, 60)])), kch40), ([[], [], [(1, 60)], []], some (.inr (false, [(-9, -9)])), kch42)])
theorem kck583 : ai_chk [kcc499] kcc583 (fun pc => sm_ch sm_t17 pc, sm_Kn 2 6 none, fun x => sm_lk sm_ca2 x, some .int) [24, 25, 26] 6 4 [29] [] 2000 [(29, [(0, .inl 0), (1, .inl 12), (2, .inr (false, [(-1, 60)])), (3, .inr (false, [(38, 38)])), (4, .inr (false, [(39, 39)]))], [], kch396),
  (29, [(0, .inl 0), (1, .inl 12), (2, .inr (false, [(1, 60)])), (3, .inr (false, [(38, 38)])), (4, .inr (false, [(40, 40)])), (5, .inr (false, [(-9, -9)]))], [], kch396),
  (29, [(0, .inl 0), (1, .inl 12), (2, .inr (false, [(1, 60)])), (3, .inr (false, [(38, 38)])), (4, .inr (false, [(41, 41)])), (5, .inr (false, [(-9, -9)]))], [], kch396),
  (29, [(0, .inl 0), (1, .inl 12), (2, .inr (false, [(1, 60)])), (3, .inr (false, [(38, 38)])), (4, .inr (false, [(42, 42)])), (5, .inr (false, [(-9, -9)]))], [], kch396)] = true := by decide +kernel
def kch433 : aw_H := [(12, kcx117)]
/-- MiceRegisters.faultOfFigure -/
def kcc584 : ak_C := (18, [.inl 12, .inr (false, [(-1, 60)]), .inr (false, [(39, 39)]), .inr (false, [(0, 0)]), .inr (false, [(0, 7)])], kch23, [], [([], some (.inr (false, [(-9, -9)])), kch433), ([], some (.inr (false, [(-1, 63)])), [])])
def kch434 : aw_H := [(12, kcx119)]
/-- MiceRegisters.faultOfFigure -/
def kcc585 : ak_C := (18, [.inl 12, .inr (false, [(-1, 60)]), .inr (false, [(40, 40)]), .inr (false, [(1, 1)]), .inr (false, [(9, 9)])], kch433, [], [([], some (.inr (false, [(-9, -9)])), kch434), ([], some (.inr (false, [(-1, 63)])), [])])
/-- MiceRegisters.readMouse -/
def kcc586 : ak_C := (19, [.inl 0, .inl 12, .inr (false, [(-1, 60)]), .inr (false, [(38, 38)])], kch394, [24, 29, 30, 31], [([], some (.inr (false, [(-1, 63)])), kch36), ([], some (.inr (false, [(-9, -9)])), kch38)])
theorem kck586 : ai_chk [kcc28, kcc584, kcc585] kcc586 (fun pc => sm_ch sm_t19 pc, sm_Kn 2 6 none, fun x => sm_lk sm_ca2 x, some .int) [24, 29, 30, 31] 6 0 [] [] 2000 [] = true := by decide +kernel
/-- MiceRegisters.readLine -/
def kcc587 : ak_C := (17, [.inl 0, .inl 12, .inr (false, [(-1, 60)]), .inr (false, [(37, 37)])], kch395, [24, 25, 26], [([[], [], [], []], some (.inr (false, [(-1, 60)])), kch40), ([[], [], [(1, 60)], []], some (.inr (false, [(-9, -9)])), kch42)])
theorem kck587 : ai_chk [kcc499] kcc587 (fun pc => sm_ch sm_t17 pc, sm_Kn 2 6 none, fun x => sm_lk sm_ca2 x, some .int) [24, 25, 26] 6 4 [29] [] 2000 [(29, [(0, .inl 0), (1, .inl 12), (2, .inr (false, [(-1, 60)])), (3, .inr (false, [(37, 37)])), (4, .inr (false, [(38, 38)]))], [], kch396),
  (29, [(0, .inl 0), (1, .inl 12), (2, .inr (false, [(1, 60)])), (3, .inr (false, [(37, 37)])), (4, .inr (false, [(39, 39)])), (5, .inr (false, [(-9, -9)]))], [], kch396),
  (29, [(0, .inl 0), (1, .inl 12), (2, .inr (false, [(1, 60)])), (3, .inr (false, [(37, 37)])), (4, .inr (false, [(40, 40)])), (5, .inr (false, [(-9, -9)]))], [], kch396),
  (29, [(0, .inl 0), (1, .inl 12), (2, .inr (false, [(1, 60)])), (3, .inr (false, [(37, 37)])), (4, .inr (false, [(41, 41)])), (5, .inr (false, [(-9, -9)]))], [], kch396)] = true := by decide +kernel
def kch435 : aw_H := [(12, kcx121)]
/-- MiceRegisters.faultOfFigure -/
def kcc588 : ak_C := (18, [.inl 12, .inr (false, [(-1, 60)]), .inr (false, [(38, 38)]), .inr (false, [(0, 0)]), .inr (false, [(0, 7)])], kch23, [], [([], some (.inr (false, [(-9, -9)])), kch435), ([], some (.inr (false, [(-1, 63)])), [])])
def kch436 : aw_H := [(12, kcx123)]
/-- MiceRegisters.faultOfFigure -/
def kcc589 : ak_C := (18, [.inl 12, .inr (false, [(-1, 60)]), .inr (false, [(39, 39)]), .inr (false, [(1, 1)]), .inr (false, [(9, 9)])], kch435, [], [([], some (.inr (false, [(-9, -9)])), kch436), ([], some (.inr (false, [(-1, 63)])), [])])
/-- MiceRegisters.readMouse -/
def kcc590 : ak_C := (19, [.inl 0, .inl 12, .inr (false, [(-1, 60)]), .inr (false, [(37, 37)])], kch394, [24, 29, 30, 31], [([], some (.inr (false, [(-1, 63)])), kch36), ([], some (.inr (false, [(-9, -9)])), kch38)])
theorem kck590 : ai_chk [kcc28, kcc588, kcc589] kcc590 (fun pc => sm_ch sm_t19 pc, sm_Kn 2 6 none, fun x => sm_lk sm_ca2 x, some .int) [24, 29, 30, 31] 6 0 [] [] 2000 [] = true := by decide +kernel
/-- MiceRegisters.readLine -/
def kcc591 : ak_C := (17, [.inl 0, .inl 12, .inr (false, [(-1, 60)]), .inr (false, [(36, 36)])], kch395, [24, 25, 26], [([[], [], [], []], some (.inr (false, [(-1, 60)])), kch40), ([[], [], [(1, 60)], []], some (.inr (false, [(-9, -9)])), kch42)])
theorem kck591 : ai_chk [kcc499] kcc591 (fun pc => sm_ch sm_t17 pc, sm_Kn 2 6 none, fun x => sm_lk sm_ca2 x, some .int) [24, 25, 26] 6 4 [29] [] 2000 [(29, [(0, .inl 0), (1, .inl 12), (2, .inr (false, [(-1, 60)])), (3, .inr (false, [(36, 36)])), (4, .inr (false, [(37, 37)]))], [], kch396),
  (29, [(0, .inl 0), (1, .inl 12), (2, .inr (false, [(1, 60)])), (3, .inr (false, [(36, 36)])), (4, .inr (false, [(38, 38)])), (5, .inr (false, [(-9, -9)]))], [], kch396),
  (29, [(0, .inl 0), (1, .inl 12), (2, .inr (false, [(1, 60)])), (3, .inr (false, [(36, 36)])), (4, .inr (false, [(39, 39)])), (5, .inr (false, [(-9, -9)]))], [], kch396),
  (29, [(0, .inl 0), (1, .inl 12), (2, .inr (false, [(1, 60)])), (3, .inr (false, [(36, 36)])), (4, .inr (false, [(40, 40)])), (5, .inr (false, [(-9, -9)]))], [], kch396)] = true := by decide +kernel
def kch437 : aw_H := [(12, kcx125)]
/-- MiceRegisters.faultOfFigure -/
def kcc592 : ak_C := (18, [.inl 12, .inr (false, [(-1, 60)]), .inr (false, [(37, 37)]), .inr (false, [(0, 0)]), .inr (false, [(0, 7)])], kch23, [], [([], some (.inr (false, [(-9, -9)])), kch437), ([], some (.inr (false, [(-1, 63)])), [])])
def kch438 : aw_H := [(12, kcx127)]
/-- MiceRegisters.faultOfFigure -/
def kcc593 : ak_C := (18, [.inl 12, .inr (false, [(-1, 60)]), .inr (false, [(38, 38)]), .inr (false, [(1, 1)]), .inr (false, [(9, 9)])], kch437, [], [([], some (.inr (false, [(-9, -9)])), kch438), ([], some (.inr (false, [(-1, 63)])), [])])
/-- MiceRegisters.readMouse -/
def kcc594 : ak_C := (19, [.inl 0, .inl 12, .inr (false, [(-1, 60)]), .inr (false, [(36, 36)])], kch394, [24, 29, 30, 31], [([], some (.inr (false, [(-1, 63)])), kch36), ([], some (.inr (false, [(-9, -9)])), kch38)])
theorem kck594 : ai_chk [kcc28, kcc592, kcc593] kcc594 (fun pc => sm_ch sm_t19 pc, sm_Kn 2 6 none, fun x => sm_lk sm_ca2 x, some .int) [24, 29, 30, 31] 6 0 [] [] 2000 [] = true := by decide +kernel
/-- MiceRegisters.readLine -/
def kcc595 : ak_C := (17, [.inl 0, .inl 12, .inr (false, [(-1, 60)]), .inr (false, [(35, 35)])], kch395, [24, 25, 26], [([[], [], [], []], some (.inr (false, [(-1, 60)])), kch40), ([[], [], [(1, 60)], []], some (.inr (false, [(-9, -9)])), kch42)])
theorem kck595 : ai_chk [kcc499] kcc595 (fun pc => sm_ch sm_t17 pc, sm_Kn 2 6 none, fun x => sm_lk sm_ca2 x, some .int) [24, 25, 26] 6 4 [29] [] 2000 [(29, [(0, .inl 0), (1, .inl 12), (2, .inr (false, [(-1, 60)])), (3, .inr (false, [(35, 35)])), (4, .inr (false, [(36, 36)]))], [], kch396),
  (29, [(0, .inl 0), (1, .inl 12), (2, .inr (false, [(1, 60)])), (3, .inr (false, [(35, 35)])), (4, .inr (false, [(37, 37)])), (5, .inr (false, [(-9, -9)]))], [], kch396),
  (29, [(0, .inl 0), (1, .inl 12), (2, .inr (false, [(1, 60)])), (3, .inr (false, [(35, 35)])), (4, .inr (false, [(38, 38)])), (5, .inr (false, [(-9, -9)]))], [], kch396),
  (29, [(0, .inl 0), (1, .inl 12), (2, .inr (false, [(1, 60)])), (3, .inr (false, [(35, 35)])), (4, .inr (false, [(39, 39)])), (5, .inr (false, [(-9, -9)]))], [], kch396)] = true := by decide +kernel
def kch439 : aw_H := [(12, kcx129)]
/-- MiceRegisters.faultOfFigure -/
def kcc596 : ak_C := (18, [.inl 12, .inr (false, [(-1, 60)]), .inr (false, [(36, 36)]), .inr (false, [(0, 0)]), .inr (false, [(0, 7)])], kch23, [], [([], some (.inr (false, [(-9, -9)])), kch439), ([], some (.inr (false, [(-1, 63)])), [])])
def kch440 : aw_H := [(12, kcx131)]
/-- MiceRegisters.faultOfFigure -/
def kcc597 : ak_C := (18, [.inl 12, .inr (false, [(-1, 60)]), .inr (false, [(37, 37)]), .inr (false, [(1, 1)]), .inr (false, [(9, 9)])], kch439, [], [([], some (.inr (false, [(-9, -9)])), kch440), ([], some (.inr (false, [(-1, 63)])), [])])
/-- MiceRegisters.readMouse -/
def kcc598 : ak_C := (19, [.inl 0, .inl 12, .inr (false, [(-1, 60)]), .inr (false, [(35, 35)])], kch394, [24, 29, 30, 31], [([], some (.inr (false, [(-1, 63)])), kch36), ([], some (.inr (false, [(-9, -9)])), kch38)])
theorem kck598 : ai_chk [kcc28, kcc596, kcc597] kcc598 (fun pc => sm_ch sm_t19 pc, sm_Kn 2 6 none, fun x => sm_lk sm_ca2 x, some .int) [24, 29, 30, 31] 6 0 [] [] 2000 [] = true := by decide +kernel
/-- MiceRegisters.readLine -/
def kcc599 : ak_C := (17, [.inl 0, .inl 12, .inr (false, [(-1, 60)]), .inr (false, [(34, 34)])], kch395, [24, 25, 26], [([[], [], [], []], some (.inr (false, [(-1, 60)])), kch40), ([[], [], [(1, 60)], []], some (.inr (false, [(-9, -9)])), kch42)])
theorem kck599 : ai_chk [kcc499] kcc599 (fun pc => sm_ch sm_t17 pc, sm_Kn 2 6 none, fun x => sm_lk sm_ca2 x, some .int) [24, 25, 26] 6 4 [29] [] 2000 [(29, [(0, .inl 0), (1, .inl 12), (2, .inr (false, [(-1, 60)])), (3, .inr (false, [(34, 34)])), (4, .inr (false, [(35, 35)]))], [], kch396),
  (29, [(0, .inl 0), (1, .inl 12), (2, .inr (false, [(1, 60)])), (3, .inr (false, [(34, 34)])), (4, .inr (false, [(36, 36)])), (5, .inr (false, [(-9, -9)]))], [], kch396),
  (29, [(0, .inl 0), (1, .inl 12), (2, .inr (false, [(1, 60)])), (3, .inr (false, [(34, 34)])), (4, .inr (false, [(37, 37)])), (5, .inr (false, [(-9, -9)]))], [], kch396),
  (29, [(0, .inl 0), (1, .inl 12), (2, .inr (false, [(1, 60)])), (3, .inr (false, [(34, 34)])), (4, .inr (false, [(38, 38)])), (5, .inr (false, [(-9, -9)]))], [], kch396)] = true := by decide +kernel
def kch441 : aw_H := [(12, kcx133)]
/-- MiceRegisters.faultOfFigure -/
def kcc600 : ak_C := (18, [.inl 12, .inr (false, [(-1, 60)]), .inr (false, [(35, 35)]), .inr (false, [(0, 0)]), .inr (false, [(0, 7)])], kch23, [], [([], some (.inr (false, [(-9, -9)])), kch441), ([], some (.inr (false, [(-1, 63)])), [])])
def kch442 : aw_H := [(12, kcx135)]
/-- MiceRegisters.faultOfFigure -/
def kcc601 : ak_C := (18, [.inl 12, .inr (false, [(-1, 60)]), .inr (false, [(36, 36)]), .inr (false, [(1, 1)]), .inr (false, [(9, 9)])], kch441, [], [([], some (.inr (false, [(-9, -9)])), kch442), ([], some (.inr (false, [(-1, 63)])), [])])
/-- MiceRegisters.readMouse -/
def kcc602 : ak_C := (19, [.inl 0, .inl 12, .inr (false, [(-1, 60)]), .inr (false, [(34, 34)])], kch394, [24, 29, 30, 31], [([], some (.inr (false, [(-1, 63)])), kch36), ([], some (.inr (false, [(-9, -9)])), kch38)])
theorem kck602 : ai_chk [kcc28, kcc600, kcc601] kcc602 (fun pc => sm_ch sm_t19 pc, sm_Kn 2 6 none, fun x => sm_lk sm_ca2 x, some .int) [24, 29, 30, 31] 6 0 [] [] 2000 [] = true := by decide +kernel
/-- MiceRegisters.readLine -/
def kcc603 : ak_C := (17, [.inl 0, .inl 12, .inr (false, [(-1, 60)]), .inr (false, [(33, 33)])], kch395, [24, 25, 26], [([[], [], [], []], some (.inr (false, [(-1, 60)])), kch40), ([[], [], [(1, 60)], []], some (.inr (false, [(-9, -9)])), kch42)])
theorem kck603 : ai_chk [kcc499] kcc603 (fun pc => sm_ch sm_t17 pc, sm_Kn 2 6 none, fun x => sm_lk sm_ca2 x, some .int) [24, 25, 26] 6 4 [29] [] 2000 [(29, [(0, .inl 0), (1, .inl 12), (2, .inr (false, [(-1, 60)])), (3, .inr (false, [(33, 33)])), (4, .inr (false, [(34, 34)]))], [], kch396),
  (29, [(0, .inl 0), (1, .inl 12), (2, .inr (false, [(1, 60)])), (3, .inr (false, [(33, 33)])), (4, .inr (false, [(35, 35)])), (5, .inr (false, [(-9, -9)]))], [], kch396),
  (29, [(0, .inl 0), (1, .inl 12), (2, .inr (false, [(1, 60)])), (3, .inr (false, [(33, 33)])), (4, .inr (false, [(36, 36)])), (5, .inr (false, [(-9, -9)]))], [], kch396),
  (29, [(0, .inl 0), (1, .inl 12), (2, .inr (false, [(1, 60)])), (3, .inr (false, [(33, 33)])), (4, .inr (false, [(37, 37)])), (5, .inr (false, [(-9, -9)]))], [], kch396)] = true := by decide +kernel
def kch443 : aw_H := [(12, kcx137)]
/-- MiceRegisters.faultOfFigure -/
def kcc604 : ak_C := (18, [.inl 12, .inr (false, [(-1, 60)]), .inr (false, [(34, 34)]), .inr (false, [(0, 0)]), .inr (false, [(0, 7)])], kch23, [], [([], some (.inr (false, [(-9, -9)])), kch443), ([], some (.inr (false, [(-1, 63)])), [])])
def kch444 : aw_H := [(12, kcx139)]
/-- MiceRegisters.faultOfFigure -/
def kcc605 : ak_C := (18, [.inl 12, .inr (false, [(-1, 60)]), .inr (false, [(35, 35)]), .inr (false, [(1, 1)]), .inr (false, [(9, 9)])], kch443, [], [([], some (.inr (false, [(-9, -9)])), kch444), ([], some (.inr (false, [(-1, 63)])), [])])
/-- MiceRegisters.readMouse -/
def kcc606 : ak_C := (19, [.inl 0, .inl 12, .inr (false, [(-1, 60)]), .inr (false, [(33, 33)])], kch394, [24, 29, 30, 31], [([], some (.inr (false, [(-1, 63)])), kch36), ([], some (.inr (false, [(-9, -9)])), kch38)])
theorem kck606 : ai_chk [kcc28, kcc604, kcc605] kcc606 (fun pc => sm_ch sm_t19 pc, sm_Kn 2 6 none, fun x => sm_lk sm_ca2 x, some .int) [24, 29, 30, 31] 6 0 [] [] 2000 [] = true := by decide +kernel
/-- MiceRegisters.readLine -/
def kcc607 : ak_C := (17, [.inl 0, .inl 12, .inr (false, [(-1, 60)]), .inr (false, [(32, 32)])], kch395, [24, 25, 26], [([[], [], [], []], some (.inr (false, [(-1, 60)])), kch40), ([[], [], [(1, 60)], []], some (.inr (false, [(-9, -9)])), kch42)])
theorem kck607 : ai_chk [kcc499] kcc607 (fun pc => sm_ch sm_t17 pc, sm_Kn 2 6 none, fun x => sm_lk sm_ca2 x, some .int) [24, 25, 26] 6 4 [29] [] 2000 [(29, [(0, .inl 0), (1, .inl 12), (2, .inr (false, [(-1, 60)])), (3, .inr (false, [(32, 32)])), (4, .inr (false, [(33, 33)]))], [], kch396),
  (29, [(0, .inl 0), (1, .inl 12), (2, .inr (false, [(1, 60)])), (3, .inr (false, [(32, 32)])), (4, .inr (false, [(34, 34)])), (5, .inr (false, [(-9, -9)]))], [], kch396),
  (29, [(0, .inl 0), (1, .inl 12), (2, .inr (false, [(1, 60)])), (3, .inr (false, [(32, 32)])), (4, .inr (false, [(35, 35)])), (5, .inr (false, [(-9, -9)]))], [], kch396),
  (29, [(0, .inl 0), (1, .inl 12), (2, .inr (false, [(1, 60)])), (3, .inr (false, [(32, 32)])), (4, .inr (false, [(36, 36)])), (5, .inr (false, [(-9, -9)]))], [], kch396)] = true := by decide +kernel
def kch445 : aw_H := [(12, kcx141)]
/-- MiceRegisters.faultOfFigure -/
def kcc608 : ak_C := (18, [.inl 12, .inr (false, [(-1, 60)]), .inr (false, [(33, 33)]), .inr (false, [(0, 0)]), .inr (false, [(0, 7)])], kch23, [], [([], some (.inr (false, [(-9, -9)])), kch445), ([], some (.inr (false, [(-1, 63)])), [])])
def kch446 : aw_H := [(12, kcx143)]
/-- MiceRegisters.faultOfFigure -/
def kcc609 : ak_C := (18, [.inl 12, .inr (false, [(-1, 60)]), .inr (false, [(34, 34)]), .inr (false, [(1, 1)]), .inr (false, [(9, 9)])], kch445, [], [([], some (.inr (false, [(-9, -9)])), kch446), ([], some (.inr (false, [(-1, 63)])), [])])
/-- MiceRegisters.readMouse -/
def kcc610 : ak_C := (19, [.inl 0, .inl 12, .inr (false, [(-1, 60)]), .inr (false, [(32, 32)])], kch394, [24, 29, 30, 31], [([], some (.inr (false, [(-1, 63)])), kch36), ([], some (.inr (false, [(-9, -9)])), kch38)])
theorem kck610 : ai_chk [kcc28, kcc608, kcc609] kcc610 (fun pc => sm_ch sm_t19 pc, sm_Kn 2 6 none, fun x => sm_lk sm_ca2 x, some .int) [24, 29, 30, 31] 6 0 [] [] 2000 [] = true := by decide +kernel
