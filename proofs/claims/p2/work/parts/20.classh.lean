/-! Contracts over ranges of the class, and their checks; printed by a program of mine. -/
/-- MiceRegisters.readLine -/
def kcc611 : ak_C := (17, [.inl 0, .inl 12, .inr (false, [(-1, 60)]), .inr (false, [(31, 31)])], kch395, [24, 25, 26], [([[], [], [], []], some (.inr (false, [(-1, 60)])), kch40), ([[], [], [(1, 60)], []], some (.inr (false, [(-9, -9)])), kch42)])
theorem kck611 : ai_chk [kcc499] kcc611 (fun pc => sm_ch sm_t17 pc, sm_Kn 2 6 none, fun x => sm_lk sm_ca2 x, some .int) [24, 25, 26] 6 4 [29] [] 2000 [(29, [(0, .inl 0), (1, .inl 12), (2, .inr (false, [(-1, 60)])), (3, .inr (false, [(31, 31)])), (4, .inr (false, [(32, 32)]))], [], kch396),
  (29, [(0, .inl 0), (1, .inl 12), (2, .inr (false, [(1, 60)])), (3, .inr (false, [(31, 31)])), (4, .inr (false, [(33, 33)])), (5, .inr (false, [(-9, -9)]))], [], kch396),
  (29, [(0, .inl 0), (1, .inl 12), (2, .inr (false, [(1, 60)])), (3, .inr (false, [(31, 31)])), (4, .inr (false, [(34, 34)])), (5, .inr (false, [(-9, -9)]))], [], kch396),
  (29, [(0, .inl 0), (1, .inl 12), (2, .inr (false, [(1, 60)])), (3, .inr (false, [(31, 31)])), (4, .inr (false, [(35, 35)])), (5, .inr (false, [(-9, -9)]))], [], kch396)] = true := by decide +kernel
def kch447 : aw_H := [(12, kcx145)]
/-- MiceRegisters.faultOfFigure -/
def kcc612 : ak_C := (18, [.inl 12, .inr (false, [(-1, 60)]), .inr (false, [(32, 32)]), .inr (false, [(0, 0)]), .inr (false, [(0, 7)])], kch23, [], [([], some (.inr (false, [(-9, -9)])), kch447), ([], some (.inr (false, [(-1, 63)])), [])])
def kch448 : aw_H := [(12, kcx147)]
/-- MiceRegisters.faultOfFigure -/
def kcc613 : ak_C := (18, [.inl 12, .inr (false, [(-1, 60)]), .inr (false, [(33, 33)]), .inr (false, [(1, 1)]), .inr (false, [(9, 9)])], kch447, [], [([], some (.inr (false, [(-9, -9)])), kch448), ([], some (.inr (false, [(-1, 63)])), [])])
/-- MiceRegisters.readMouse -/
def kcc614 : ak_C := (19, [.inl 0, .inl 12, .inr (false, [(-1, 60)]), .inr (false, [(31, 31)])], kch394, [24, 29, 30, 31], [([], some (.inr (false, [(-1, 63)])), kch36), ([], some (.inr (false, [(-9, -9)])), kch38)])
theorem kck614 : ai_chk [kcc28, kcc612, kcc613] kcc614 (fun pc => sm_ch sm_t19 pc, sm_Kn 2 6 none, fun x => sm_lk sm_ca2 x, some .int) [24, 29, 30, 31] 6 0 [] [] 2000 [] = true := by decide +kernel
/-- MiceRegisters.readLine -/
def kcc615 : ak_C := (17, [.inl 0, .inl 12, .inr (false, [(-1, 60)]), .inr (false, [(30, 30)])], kch395, [24, 25, 26], [([[], [], [], []], some (.inr (false, [(-1, 60)])), kch40), ([[], [], [(1, 60)], []], some (.inr (false, [(-9, -9)])), kch42)])
theorem kck615 : ai_chk [kcc499] kcc615 (fun pc => sm_ch sm_t17 pc, sm_Kn 2 6 none, fun x => sm_lk sm_ca2 x, some .int) [24, 25, 26] 6 4 [29] [] 2000 [(29, [(0, .inl 0), (1, .inl 12), (2, .inr (false, [(-1, 60)])), (3, .inr (false, [(30, 30)])), (4, .inr (false, [(31, 31)]))], [], kch396),
  (29, [(0, .inl 0), (1, .inl 12), (2, .inr (false, [(1, 60)])), (3, .inr (false, [(30, 30)])), (4, .inr (false, [(32, 32)])), (5, .inr (false, [(-9, -9)]))], [], kch396),
  (29, [(0, .inl 0), (1, .inl 12), (2, .inr (false, [(1, 60)])), (3, .inr (false, [(30, 30)])), (4, .inr (false, [(33, 33)])), (5, .inr (false, [(-9, -9)]))], [], kch396),
  (29, [(0, .inl 0), (1, .inl 12), (2, .inr (false, [(1, 60)])), (3, .inr (false, [(30, 30)])), (4, .inr (false, [(34, 34)])), (5, .inr (false, [(-9, -9)]))], [], kch396)] = true := by decide +kernel
def kch449 : aw_H := [(12, kcx149)]
/-- MiceRegisters.faultOfFigure -/
def kcc616 : ak_C := (18, [.inl 12, .inr (false, [(-1, 60)]), .inr (false, [(31, 31)]), .inr (false, [(0, 0)]), .inr (false, [(0, 7)])], kch23, [], [([], some (.inr (false, [(-9, -9)])), kch449), ([], some (.inr (false, [(-1, 63)])), [])])
def kch450 : aw_H := [(12, kcx151)]
/-- MiceRegisters.faultOfFigure -/
def kcc617 : ak_C := (18, [.inl 12, .inr (false, [(-1, 60)]), .inr (false, [(32, 32)]), .inr (false, [(1, 1)]), .inr (false, [(9, 9)])], kch449, [], [([], some (.inr (false, [(-9, -9)])), kch450), ([], some (.inr (false, [(-1, 63)])), [])])
/-- MiceRegisters.readMouse -/
def kcc618 : ak_C := (19, [.inl 0, .inl 12, .inr (false, [(-1, 60)]), .inr (false, [(30, 30)])], kch394, [24, 29, 30, 31], [([], some (.inr (false, [(-1, 63)])), kch36), ([], some (.inr (false, [(-9, -9)])), kch38)])
theorem kck618 : ai_chk [kcc28, kcc616, kcc617] kcc618 (fun pc => sm_ch sm_t19 pc, sm_Kn 2 6 none, fun x => sm_lk sm_ca2 x, some .int) [24, 29, 30, 31] 6 0 [] [] 2000 [] = true := by decide +kernel
/-- MiceRegisters.readLine -/
def kcc619 : ak_C := (17, [.inl 0, .inl 12, .inr (false, [(-1, 60)]), .inr (false, [(29, 29)])], kch395, [24, 25, 26], [([[], [], [], []], some (.inr (false, [(-1, 60)])), kch40), ([[], [], [(1, 60)], []], some (.inr (false, [(-9, -9)])), kch42)])
theorem kck619 : ai_chk [kcc499] kcc619 (fun pc => sm_ch sm_t17 pc, sm_Kn 2 6 none, fun x => sm_lk sm_ca2 x, some .int) [24, 25, 26] 6 4 [29] [] 2000 [(29, [(0, .inl 0), (1, .inl 12), (2, .inr (false, [(-1, 60)])), (3, .inr (false, [(29, 29)])), (4, .inr (false, [(30, 30)]))], [], kch396),
  (29, [(0, .inl 0), (1, .inl 12), (2, .inr (false, [(1, 60)])), (3, .inr (false, [(29, 29)])), (4, .inr (false, [(31, 31)])), (5, .inr (false, [(-9, -9)]))], [], kch396),
  (29, [(0, .inl 0), (1, .inl 12), (2, .inr (false, [(1, 60)])), (3, .inr (false, [(29, 29)])), (4, .inr (false, [(32, 32)])), (5, .inr (false, [(-9, -9)]))], [], kch396),
  (29, [(0, .inl 0), (1, .inl 12), (2, .inr (false, [(1, 60)])), (3, .inr (false, [(29, 29)])), (4, .inr (false, [(33, 33)])), (5, .inr (false, [(-9, -9)]))], [], kch396)] = true := by decide +kernel
def kch451 : aw_H := [(12, kcx153)]
/-- MiceRegisters.faultOfFigure -/
def kcc620 : ak_C := (18, [.inl 12, .inr (false, [(-1, 60)]), .inr (false, [(30, 30)]), .inr (false, [(0, 0)]), .inr (false, [(0, 7)])], kch23, [], [([], some (.inr (false, [(-9, -9)])), kch451), ([], some (.inr (false, [(-1, 63)])), [])])
def kch452 : aw_H := [(12, kcx155)]
/-- MiceRegisters.faultOfFigure -/
def kcc621 : ak_C := (18, [.inl 12, .inr (false, [(-1, 60)]), .inr (false, [(31, 31)]), .inr (false, [(1, 1)]), .inr (false, [(9, 9)])], kch451, [], [([], some (.inr (false, [(-9, -9)])), kch452), ([], some (.inr (false, [(-1, 63)])), [])])
/-- MiceRegisters.readMouse -/
def kcc622 : ak_C := (19, [.inl 0, .inl 12, .inr (false, [(-1, 60)]), .inr (false, [(29, 29)])], kch394, [24, 29, 30, 31], [([], some (.inr (false, [(-1, 63)])), kch36), ([], some (.inr (false, [(-9, -9)])), kch38)])
theorem kck622 : ai_chk [kcc28, kcc620, kcc621] kcc622 (fun pc => sm_ch sm_t19 pc, sm_Kn 2 6 none, fun x => sm_lk sm_ca2 x, some .int) [24, 29, 30, 31] 6 0 [] [] 2000 [] = true := by decide +kernel
/-- MiceRegisters.readLine -/
def kcc623 : ak_C := (17, [.inl 0, .inl 12, .inr (false, [(-1, 60)]), .inr (false, [(28, 28)])], kch395, [24, 25, 26], [([[], [], [], []], some (.inr (false, [(-1, 60)])), kch40), ([[], [], [(1, 60)], []], some (.inr (false, [(-9, -9)])), kch42)])
theorem kck623 : ai_chk [kcc499] kcc623 (fun pc => sm_ch sm_t17 pc, sm_Kn 2 6 none, fun x => sm_lk sm_ca2 x, some .int) [24, 25, 26] 6 4 [29] [] 2000 [(29, [(0, .inl 0), (1, .inl 12), (2, .inr (false, [(-1, 60)])), (3, .inr (false, [(28, 28)])), (4, .inr (false, [(29, 29)]))], [], kch396),
  (29, [(0, .inl 0), (1, .inl 12), (2, .inr (false, [(1, 60)])), (3, .inr (false, [(28, 28)])), (4, .inr (false, [(30, 30)])), (5, .inr (false, [(-9, -9)]))], [], kch396),
  (29, [(0, .inl 0), (1, .inl 12), (2, .inr (false, [(1, 60)])), (3, .inr (false, [(28, 28)])), (4, .inr (false, [(31, 31)])), (5, .inr (false, [(-9, -9)]))], [], kch396),
  (29, [(0, .inl 0), (1, .inl 12), (2, .inr (false, [(1, 60)])), (3, .inr (false, [(28, 28)])), (4, .inr (false, [(32, 32)])), (5, .inr (false, [(-9, -9)]))], [], kch396)] = true := by decide +kernel
def kch453 : aw_H := [(12, kcx157)]
/-- MiceRegisters.faultOfFigure -/
def kcc624 : ak_C := (18, [.inl 12, .inr (false, [(-1, 60)]), .inr (false, [(29, 29)]), .inr (false, [(0, 0)]), .inr (false, [(0, 7)])], kch23, [], [([], some (.inr (false, [(-9, -9)])), kch453), ([], some (.inr (false, [(-1, 63)])), [])])
def kch454 : aw_H := [(12, kcx159)]
/-- MiceRegisters.faultOfFigure -/
def kcc625 : ak_C := (18, [.inl 12, .inr (false, [(-1, 60)]), .inr (false, [(30, 30)]), .inr (false, [(1, 1)]), .inr (false, [(9, 9)])], kch453, [], [([], some (.inr (false, [(-9, -9)])), kch454), ([], some (.inr (false, [(-1, 63)])), [])])
/-- MiceRegisters.readMouse -/
def kcc626 : ak_C := (19, [.inl 0, .inl 12, .inr (false, [(-1, 60)]), .inr (false, [(28, 28)])], kch394, [24, 29, 30, 31], [([], some (.inr (false, [(-1, 63)])), kch36), ([], some (.inr (false, [(-9, -9)])), kch38)])
theorem kck626 : ai_chk [kcc28, kcc624, kcc625] kcc626 (fun pc => sm_ch sm_t19 pc, sm_Kn 2 6 none, fun x => sm_lk sm_ca2 x, some .int) [24, 29, 30, 31] 6 0 [] [] 2000 [] = true := by decide +kernel
/-- MiceRegisters.readLine -/
def kcc627 : ak_C := (17, [.inl 0, .inl 12, .inr (false, [(-1, 60)]), .inr (false, [(27, 27)])], kch395, [24, 25, 26], [([[], [], [], []], some (.inr (false, [(-1, 60)])), kch40), ([[], [], [(1, 60)], []], some (.inr (false, [(-9, -9)])), kch42)])
theorem kck627 : ai_chk [kcc499] kcc627 (fun pc => sm_ch sm_t17 pc, sm_Kn 2 6 none, fun x => sm_lk sm_ca2 x, some .int) [24, 25, 26] 6 4 [29] [] 2000 [(29, [(0, .inl 0), (1, .inl 12), (2, .inr (false, [(-1, 60)])), (3, .inr (false, [(27, 27)])), (4, .inr (false, [(28, 28)]))], [], kch396),
  (29, [(0, .inl 0), (1, .inl 12), (2, .inr (false, [(1, 60)])), (3, .inr (false, [(27, 27)])), (4, .inr (false, [(29, 29)])), (5, .inr (false, [(-9, -9)]))], [], kch396),
  (29, [(0, .inl 0), (1, .inl 12), (2, .inr (false, [(1, 60)])), (3, .inr (false, [(27, 27)])), (4, .inr (false, [(30, 30)])), (5, .inr (false, [(-9, -9)]))], [], kch396),
  (29, [(0, .inl 0), (1, .inl 12), (2, .inr (false, [(1, 60)])), (3, .inr (false, [(27, 27)])), (4, .inr (false, [(31, 31)])), (5, .inr (false, [(-9, -9)]))], [], kch396)] = true := by decide +kernel
def kch455 : aw_H := [(12, kcx161)]
/-- MiceRegisters.faultOfFigure -/
def kcc628 : ak_C := (18, [.inl 12, .inr (false, [(-1, 60)]), .inr (false, [(28, 28)]), .inr (false, [(0, 0)]), .inr (false, [(0, 7)])], kch23, [], [([], some (.inr (false, [(-9, -9)])), kch455), ([], some (.inr (false, [(-1, 63)])), [])])
def kch456 : aw_H := [(12, kcx163)]
/-- MiceRegisters.faultOfFigure -/
def kcc629 : ak_C := (18, [.inl 12, .inr (false, [(-1, 60)]), .inr (false, [(29, 29)]), .inr (false, [(1, 1)]), .inr (false, [(9, 9)])], kch455, [], [([], some (.inr (false, [(-9, -9)])), kch456), ([], some (.inr (false, [(-1, 63)])), [])])
/-- MiceRegisters.readMouse -/
def kcc630 : ak_C := (19, [.inl 0, .inl 12, .inr (false, [(-1, 60)]), .inr (false, [(27, 27)])], kch394, [24, 29, 30, 31], [([], some (.inr (false, [(-1, 63)])), kch36), ([], some (.inr (false, [(-9, -9)])), kch38)])
theorem kck630 : ai_chk [kcc28, kcc628, kcc629] kcc630 (fun pc => sm_ch sm_t19 pc, sm_Kn 2 6 none, fun x => sm_lk sm_ca2 x, some .int) [24, 29, 30, 31] 6 0 [] [] 2000 [] = true := by decide +kernel
/-- MiceRegisters.readLine -/
def kcc631 : ak_C := (17, [.inl 0, .inl 12, .inr (false, [(-1, 60)]), .inr (false, [(26, 26)])], kch395, [24, 25, 26], [([[], [], [], []], some (.inr (false, [(-1, 60)])), kch40), ([[], [], [(1, 60)], []], some (.inr (false, [(-9, -9)])), kch42)])
theorem kck631 : ai_chk [kcc499] kcc631 (fun pc => sm_ch sm_t17 pc, sm_Kn 2 6 none, fun x => sm_lk sm_ca2 x, some .int) [24, 25, 26] 6 4 [29] [] 2000 [(29, [(0, .inl 0), (1, .inl 12), (2, .inr (false, [(-1, 60)])), (3, .inr (false, [(26, 26)])), (4, .inr (false, [(27, 27)]))], [], kch396),
  (29, [(0, .inl 0), (1, .inl 12), (2, .inr (false, [(1, 60)])), (3, .inr (false, [(26, 26)])), (4, .inr (false, [(28, 28)])), (5, .inr (false, [(-9, -9)]))], [], kch396),
  (29, [(0, .inl 0), (1, .inl 12), (2, .inr (false, [(1, 60)])), (3, .inr (false, [(26, 26)])), (4, .inr (false, [(29, 29)])), (5, .inr (false, [(-9, -9)]))], [], kch396),
  (29, [(0, .inl 0), (1, .inl 12), (2, .inr (false, [(1, 60)])), (3, .inr (false, [(26, 26)])), (4, .inr (false, [(30, 30)])), (5, .inr (false, [(-9, -9)]))], [], kch396)] = true := by decide +kernel
def kch457 : aw_H := [(12, kcx165)]
/-- MiceRegisters.faultOfFigure -/
def kcc632 : ak_C := (18, [.inl 12, .inr (false, [(-1, 60)]), .inr (false, [(27, 27)]), .inr (false, [(0, 0)]), .inr (false, [(0, 7)])], kch23, [], [([], some (.inr (false, [(-9, -9)])), kch457), ([], some (.inr (false, [(-1, 63)])), [])])
def kch458 : aw_H := [(12, kcx167)]
/-- MiceRegisters.faultOfFigure -/
def kcc633 : ak_C := (18, [.inl 12, .inr (false, [(-1, 60)]), .inr (false, [(28, 28)]), .inr (false, [(1, 1)]), .inr (false, [(9, 9)])], kch457, [], [([], some (.inr (false, [(-9, -9)])), kch458), ([], some (.inr (false, [(-1, 63)])), [])])
/-- MiceRegisters.readMouse -/
def kcc634 : ak_C := (19, [.inl 0, .inl 12, .inr (false, [(-1, 60)]), .inr (false, [(26, 26)])], kch394, [24, 29, 30, 31], [([], some (.inr (false, [(-1, 63)])), kch36), ([], some (.inr (false, [(-9, -9)])), kch38)])
theorem kck634 : ai_chk [kcc28, kcc632, kcc633] kcc634 (fun pc => sm_ch sm_t19 pc, sm_Kn 2 6 none, fun x => sm_lk sm_ca2 x, some .int) [24, 29, 30, 31] 6 0 [] [] 2000 [] = true := by decide +kernel
/-- MiceRegisters.readLine -/
def kcc635 : ak_C := (17, [.inl 0, .inl 12, .inr (false, [(-1, 60)]), .inr (false, [(25, 25)])], kch395, [24, 25, 26], [([[], [], [], []], some (.inr (false, [(-1, 60)])), kch40), ([[], [], [(1, 60)], []], some (.inr (false, [(-9, -9)])), kch42)])
theorem kck635 : ai_chk [kcc499] kcc635 (fun pc => sm_ch sm_t17 pc, sm_Kn 2 6 none, fun x => sm_lk sm_ca2 x, some .int) [24, 25, 26] 6 4 [29] [] 2000 [(29, [(0, .inl 0), (1, .inl 12), (2, .inr (false, [(-1, 60)])), (3, .inr (false, [(25, 25)])), (4, .inr (false, [(26, 26)]))], [], kch396),
  (29, [(0, .inl 0), (1, .inl 12), (2, .inr (false, [(1, 60)])), (3, .inr (false, [(25, 25)])), (4, .inr (false, [(27, 27)])), (5, .inr (false, [(-9, -9)]))], [], kch396),
  (29, [(0, .inl 0), (1, .inl 12), (2, .inr (false, [(1, 60)])), (3, .inr (false, [(25, 25)])), (4, .inr (false, [(28, 28)])), (5, .inr (false, [(-9, -9)]))], [], kch396),
  (29, [(0, .inl 0), (1, .inl 12), (2, .inr (false, [(1, 60)])), (3, .inr (false, [(25, 25)])), (4, .inr (false, [(29, 29)])), (5, .inr (false, [(-9, -9)]))], [], kch396)] = true := by decide +kernel
def kch459 : aw_H := [(12, kcx169)]
/-- MiceRegisters.faultOfFigure -/
def kcc636 : ak_C := (18, [.inl 12, .inr (false, [(-1, 60)]), .inr (false, [(26, 26)]), .inr (false, [(0, 0)]), .inr (false, [(0, 7)])], kch23, [], [([], some (.inr (false, [(-9, -9)])), kch459), ([], some (.inr (false, [(-1, 63)])), [])])
def kch460 : aw_H := [(12, kcx171)]
/-- MiceRegisters.faultOfFigure -/
def kcc637 : ak_C := (18, [.inl 12, .inr (false, [(-1, 60)]), .inr (false, [(27, 27)]), .inr (false, [(1, 1)]), .inr (false, [(9, 9)])], kch459, [], [([], some (.inr (false, [(-9, -9)])), kch460), ([], some (.inr (false, [(-1, 63)])), [])])
/-- MiceRegisters.readMouse -/
def kcc638 : ak_C := (19, [.inl 0, .inl 12, .inr (false, [(-1, 60)]), .inr (false, [(25, 25)])], kch394, [24, 29, 30, 31], [([], some (.inr (false, [(-1, 63)])), kch36), ([], some (.inr (false, [(-9, -9)])), kch38)])
theorem kck638 : ai_chk [kcc28, kcc636, kcc637] kcc638 (fun pc => sm_ch sm_t19 pc, sm_Kn 2 6 none, fun x => sm_lk sm_ca2 x, some .int) [24, 29, 30, 31] 6 0 [] [] 2000 [] = true := by decide +kernel
/-- MiceRegisters.readLine -/
def kcc639 : ak_C := (17, [.inl 0, .inl 12, .inr (false, [(-1, 60)]), .inr (false, [(24, 24)])], kch395, [24, 25, 26], [([[], [], [], []], some (.inr (false, [(-1, 60)])), kch40), ([[], [], [(1, 60)], []], some (.inr (false, [(-9, -9)])), kch42)])
theorem kck639 : ai_chk [kcc499] kcc639 (fun pc => sm_ch sm_t17 pc, sm_Kn 2 6 none, fun x => sm_lk sm_ca2 x, some .int) [24, 25, 26] 6 4 [29] [] 2000 [(29, [(0, .inl 0), (1, .inl 12), (2, .inr (false, [(-1, 60)])), (3, .inr (false, [(24, 24)])), (4, .inr (false, [(25, 25)]))], [], kch396),
  (29, [(0, .inl 0), (1, .inl 12), (2, .inr (false, [(1, 60)])), (3, .inr (false, [(24, 24)])), (4, .inr (false, [(26, 26)])), (5, .inr (false, [(-9, -9)]))], [], kch396),
  (29, [(0, .inl 0), (1, .inl 12), (2, .inr (false, [(1, 60)])), (3, .inr (false, [(24, 24)])), (4, .inr (false, [(27, 27)])), (5, .inr (false, [(-9, -9)]))], [], kch396),
  (29, [(0, .inl 0), (1, .inl 12), (2, .inr (false, [(1, 60)])), (3, .inr (false, [(24, 24)])), (4, .inr (false, [(28, 28)])), (5, .inr (false, [(-9, -9)]))], [], kch396)] = true := by decide +kernel
def kch461 : aw_H := [(12, kcx173)]
/-- MiceRegisters.faultOfFigure -/
def kcc640 : ak_C := (18, [.inl 12, .inr (false, [(-1, 60)]), .inr (false, [(25, 25)]), .inr (false, [(0, 0)]), .inr (false, [(0, 7)])], kch23, [], [([], some (.inr (false, [(-9, -9)])), kch461), ([], some (.inr (false, [(-1, 63)])), [])])
def kch462 : aw_H := [(12, kcx175)]
/-- MiceRegisters.faultOfFigure -/
def kcc641 : ak_C := (18, [.inl 12, .inr (false, [(-1, 60)]), .inr (false, [(26, 26)]), .inr (false, [(1, 1)]), .inr (false, [(9, 9)])], kch461, [], [([], some (.inr (false, [(-9, -9)])), kch462), ([], some (.inr (false, [(-1, 63)])), [])])
/-- MiceRegisters.readMouse -/
def kcc642 : ak_C := (19, [.inl 0, .inl 12, .inr (false, [(-1, 60)]), .inr (false, [(24, 24)])], kch394, [24, 29, 30, 31], [([], some (.inr (false, [(-1, 63)])), kch36), ([], some (.inr (false, [(-9, -9)])), kch38)])
theorem kck642 : ai_chk [kcc28, kcc640, kcc641] kcc642 (fun pc => sm_ch sm_t19 pc, sm_Kn 2 6 none, fun x => sm_lk sm_ca2 x, some .int) [24, 29, 30, 31] 6 0 [] [] 2000 [] = true := by decide +kernel
/-- MiceRegisters.readLine -/
def kcc643 : ak_C := (17, [.inl 0, .inl 12, .inr (false, [(-1, 60)]), .inr (false, [(23, 23)])], kch395, [24, 25, 26], [([[], [], [], []], some (.inr (false, [(-1, 60)])), kch40), ([[], [], [(1, 60)], []], some (.inr (false, [(-9, -9)])), kch42)])
theorem kck643 : ai_chk [kcc499] kcc643 (fun pc => sm_ch sm_t17 pc, sm_Kn 2 6 none, fun x => sm_lk sm_ca2 x, some .int) [24, 25, 26] 6 4 [29] [] 2000 [(29, [(0, .inl 0), (1, .inl 12), (2, .inr (false, [(-1, 60)])), (3, .inr (false, [(23, 23)])), (4, .inr (false, [(24, 24)]))], [], kch396),
  (29, [(0, .inl 0), (1, .inl 12), (2, .inr (false, [(1, 60)])), (3, .inr (false, [(23, 23)])), (4, .inr (false, [(25, 25)])), (5, .inr (false, [(-9, -9)]))], [], kch396),
  (29, [(0, .inl 0), (1, .inl 12), (2, .inr (false, [(1, 60)])), (3, .inr (false, [(23, 23)])), (4, .inr (false, [(26, 26)])), (5, .inr (false, [(-9, -9)]))], [], kch396),
  (29, [(0, .inl 0), (1, .inl 12), (2, .inr (false, [(1, 60)])), (3, .inr (false, [(23, 23)])), (4, .inr (false, [(27, 27)])), (5, .inr (false, [(-9, -9)]))], [], kch396)] = true := by decide +kernel
def kch463 : aw_H := [(12, kcx177)]
/-- MiceRegisters.faultOfFigure -/
def kcc644 : ak_C := (18, [.inl 12, .inr (false, [(-1, 60)]), .inr (false, [(24, 24)]), .inr (false, [(0, 0)]), .inr (false, [(0, 7)])], kch23, [], [([], some (.inr (false, [(-9, -9)])), kch463), ([], some (.inr (false, [(-1, 63)])), [])])
def kch464 : aw_H := [(12, kcx179)]
/-- MiceRegisters.faultOfFigure -/
def kcc645 : ak_C := (18, [.inl 12, .inr (false, [(-1, 60)]), .inr (false, [(25, 25)]), .inr (false, [(1, 1)]), .inr (false, [(9, 9)])], kch463, [], [([], some (.inr (false, [(-9, -9)])), kch464), ([], some (.inr (false, [(-1, 63)])), [])])
/-- MiceRegisters.readMouse -/
def kcc646 : ak_C := (19, [.inl 0, .inl 12, .inr (false, [(-1, 60)]), .inr (false, [(23, 23)])], kch394, [24, 29, 30, 31], [([], some (.inr (false, [(-1, 63)])), kch36), ([], some (.inr (false, [(-9, -9)])), kch38)])
theorem kck646 : ai_chk [kcc28, kcc644, kcc645] kcc646 (fun pc => sm_ch sm_t19 pc, sm_Kn 2 6 none, fun x => sm_lk sm_ca2 x, some .int) [24, 29, 30, 31] 6 0 [] [] 2000 [] = true := by decide +kernel
/-- MiceRegisters.readLine -/
def kcc647 : ak_C := (17, [.inl 0, .inl 12, .inr (false, [(-1, 60)]), .inr (false, [(22, 22)])], kch395, [24, 25, 26], [([[], [], [], []], some (.inr (false, [(-1, 60)])), kch40), ([[], [], [(1, 60)], []], some (.inr (false, [(-9, -9)])), kch42)])
theorem kck647 : ai_chk [kcc499] kcc647 (fun pc => sm_ch sm_t17 pc, sm_Kn 2 6 none, fun x => sm_lk sm_ca2 x, some .int) [24, 25, 26] 6 4 [29] [] 2000 [(29, [(0, .inl 0), (1, .inl 12), (2, .inr (false, [(-1, 60)])), (3, .inr (false, [(22, 22)])), (4, .inr (false, [(23, 23)]))], [], kch396),
  (29, [(0, .inl 0), (1, .inl 12), (2, .inr (false, [(1, 60)])), (3, .inr (false, [(22, 22)])), (4, .inr (false, [(24, 24)])), (5, .inr (false, [(-9, -9)]))], [], kch396),
  (29, [(0, .inl 0), (1, .inl 12), (2, .inr (false, [(1, 60)])), (3, .inr (false, [(22, 22)])), (4, .inr (false, [(25, 25)])), (5, .inr (false, [(-9, -9)]))], [], kch396),
  (29, [(0, .inl 0), (1, .inl 12), (2, .inr (false, [(1, 60)])), (3, .inr (false, [(22, 22)])), (4, .inr (false, [(26, 26)])), (5, .inr (false, [(-9, -9)]))], [], kch396)] = true := by decide +kernel
def kch465 : aw_H := [(12, kcx181)]
/-- MiceRegisters.faultOfFigure -/
def kcc648 : ak_C := (18, [.inl 12, .inr (false, [(-1, 60)]), .inr (false, [(23, 23)]), .inr (false, [(0, 0)]), .inr (false, [(0, 7)])], kch23, [], [([], some (.inr (false, [(-9, -9)])), kch465), ([], some (.inr (false, [(-1, 63)])), [])])
def kch466 : aw_H := [(12, kcx183)]
/-- MiceRegisters.faultOfFigure -/
def kcc649 : ak_C := (18, [.inl 12, .inr (false, [(-1, 60)]), .inr (false, [(24, 24)]), .inr (false, [(1, 1)]), .inr (false, [(9, 9)])], kch465, [], [([], some (.inr (false, [(-9, -9)])), kch466), ([], some (.inr (false, [(-1, 63)])), [])])
/-- MiceRegisters.readMouse -/
def kcc650 : ak_C := (19, [.inl 0, .inl 12, .inr (false, [(-1, 60)]), .inr (false, [(22, 22)])], kch394, [24, 29, 30, 31], [([], some (.inr (false, [(-1, 63)])), kch36), ([], some (.inr (false, [(-9, -9)])), kch38)])
theorem kck650 : ai_chk [kcc28, kcc648, kcc649] kcc650 (fun pc => sm_ch sm_t19 pc, sm_Kn 2 6 none, fun x => sm_lk sm_ca2 x, some .int) [24, 29, 30, 31] 6 0 [] [] 2000 [] = true := by decide +kernel
/-- MiceRegisters.readLine -/
def kcc651 : ak_C := (17, [.inl 0, .inl 12, .inr (false, [(-1, 60)]), .inr (false, [(21, 21)])], kch395, [24, 25, 26], [([[], [], [], []], some (.inr (false, [(-1, 60)])), kch40), ([[], [], [(1, 60)], []], some (.inr (false, [(-9, -9)])), kch42)])
theorem kck651 : ai_chk [kcc499] kcc651 (fun pc => sm_ch sm_t17 pc, sm_Kn 2 6 none, fun x => sm_lk sm_ca2 x, some .int) [24, 25, 26] 6 4 [29] [] 2000 [(29, [(0, .inl 0), (1, .inl 12), (2, .inr (false, [(-1, 60)])), (3, .inr (false, [(21, 21)])), (4, .inr (false, [(22, 22)]))], [], kch396),
  (29, [(0, .inl 0), (1, .inl 12), (2, .inr (false, [(1, 60)])), (3, .inr (false, [(21, 21)])), (4, .inr (false, [(23, 23)])), (5, .inr (false, [(-9, -9)]))], [], kch396),
  (29, [(0, .inl 0), (1, .inl 12), (2, .inr (false, [(1, 60)])), (3, .inr (false, [(21, 21)])), (4, .inr (false, [(24, 24)])), (5, .inr (false, [(-9, -9)]))], [], kch396),
  (29, [(0, .inl 0), (1, .inl 12), (2, .inr (false, [(1, 60)])), (3, .inr (false, [(21, 21)])), (4, .inr (false, [(25, 25)])), (5, .inr (false, [(-9, -9)]))], [], kch396)] = true := by decide +kernel
def kch467 : aw_H := [(12, kcx185)]
/-- MiceRegisters.faultOfFigure -/
def kcc652 : ak_C := (18, [.inl 12, .inr (false, [(-1, 60)]), .inr (false, [(22, 22)]), .inr (false, [(0, 0)]), .inr (false, [(0, 7)])], kch23, [], [([], some (.inr (false, [(-9, -9)])), kch467), ([], some (.inr (false, [(-1, 63)])), [])])
def kch468 : aw_H := [(12, kcx187)]
/-- MiceRegisters.faultOfFigure -/
def kcc653 : ak_C := (18, [.inl 12, .inr (false, [(-1, 60)]), .inr (false, [(23, 23)]), .inr (false, [(1, 1)]), .inr (false, [(9, 9)])], kch467, [], [([], some (.inr (false, [(-9, -9)])), kch468), ([], some (.inr (false, [(-1, 63)])), [])])
/-- MiceRegisters.readMouse -/
def kcc654 : ak_C := (19, [.inl 0, .inl 12, .inr (false, [(-1, 60)]), .inr (false, [(21, 21)])], kch394, [24, 29, 30, 31], [([], some (.inr (false, [(-1, 63)])), kch36), ([], some (.inr (false, [(-9, -9)])), kch38)])
theorem kck654 : ai_chk [kcc28, kcc652, kcc653] kcc654 (fun pc => sm_ch sm_t19 pc, sm_Kn 2 6 none, fun x => sm_lk sm_ca2 x, some .int) [24, 29, 30, 31] 6 0 [] [] 2000 [] = true := by decide +kernel
/-- MiceRegisters.readLine -/
def kcc655 : ak_C := (17, [.inl 0, .inl 12, .inr (false, [(-1, 60)]), .inr (false, [(20, 20)])], kch395, [24, 25, 26], [([[], [], [], []], some (.inr (false, [(-1, 60)])), kch40), ([[], [], [(1, 60)], []], some (.inr (false, [(-9, -9)])), kch42)])
theorem kck655 : ai_chk [kcc499] kcc655 (fun pc => sm_ch sm_t17 pc, sm_Kn 2 6 none, fun x => sm_lk sm_ca2 x, some .int) [24, 25, 26] 6 4 [29] [] 2000 [(29, [(0, .inl 0), (1, .inl 12), (2, .inr (false, [(-1, 60)])), (3, .inr (false, [(20, 20)])), (4, .inr (false, [(21, 21)]))], [], kch396),
  (29, [(0, .inl 0), (1, .inl 12), (2, .inr (false, [(1, 60)])), (3, .inr (false, [(20, 20)])), (4, .inr (false, [(22, 22)])), (5, .inr (false, [(-9, -9)]))], [], kch396),
  (29, [(0, .inl 0), (1, .inl 12), (2, .inr (false, [(1, 60)])), (3, .inr (false, [(20, 20)])), (4, .inr (false, [(23, 23)])), (5, .inr (false, [(-9, -9)]))], [], kch396),
  (29, [(0, .inl 0), (1, .inl 12), (2, .inr (false, [(1, 60)])), (3, .inr (false, [(20, 20)])), (4, .inr (false, [(24, 24)])), (5, .inr (false, [(-9, -9)]))], [], kch396)] = true := by decide +kernel
def kch469 : aw_H := [(12, kcx189)]
/-- MiceRegisters.faultOfFigure -/
def kcc656 : ak_C := (18, [.inl 12, .inr (false, [(-1, 60)]), .inr (false, [(21, 21)]), .inr (false, [(0, 0)]), .inr (false, [(0, 7)])], kch23, [], [([], some (.inr (false, [(-9, -9)])), kch469), ([], some (.inr (false, [(-1, 63)])), [])])
def kch470 : aw_H := [(12, kcx191)]
/-- MiceRegisters.faultOfFigure -/
def kcc657 : ak_C := (18, [.inl 12, .inr (false, [(-1, 60)]), .inr (false, [(22, 22)]), .inr (false, [(1, 1)]), .inr (false, [(9, 9)])], kch469, [], [([], some (.inr (false, [(-9, -9)])), kch470), ([], some (.inr (false, [(-1, 63)])), [])])
/-- MiceRegisters.readMouse -/
def kcc658 : ak_C := (19, [.inl 0, .inl 12, .inr (false, [(-1, 60)]), .inr (false, [(20, 20)])], kch394, [24, 29, 30, 31], [([], some (.inr (false, [(-1, 63)])), kch36), ([], some (.inr (false, [(-9, -9)])), kch38)])
theorem kck658 : ai_chk [kcc28, kcc656, kcc657] kcc658 (fun pc => sm_ch sm_t19 pc, sm_Kn 2 6 none, fun x => sm_lk sm_ca2 x, some .int) [24, 29, 30, 31] 6 0 [] [] 2000 [] = true := by decide +kernel
/-- MiceRegisters.readLine -/
def kcc659 : ak_C := (17, [.inl 0, .inl 12, .inr (false, [(-1, 60)]), .inr (false, [(19, 19)])], kch395, [24, 25, 26], [([[], [], [], []], some (.inr (false, [(-1, 60)])), kch40), ([[], [], [(1, 60)], []], some (.inr (false, [(-9, -9)])), kch42)])
theorem kck659 : ai_chk [kcc499] kcc659 (fun pc => sm_ch sm_t17 pc, sm_Kn 2 6 none, fun x => sm_lk sm_ca2 x, some .int) [24, 25, 26] 6 4 [29] [] 2000 [(29, [(0, .inl 0), (1, .inl 12), (2, .inr (false, [(-1, 60)])), (3, .inr (false, [(19, 19)])), (4, .inr (false, [(20, 20)]))], [], kch396),
  (29, [(0, .inl 0), (1, .inl 12), (2, .inr (false, [(1, 60)])), (3, .inr (false, [(19, 19)])), (4, .inr (false, [(21, 21)])), (5, .inr (false, [(-9, -9)]))], [], kch396),
  (29, [(0, .inl 0), (1, .inl 12), (2, .inr (false, [(1, 60)])), (3, .inr (false, [(19, 19)])), (4, .inr (false, [(22, 22)])), (5, .inr (false, [(-9, -9)]))], [], kch396),
  (29, [(0, .inl 0), (1, .inl 12), (2, .inr (false, [(1, 60)])), (3, .inr (false, [(19, 19)])), (4, .inr (false, [(23, 23)])), (5, .inr (false, [(-9, -9)]))], [], kch396)] = true := by decide +kernel
def kch471 : aw_H := [(12, kcx193)]
/-- MiceRegisters.faultOfFigure -/
def kcc660 : ak_C := (18, [.inl 12, .inr (false, [(-1, 60)]), .inr (false, [(20, 20)]), .inr (false, [(0, 0)]), .inr (false, [(0, 7)])], kch23, [], [([], some (.inr (false, [(-9, -9)])), kch471), ([], some (.inr (false, [(-1, 63)])), [])])
def kch472 : aw_H := [(12, kcx195)]
/-- MiceRegisters.faultOfFigure -/
def kcc661 : ak_C := (18, [.inl 12, .inr (false, [(-1, 60)]), .inr (false, [(21, 21)]), .inr (false, [(1, 1)]), .inr (false, [(9, 9)])], kch471, [], [([], some (.inr (false, [(-9, -9)])), kch472), ([], some (.inr (false, [(-1, 63)])), [])])
/-- MiceRegisters.readMouse -/
def kcc662 : ak_C := (19, [.inl 0, .inl 12, .inr (false, [(-1, 60)]), .inr (false, [(19, 19)])], kch394, [24, 29, 30, 31], [([], some (.inr (false, [(-1, 63)])), kch36), ([], some (.inr (false, [(-9, -9)])), kch38)])
theorem kck662 : ai_chk [kcc28, kcc660, kcc661] kcc662 (fun pc => sm_ch sm_t19 pc, sm_Kn 2 6 none, fun x => sm_lk sm_ca2 x, some .int) [24, 29, 30, 31] 6 0 [] [] 2000 [] = true := by decide +kernel
/-- MiceRegisters.readLine -/
def kcc663 : ak_C := (17, [.inl 0, .inl 12, .inr (false, [(-1, 60)]), .inr (false, [(18, 18)])], kch395, [24, 25, 26], [([[], [], [], []], some (.inr (false, [(-1, 60)])), kch40), ([[], [], [(1, 60)], []], some (.inr (false, [(-9, -9)])), kch42)])
theorem kck663 : ai_chk [kcc499] kcc663 (fun pc => sm_ch sm_t17 pc, sm_Kn 2 6 none, fun x => sm_lk sm_ca2 x, some .int) [24, 25, 26] 6 4 [29] [] 2000 [(29, [(0, .inl 0), (1, .inl 12), (2, .inr (false, [(-1, 60)])), (3, .inr (false, [(18, 18)])), (4, .inr (false, [(19, 19)]))], [], kch396),
  (29, [(0, .inl 0), (1, .inl 12), (2, .inr (false, [(1, 60)])), (3, .inr (false, [(18, 18)])), (4, .inr (false, [(20, 20)])), (5, .inr (false, [(-9, -9)]))], [], kch396),
  (29, [(0, .inl 0), (1, .inl 12), (2, .inr (false, [(1, 60)])), (3, .inr (false, [(18, 18)])), (4, .inr (false, [(21, 21)])), (5, .inr (false, [(-9, -9)]))], [], kch396),
  (29, [(0, .inl 0), (1, .inl 12), (2, .inr (false, [(1, 60)])), (3, .inr (false, [(18, 18)])), (4, .inr (false, [(22, 22)])), (5, .inr (false, [(-9, -9)]))], [], kch396)] = true := by decide +kernel
def kch473 : aw_H := [(12, kcx197)]
/-- MiceRegisters.faultOfFigure -/
def kcc664 : ak_C := (18, [.inl 12, .inr (false, [(-1, 60)]), .inr (false, [(19, 19)]), .inr (false, [(0, 0)]), .inr (false, [(0, 7)])], kch23, [], [([], some (.inr (false, [(-9, -9)])), kch473), ([], some (.inr (false, [(-1, 63)])), [])])
def kch474 : aw_H := [(12, kcx199)]
/-- MiceRegisters.faultOfFigure -/
def kcc665 : ak_C := (18, [.inl 12, .inr (false, [(-1, 60)]), .inr (false, [(20, 20)]), .inr (false, [(1, 1)]), .inr (false, [(9, 9)])], kch473, [], [([], some (.inr (false, [(-9, -9)])), kch474), ([], some (.inr (false, [(-1, 63)])), [])])
/-- MiceRegisters.readMouse -/
def kcc666 : ak_C := (19, [.inl 0, .inl 12, .inr (false, [(-1, 60)]), .inr (false, [(18, 18)])], kch394, [24, 29, 30, 31], [([], some (.inr (false, [(-1, 63)])), kch36), ([], some (.inr (false, [(-9, -9)])), kch38)])
theorem kck666 : ai_chk [kcc28, kcc664, kcc665] kcc666 (fun pc => sm_ch sm_t19 pc, sm_Kn 2 6 none, fun x => sm_lk sm_ca2 x, some .int) [24, 29, 30, 31] 6 0 [] [] 2000 [] = true := by decide +kernel
/-- MiceRegisters.readLine -/
def kcc667 : ak_C := (17, [.inl 0, .inl 12, .inr (false, [(-1, 60)]), .inr (false, [(17, 17)])], kch395, [24, 25, 26], [([[], [], [], []], some (.inr (false, [(-1, 60)])), kch40), ([[], [], [(1, 60)], []], some (.inr (false, [(-9, -9)])), kch42)])
theorem kck667 : ai_chk [kcc499] kcc667 (fun pc => sm_ch sm_t17 pc, sm_Kn 2 6 none, fun x => sm_lk sm_ca2 x, some .int) [24, 25, 26] 6 4 [29] [] 2000 [(29, [(0, .inl 0), (1, .inl 12), (2, .inr (false, [(-1, 60)])), (3, .inr (false, [(17, 17)])), (4, .inr (false, [(18, 18)]))], [], kch396),
  (29, [(0, .inl 0), (1, .inl 12), (2, .inr (false, [(1, 60)])), (3, .inr (false, [(17, 17)])), (4, .inr (false, [(19, 19)])), (5, .inr (false, [(-9, -9)]))], [], kch396),
  (29, [(0, .inl 0), (1, .inl 12), (2, .inr (false, [(1, 60)])), (3, .inr (false, [(17, 17)])), (4, .inr (false, [(20, 20)])), (5, .inr (false, [(-9, -9)]))], [], kch396),
  (29, [(0, .inl 0), (1, .inl 12), (2, .inr (false, [(1, 60)])), (3, .inr (false, [(17, 17)])), (4, .inr (false, [(21, 21)])), (5, .inr (false, [(-9, -9)]))], [], kch396)] = true := by decide +kernel
def kch475 : aw_H := [(12, kcx201)]
/-- MiceRegisters.faultOfFigure -/
def kcc668 : ak_C := (18, [.inl 12, .inr (false, [(-1, 60)]), .inr (false, [(18, 18)]), .inr (false, [(0, 0)]), .inr (false, [(0, 7)])], kch23, [], [([], some (.inr (false, [(-9, -9)])), kch475), ([], some (.inr (false, [(-1, 63)])), [])])
def kch476 : aw_H := [(12, kcx203)]
/-- MiceRegisters.faultOfFigure -/
def kcc669 : ak_C := (18, [.inl 12, .inr (false, [(-1, 60)]), .inr (false, [(19, 19)]), .inr (false, [(1, 1)]), .inr (false, [(9, 9)])], kch475, [], [([], some (.inr (false, [(-9, -9)])), kch476), ([], some (.inr (false, [(-1, 63)])), [])])
/-- MiceRegisters.readMouse -/
def kcc670 : ak_C := (19, [.inl 0, .inl 12, .inr (false, [(-1, 60)]), .inr (false, [(17, 17)])], kch394, [24, 29, 30, 31], [([], some (.inr (false, [(-1, 63)])), kch36), ([], some (.inr (false, [(-9, -9)])), kch38)])
theorem kck670 : ai_chk [kcc28, kcc668, kcc669] kcc670 (fun pc => sm_ch sm_t19 pc, sm_Kn 2 6 none, fun x => sm_lk sm_ca2 x, some .int) [24, 29, 30, 31] 6 0 [] [] 2000 [] = true := by decide +kernel
/-- MiceRegisters.readLine -/
def kcc671 : ak_C := (17, [.inl 0, .inl 12, .inr (false, [(-1, 60)]), .inr (false, [(16, 16)])], kch395, [24, 25, 26], [([[], [], [], []], some (.inr (false, [(-1, 60)])), kch40), ([[], [], [(1, 60)], []], some (.inr (false, [(-9, -9)])), kch42)])
theorem kck671 : ai_chk [kcc499] kcc671 (fun pc => sm_ch sm_t17 pc, sm_Kn 2 6 none, fun x => sm_lk sm_ca2 x, some .int) [24, 25, 26] 6 4 [29] [] 2000 [(29, [(0, .inl 0), (1, .inl 12), (2, .inr (false, [(-1, 60)])), (3, .inr (false, [(16, 16)])), (4, .inr (false, [(17, 17)]))], [], kch396),
  (29, [(0, .inl 0), (1, .inl 12), (2, .inr (false, [(1, 60)])), (3, .inr (false, [(16, 16)])), (4, .inr (false, [(18, 18)])), (5, .inr (false, [(-9, -9)]))], [], kch396),
  (29, [(0, .inl 0), (1, .inl 12), (2, .inr (false, [(1, 60)])), (3, .inr (false, [(16, 16)])), (4, .inr (false, [(19, 19)])), (5, .inr (false, [(-9, -9)]))], [], kch396),
  (29, [(0, .inl 0), (1, .inl 12), (2, .inr (false, [(1, 60)])), (3, .inr (false, [(16, 16)])), (4, .inr (false, [(20, 20)])), (5, .inr (false, [(-9, -9)]))], [], kch396)] = true := by decide +kernel
def kch477 : aw_H := [(12, kcx205)]
/-- MiceRegisters.faultOfFigure -/
def kcc672 : ak_C := (18, [.inl 12, .inr (false, [(-1, 60)]), .inr (false, [(17, 17)]), .inr (false, [(0, 0)]), .inr (false, [(0, 7)])], kch23, [], [([], some (.inr (false, [(-9, -9)])), kch477), ([], some (.inr (false, [(-1, 63)])), [])])
def kch478 : aw_H := [(12, kcx207)]
/-- MiceRegisters.faultOfFigure -/
def kcc673 : ak_C := (18, [.inl 12, .inr (false, [(-1, 60)]), .inr (false, [(18, 18)]), .inr (false, [(1, 1)]), .inr (false, [(9, 9)])], kch477, [], [([], some (.inr (false, [(-9, -9)])), kch478), ([], some (.inr (false, [(-1, 63)])), [])])
/-- MiceRegisters.readMouse -/
def kcc674 : ak_C := (19, [.inl 0, .inl 12, .inr (false, [(-1, 60)]), .inr (false, [(16, 16)])], kch394, [24, 29, 30, 31], [([], some (.inr (false, [(-1, 63)])), kch36), ([], some (.inr (false, [(-9, -9)])), kch38)])
theorem kck674 : ai_chk [kcc28, kcc672, kcc673] kcc674 (fun pc => sm_ch sm_t19 pc, sm_Kn 2 6 none, fun x => sm_lk sm_ca2 x, some .int) [24, 29, 30, 31] 6 0 [] [] 2000 [] = true := by decide +kernel
/-- MiceRegisters.readLine -/
def kcc675 : ak_C := (17, [.inl 0, .inl 12, .inr (false, [(-1, 60)]), .inr (false, [(15, 15)])], kch395, [24, 25, 26], [([[], [], [], []], some (.inr (false, [(-1, 60)])), kch40), ([[], [], [(1, 60)], []], some (.inr (false, [(-9, -9)])), kch42)])
theorem kck675 : ai_chk [kcc499] kcc675 (fun pc => sm_ch sm_t17 pc, sm_Kn 2 6 none, fun x => sm_lk sm_ca2 x, some .int) [24, 25, 26] 6 4 [29] [] 2000 [(29, [(0, .inl 0), (1, .inl 12), (2, .inr (false, [(-1, 60)])), (3, .inr (false, [(15, 15)])), (4, .inr (false, [(16, 16)]))], [], kch396),
  (29, [(0, .inl 0), (1, .inl 12), (2, .inr (false, [(1, 60)])), (3, .inr (false, [(15, 15)])), (4, .inr (false, [(17, 17)])), (5, .inr (false, [(-9, -9)]))], [], kch396),
  (29, [(0, .inl 0), (1, .inl 12), (2, .inr (false, [(1, 60)])), (3, .inr (false, [(15, 15)])), (4, .inr (false, [(18, 18)])), (5, .inr (false, [(-9, -9)]))], [], kch396),
  (29, [(0, .inl 0), (1, .inl 12), (2, .inr (false, [(1, 60)])), (3, .inr (false, [(15, 15)])), (4, .inr (false, [(19, 19)])), (5, .inr (false, [(-9, -9)]))], [], kch396)] = true := by decide +kernel
def kch479 : aw_H := [(12, kcx209)]
/-- MiceRegisters.faultOfFigure -/
def kcc676 : ak_C := (18, [.inl 12, .inr (false, [(-1, 60)]), .inr (false, [(16, 16)]), .inr (false, [(0, 0)]), .inr (false, [(0, 7)])], kch23, [], [([], some (.inr (false, [(-9, -9)])), kch479), ([], some (.inr (false, [(-1, 63)])), [])])
def kch480 : aw_H := [(12, kcx211)]
/-- MiceRegisters.faultOfFigure -/
def kcc677 : ak_C := (18, [.inl 12, .inr (false, [(-1, 60)]), .inr (false, [(17, 17)]), .inr (false, [(1, 1)]), .inr (false, [(9, 9)])], kch479, [], [([], some (.inr (false, [(-9, -9)])), kch480), ([], some (.inr (false, [(-1, 63)])), [])])
/-- MiceRegisters.readMouse -/
def kcc678 : ak_C := (19, [.inl 0, .inl 12, .inr (false, [(-1, 60)]), .inr (false, [(15, 15)])], kch394, [24, 29, 30, 31], [([], some (.inr (false, [(-1, 63)])), kch36), ([], some (.inr (false, [(-9, -9)])), kch38)])
theorem kck678 : ai_chk [kcc28, kcc676, kcc677] kcc678 (fun pc => sm_ch sm_t19 pc, sm_Kn 2 6 none, fun x => sm_lk sm_ca2 x, some .int) [24, 29, 30, 31] 6 0 [] [] 2000 [] = true := by decide +kernel
/-- MiceRegisters.readLine -/
def kcc679 : ak_C := (17, [.inl 0, .inl 12, .inr (false, [(-1, 60)]), .inr (false, [(14, 14)])], kch395, [24, 25, 26], [([[], [], [], []], some (.inr (false, [(-1, 60)])), kch40), ([[], [], [(1, 60)], []], some (.inr (false, [(-9, -9)])), kch42)])
theorem kck679 : ai_chk [kcc499] kcc679 (fun pc => sm_ch sm_t17 pc, sm_Kn 2 6 none, fun x => sm_lk sm_ca2 x, some .int) [24, 25, 26] 6 4 [29] [] 2000 [(29, [(0, .inl 0), (1, .inl 12), (2, .inr (false, [(-1, 60)])), (3, .inr (false, [(14, 14)])), (4, .inr (false, [(15, 15)]))], [], kch396),
  (29, [(0, .inl 0), (1, .inl 12), (2, .inr (false, [(1, 60)])), (3, .inr (false, [(14, 14)])), (4, .inr (false, [(16, 16)])), (5, .inr (false, [(-9, -9)]))], [], kch396),
  (29, [(0, .inl 0), (1, .inl 12), (2, .inr (false, [(1, 60)])), (3, .inr (false, [(14, 14)])), (4, .inr (false, [(17, 17)])), (5, .inr (false, [(-9, -9)]))], [], kch396),
  (29, [(0, .inl 0), (1, .inl 12), (2, .inr (false, [(1, 60)])), (3, .inr (false, [(14, 14)])), (4, .inr (false, [(18, 18)])), (5, .inr (false, [(-9, -9)]))], [], kch396)] = true := by decide +kernel
def kch481 : aw_H := [(12, kcx213)]
/-- MiceRegisters.faultOfFigure -/
def kcc680 : ak_C := (18, [.inl 12, .inr (false, [(-1, 60)]), .inr (false, [(15, 15)]), .inr (false, [(0, 0)]), .inr (false, [(0, 7)])], kch23, [], [([], some (.inr (false, [(-9, -9)])), kch481), ([], some (.inr (false, [(-1, 63)])), [])])
def kch482 : aw_H := [(12, kcx215)]
/-- MiceRegisters.faultOfFigure -/
def kcc681 : ak_C := (18, [.inl 12, .inr (false, [(-1, 60)]), .inr (false, [(16, 16)]), .inr (false, [(1, 1)]), .inr (false, [(9, 9)])], kch481, [], [([], some (.inr (false, [(-9, -9)])), kch482), ([], some (.inr (false, [(-1, 63)])), [])])
/-- MiceRegisters.readMouse -/
def kcc682 : ak_C := (19, [.inl 0, .inl 12, .inr (false, [(-1, 60)]), .inr (false, [(14, 14)])], kch394, [24, 29, 30, 31], [([], some (.inr (false, [(-1, 63)])), kch36), ([], some (.inr (false, [(-9, -9)])), kch38)])
theorem kck682 : ai_chk [kcc28, kcc680, kcc681] kcc682 (fun pc => sm_ch sm_t19 pc, sm_Kn 2 6 none, fun x => sm_lk sm_ca2 x, some .int) [24, 29, 30, 31] 6 0 [] [] 2000 [] = true := by decide +kernel
/-- MiceRegisters.readLine -/
def kcc683 : ak_C := (17, [.inl 0, .inl 12, .inr (false, [(-1, 60)]), .inr (false, [(13, 13)])], kch395, [24, 25, 26], [([[], [], [], []], some (.inr (false, [(-1, 60)])), kch40), ([[], [], [(1, 60)], []], some (.inr (false, [(-9, -9)])), kch42)])
theorem kck683 : ai_chk [kcc499] kcc683 (fun pc => sm_ch sm_t17 pc, sm_Kn 2 6 none, fun x => sm_lk sm_ca2 x, some .int) [24, 25, 26] 6 4 [29] [] 2000 [(29, [(0, .inl 0), (1, .inl 12), (2, .inr (false, [(-1, 60)])), (3, .inr (false, [(13, 13)])), (4, .inr (false, [(14, 14)]))], [], kch396),
  (29, [(0, .inl 0), (1, .inl 12), (2, .inr (false, [(1, 60)])), (3, .inr (false, [(13, 13)])), (4, .inr (false, [(15, 15)])), (5, .inr (false, [(-9, -9)]))], [], kch396),
  (29, [(0, .inl 0), (1, .inl 12), (2, .inr (false, [(1, 60)])), (3, .inr (false, [(13, 13)])), (4, .inr (false, [(16, 16)])), (5, .inr (false, [(-9, -9)]))], [], kch396),
  (29, [(0, .inl 0), (1, .inl 12), (2, .inr (false, [(1, 60)])), (3, .inr (false, [(13, 13)])), (4, .inr (false, [(17, 17)])), (5, .inr (false, [(-9, -9)]))], [], kch396)] = true := by decide +kernel
def kch483 : aw_H := [(12, kcx217)]
/-- MiceRegisters.faultOfFigure -/
def kcc684 : ak_C := (18, [.inl 12, .inr (false, [(-1, 60)]), .inr (false, [(14, 14)]), .inr (false, [(0, 0)]), .inr (false, [(0, 7)])], kch23, [], [([], some (.inr (false, [(-9, -9)])), kch483), ([], some (.inr (false, [(-1, 63)])), [])])
def kch484 : aw_H := [(12, kcx219)]
/-- MiceRegisters.faultOfFigure -/
def kcc685 : ak_C := (18, [.inl 12, .inr (false, [(-1, 60)]), .inr (false, [(15, 15)]), .inr (false, [(1, 1)]), .inr (false, [(9, 9)])], kch483, [], [([], some (.inr (false, [(-9, -9)])), kch484), ([], some (.inr (false, [(-1, 63)])), [])])
/-- MiceRegisters.readMouse -/
def kcc686 : ak_C := (19, [.inl 0, .inl 12, .inr (false, [(-1, 60)]), .inr (false, [(13, 13)])], kch394, [24, 29, 30, 31], [([], some (.inr (false, [(-1, 63)])), kch36), ([], some (.inr (false, [(-9, -9)])), kch38)])
theorem kck686 : ai_chk [kcc28, kcc684, kcc685] kcc686 (fun pc => sm_ch sm_t19 pc, sm_Kn 2 6 none, fun x => sm_lk sm_ca2 x, some .int) [24, 29, 30, 31] 6 0 [] [] 2000 [] = true := by decide +kernel
/-- MiceRegisters.readLine -/
def kcc687 : ak_C := (17, [.inl 0, .inl 12, .inr (false, [(-1, 60)]), .inr (false, [(12, 12)])], kch395, [24, 25, 26], [([[], [], [], []], some (.inr (false, [(-1, 60)])), kch40), ([[], [], [(1, 60)], []], some (.inr (false, [(-9, -9)])), kch42)])
theorem kck687 : ai_chk [kcc499] kcc687 (fun pc => sm_ch sm_t17 pc, sm_Kn 2 6 none, fun x => sm_lk sm_ca2 x, some .int) [24, 25, 26] 6 4 [29] [] 2000 [(29, [(0, .inl 0), (1, .inl 12), (2, .inr (false, [(-1, 60)])), (3, .inr (false, [(12, 12)])), (4, .inr (false, [(13, 13)]))], [], kch396),
  (29, [(0, .inl 0), (1, .inl 12), (2, .inr (false, [(1, 60)])), (3, .inr (false, [(12, 12)])), (4, .inr (false, [(14, 14)])), (5, .inr (false, [(-9, -9)]))], [], kch396),
  (29, [(0, .inl 0), (1, .inl 12), (2, .inr (false, [(1, 60)])), (3, .inr (false, [(12, 12)])), (4, .inr (false, [(15, 15)])), (5, .inr (false, [(-9, -9)]))], [], kch396),
  (29, [(0, .inl 0), (1, .inl 12), (2, .inr (false, [(1, 60)])), (3, .inr (false, [(12, 12)])), (4, .inr (false, [(16, 16)])), (5, .inr (false, [(-9, -9)]))], [], kch396)] = true := by decide +kernel
def kch485 : aw_H := [(12, kcx221)]
/-- MiceRegisters.faultOfFigure -/
def kcc688 : ak_C := (18, [.inl 12, .inr (false, [(-1, 60)]), .inr (false, [(13, 13)]), .inr (false, [(0, 0)]), .inr (false, [(0, 7)])], kch23, [], [([], some (.inr (false, [(-9, -9)])), kch485), ([], some (.inr (false, [(-1, 63)])), [])])
def kch486 : aw_H := [(12, kcx223)]
/-- MiceRegisters.faultOfFigure -/
def kcc689 : ak_C := (18, [.inl 12, .inr (false, [(-1, 60)]), .inr (false, [(14, 14)]), .inr (false, [(1, 1)]), .inr (false, [(9, 9)])], kch485, [], [([], some (.inr (false, [(-9, -9)])), kch486), ([], some (.inr (false, [(-1, 63)])), [])])
/-- MiceRegisters.readMouse -/
def kcc690 : ak_C := (19, [.inl 0, .inl 12, .inr (false, [(-1, 60)]), .inr (false, [(12, 12)])], kch394, [24, 29, 30, 31], [([], some (.inr (false, [(-1, 63)])), kch36), ([], some (.inr (false, [(-9, -9)])), kch38)])
theorem kck690 : ai_chk [kcc28, kcc688, kcc689] kcc690 (fun pc => sm_ch sm_t19 pc, sm_Kn 2 6 none, fun x => sm_lk sm_ca2 x, some .int) [24, 29, 30, 31] 6 0 [] [] 2000 [] = true := by decide +kernel
/-- MiceRegisters.readLine -/
def kcc691 : ak_C := (17, [.inl 0, .inl 12, .inr (false, [(-1, 60)]), .inr (false, [(11, 11)])], kch395, [24, 25, 26], [([[], [], [], []], some (.inr (false, [(-1, 60)])), kch40), ([[], [], [(1, 60)], []], some (.inr (false, [(-9, -9)])), kch42)])
theorem kck691 : ai_chk [kcc499] kcc691 (fun pc => sm_ch sm_t17 pc, sm_Kn 2 6 none, fun x => sm_lk sm_ca2 x, some .int) [24, 25, 26] 6 4 [29] [] 2000 [(29, [(0, .inl 0), (1, .inl 12), (2, .inr (false, [(-1, 60)])), (3, .inr (false, [(11, 11)])), (4, .inr (false, [(12, 12)]))], [], kch396),
  (29, [(0, .inl 0), (1, .inl 12), (2, .inr (false, [(1, 60)])), (3, .inr (false, [(11, 11)])), (4, .inr (false, [(13, 13)])), (5, .inr (false, [(-9, -9)]))], [], kch396),
  (29, [(0, .inl 0), (1, .inl 12), (2, .inr (false, [(1, 60)])), (3, .inr (false, [(11, 11)])), (4, .inr (false, [(14, 14)])), (5, .inr (false, [(-9, -9)]))], [], kch396),
  (29, [(0, .inl 0), (1, .inl 12), (2, .inr (false, [(1, 60)])), (3, .inr (false, [(11, 11)])), (4, .inr (false, [(15, 15)])), (5, .inr (false, [(-9, -9)]))], [], kch396)] = true := by decide +kernel
def kch487 : aw_H := [(12, kcx225)]
/-- MiceRegisters.faultOfFigure -/
def kcc692 : ak_C := (18, [.inl 12, .inr (false, [(-1, 60)]), .inr (false, [(12, 12)]), .inr (false, [(0, 0)]), .inr (false, [(0, 7)])], kch23, [], [([], some (.inr (false, [(-9, -9)])), kch487), ([], some (.inr (false, [(-1, 63)])), [])])
def kch488 : aw_H := [(12, kcx227)]
/-- MiceRegisters.faultOfFigure -/
def kcc693 : ak_C := (18, [.inl 12, .inr (false, [(-1, 60)]), .inr (false, [(13, 13)]), .inr (false, [(1, 1)]), .inr (false, [(9, 9)])], kch487, [], [([], some (.inr (false, [(-9, -9)])), kch488), ([], some (.inr (false, [(-1, 63)])), [])])
/-- MiceRegisters.readMouse -/
def kcc694 : ak_C := (19, [.inl 0, .inl 12, .inr (false, [(-1, 60)]), .inr (false, [(11, 11)])], kch394, [24, 29, 30, 31], [([], some (.inr (false, [(-1, 63)])), kch36), ([], some (.inr (false, [(-9, -9)])), kch38)])
theorem kck694 : ai_chk [kcc28, kcc692, kcc693] kcc694 (fun pc => sm_ch sm_t19 pc, sm_Kn 2 6 none, fun x => sm_lk sm_ca2 x, some .int) [24, 29, 30, 31] 6 0 [] [] 2000 [] = true := by decide +kernel
/-- MiceRegisters.readLine -/
def kcc695 : ak_C := (17, [.inl 0, .inl 12, .inr (false, [(-1, 60)]), .inr (false, [(10, 10)])], kch395, [24, 25, 26], [([[], [], [], []], some (.inr (false, [(-1, 60)])), kch40), ([[], [], [(1, 60)], []], some (.inr (false, [(-9, -9)])), kch42)])
theorem kck695 : ai_chk [kcc499] kcc695 (fun pc => sm_ch sm_t17 pc, sm_Kn 2 6 none, fun x => sm_lk sm_ca2 x, some .int) [24, 25, 26] 6 4 [29] [] 2000 [(29, [(0, .inl 0), (1, .inl 12), (2, .inr (false, [(-1, 60)])), (3, .inr (false, [(10, 10)])), (4, .inr (false, [(11, 11)]))], [], kch396),
  (29, [(0, .inl 0), (1, .inl 12), (2, .inr (false, [(1, 60)])), (3, .inr (false, [(10, 10)])), (4, .inr (false, [(12, 12)])), (5, .inr (false, [(-9, -9)]))], [], kch396),
  (29, [(0, .inl 0), (1, .inl 12), (2, .inr (false, [(1, 60)])), (3, .inr (false, [(10, 10)])), (4, .inr (false, [(13, 13)])), (5, .inr (false, [(-9, -9)]))], [], kch396),
  (29, [(0, .inl 0), (1, .inl 12), (2, .inr (false, [(1, 60)])), (3, .inr (false, [(10, 10)])), (4, .inr (false, [(14, 14)])), (5, .inr (false, [(-9, -9)]))], [], kch396)] = true := by decide +kernel
def kch489 : aw_H := [(12, kcx229)]
/-- MiceRegisters.faultOfFigure -/
def kcc696 : ak_C := (18, [.inl 12, .inr (false, [(-1, 60)]), .inr (false, [(11, 11)]), .inr (false, [(0, 0)]), .inr (false, [(0, 7)])], kch23, [], [([], some (.inr (false, [(-9, -9)])), kch489), ([], some (.inr (false, [(-1, 63)])), [])])
def kch490 : aw_H := [(12, kcx231)]
/-- MiceRegisters.faultOfFigure -/
def kcc697 : ak_C := (18, [.inl 12, .inr (false, [(-1, 60)]), .inr (false, [(12, 12)]), .inr (false, [(1, 1)]), .inr (false, [(9, 9)])], kch489, [], [([], some (.inr (false, [(-9, -9)])), kch490), ([], some (.inr (false, [(-1, 63)])), [])])
/-- MiceRegisters.readMouse -/
def kcc698 : ak_C := (19, [.inl 0, .inl 12, .inr (false, [(-1, 60)]), .inr (false, [(10, 10)])], kch394, [24, 29, 30, 31], [([], some (.inr (false, [(-1, 63)])), kch36), ([], some (.inr (false, [(-9, -9)])), kch38)])
theorem kck698 : ai_chk [kcc28, kcc696, kcc697] kcc698 (fun pc => sm_ch sm_t19 pc, sm_Kn 2 6 none, fun x => sm_lk sm_ca2 x, some .int) [24, 29, 30, 31] 6 0 [] [] 2000 [] = true := by decide +kernel
/-- MiceRegisters.readLine -/
def kcc699 : ak_C := (17, [.inl 0, .inl 12, .inr (false, [(-1, 60)]), .inr (false, [(9, 9)])], kch395, [24, 25, 26], [([[], [], [], []], some (.inr (false, [(-1, 60)])), kch40), ([[], [], [(1, 60)], []], some (.inr (false, [(-9, -9)])), kch42)])
theorem kck699 : ai_chk [kcc499] kcc699 (fun pc => sm_ch sm_t17 pc, sm_Kn 2 6 none, fun x => sm_lk sm_ca2 x, some .int) [24, 25, 26] 6 4 [29] [] 2000 [(29, [(0, .inl 0), (1, .inl 12), (2, .inr (false, [(-1, 60)])), (3, .inr (false, [(9, 9)])), (4, .inr (false, [(10, 10)]))], [], kch396),
  (29, [(0, .inl 0), (1, .inl 12), (2, .inr (false, [(1, 60)])), (3, .inr (false, [(9, 9)])), (4, .inr (false, [(11, 11)])), (5, .inr (false, [(-9, -9)]))], [], kch396),
  (29, [(0, .inl 0), (1, .inl 12), (2, .inr (false, [(1, 60)])), (3, .inr (false, [(9, 9)])), (4, .inr (false, [(12, 12)])), (5, .inr (false, [(-9, -9)]))], [], kch396),
  (29, [(0, .inl 0), (1, .inl 12), (2, .inr (false, [(1, 60)])), (3, .inr (false, [(9, 9)])), (4, .inr (false, [(13, 13)])), (5, .inr (false, [(-9, -9)]))], [], kch396)] = true := by decide +kernel
def kch491 : aw_H := [(12, kcx233)]
/-- MiceRegisters.faultOfFigure -/
def kcc700 : ak_C := (18, [.inl 12, .inr (false, [(-1, 60)]), .inr (false, [(10, 10)]), .inr (false, [(0, 0)]), .inr (false, [(0, 7)])], kch23, [], [([], some (.inr (false, [(-9, -9)])), kch491), ([], some (.inr (false, [(-1, 63)])), [])])
def kch492 : aw_H := [(12, kcx235)]
/-- MiceRegisters.faultOfFigure -/
def kcc701 : ak_C := (18, [.inl 12, .inr (false, [(-1, 60)]), .inr (false, [(11, 11)]), .inr (false, [(1, 1)]), .inr (false, [(9, 9)])], kch491, [], [([], some (.inr (false, [(-9, -9)])), kch492), ([], some (.inr (false, [(-1, 63)])), [])])
/-- MiceRegisters.readMouse -/
def kcc702 : ak_C := (19, [.inl 0, .inl 12, .inr (false, [(-1, 60)]), .inr (false, [(9, 9)])], kch394, [24, 29, 30, 31], [([], some (.inr (false, [(-1, 63)])), kch36), ([], some (.inr (false, [(-9, -9)])), kch38)])
theorem kck702 : ai_chk [kcc28, kcc700, kcc701] kcc702 (fun pc => sm_ch sm_t19 pc, sm_Kn 2 6 none, fun x => sm_lk sm_ca2 x, some .int) [24, 29, 30, 31] 6 0 [] [] 2000 [] = true := by decide +kernel
/-- MiceRegisters.readLine -/
def kcc703 : ak_C := (17, [.inl 0, .inl 12, .inr (false, [(-1, 60)]), .inr (false, [(8, 8)])], kch395, [24, 25, 26], [([[], [], [], []], some (.inr (false, [(-1, 60)])), kch40), ([[], [], [(1, 60)], []], some (.inr (false, [(-9, -9)])), kch42)])
theorem kck703 : ai_chk [kcc499] kcc703 (fun pc => sm_ch sm_t17 pc, sm_Kn 2 6 none, fun x => sm_lk sm_ca2 x, some .int) [24, 25, 26] 6 4 [29] [] 2000 [(29, [(0, .inl 0), (1, .inl 12), (2, .inr (false, [(-1, 60)])), (3, .inr (false, [(8, 8)])), (4, .inr (false, [(9, 9)]))], [], kch396),
  (29, [(0, .inl 0), (1, .inl 12), (2, .inr (false, [(1, 60)])), (3, .inr (false, [(8, 8)])), (4, .inr (false, [(10, 10)])), (5, .inr (false, [(-9, -9)]))], [], kch396),
  (29, [(0, .inl 0), (1, .inl 12), (2, .inr (false, [(1, 60)])), (3, .inr (false, [(8, 8)])), (4, .inr (false, [(11, 11)])), (5, .inr (false, [(-9, -9)]))], [], kch396),
  (29, [(0, .inl 0), (1, .inl 12), (2, .inr (false, [(1, 60)])), (3, .inr (false, [(8, 8)])), (4, .inr (false, [(12, 12)])), (5, .inr (false, [(-9, -9)]))], [], kch396)] = true := by decide +kernel
def kch493 : aw_H := [(12, kcx237)]
/-- MiceRegisters.faultOfFigure -/
def kcc704 : ak_C := (18, [.inl 12, .inr (false, [(-1, 60)]), .inr (false, [(9, 9)]), .inr (false, [(0, 0)]), .inr (false, [(0, 7)])], kch23, [], [([], some (.inr (false, [(-9, -9)])), kch493), ([], some (.inr (false, [(-1, 63)])), [])])
def kch494 : aw_H := [(12, kcx239)]
/-- MiceRegisters.faultOfFigure -/
def kcc705 : ak_C := (18, [.inl 12, .inr (false, [(-1, 60)]), .inr (false, [(10, 10)]), .inr (false, [(1, 1)]), .inr (false, [(9, 9)])], kch493, [], [([], some (.inr (false, [(-9, -9)])), kch494), ([], some (.inr (false, [(-1, 63)])), [])])
/-- MiceRegisters.readMouse -/
def kcc706 : ak_C := (19, [.inl 0, .inl 12, .inr (false, [(-1, 60)]), .inr (false, [(8, 8)])], kch394, [24, 29, 30, 31], [([], some (.inr (false, [(-1, 63)])), kch36), ([], some (.inr (false, [(-9, -9)])), kch38)])
theorem kck706 : ai_chk [kcc28, kcc704, kcc705] kcc706 (fun pc => sm_ch sm_t19 pc, sm_Kn 2 6 none, fun x => sm_lk sm_ca2 x, some .int) [24, 29, 30, 31] 6 0 [] [] 2000 [] = true := by decide +kernel
/-- MiceRegisters.readLine -/
def kcc707 : ak_C := (17, [.inl 0, .inl 12, .inr (false, [(-1, 60)]), .inr (false, [(7, 7)])], kch395, [24, 25, 26], [([[], [], [], []], some (.inr (false, [(-1, 60)])), kch40), ([[], [], [(1, 60)], []], some (.inr (false, [(-9, -9)])), kch42)])
theorem kck707 : ai_chk [kcc499] kcc707 (fun pc => sm_ch sm_t17 pc, sm_Kn 2 6 none, fun x => sm_lk sm_ca2 x, some .int) [24, 25, 26] 6 4 [29] [] 2000 [(29, [(0, .inl 0), (1, .inl 12), (2, .inr (false, [(-1, 60)])), (3, .inr (false, [(7, 7)])), (4, .inr (false, [(8, 8)]))], [], kch396),
  (29, [(0, .inl 0), (1, .inl 12), (2, .inr (false, [(1, 60)])), (3, .inr (false, [(7, 7)])), (4, .inr (false, [(9, 9)])), (5, .inr (false, [(-9, -9)]))], [], kch396),
  (29, [(0, .inl 0), (1, .inl 12), (2, .inr (false, [(1, 60)])), (3, .inr (false, [(7, 7)])), (4, .inr (false, [(10, 10)])), (5, .inr (false, [(-9, -9)]))], [], kch396),
  (29, [(0, .inl 0), (1, .inl 12), (2, .inr (false, [(1, 60)])), (3, .inr (false, [(7, 7)])), (4, .inr (false, [(11, 11)])), (5, .inr (false, [(-9, -9)]))], [], kch396)] = true := by decide +kernel
def kch495 : aw_H := [(12, kcx241)]
/-- MiceRegisters.faultOfFigure -/
def kcc708 : ak_C := (18, [.inl 12, .inr (false, [(-1, 60)]), .inr (false, [(8, 8)]), .inr (false, [(0, 0)]), .inr (false, [(0, 7)])], kch23, [], [([], some (.inr (false, [(-9, -9)])), kch495), ([], some (.inr (false, [(-1, 63)])), [])])
def kch496 : aw_H := [(12, kcx243)]
/-- MiceRegisters.faultOfFigure -/
def kcc709 : ak_C := (18, [.inl 12, .inr (false, [(-1, 60)]), .inr (false, [(9, 9)]), .inr (false, [(1, 1)]), .inr (false, [(9, 9)])], kch495, [], [([], some (.inr (false, [(-9, -9)])), kch496), ([], some (.inr (false, [(-1, 63)])), [])])
/-- MiceRegisters.readMouse -/
def kcc710 : ak_C := (19, [.inl 0, .inl 12, .inr (false, [(-1, 60)]), .inr (false, [(7, 7)])], kch394, [24, 29, 30, 31], [([], some (.inr (false, [(-1, 63)])), kch36), ([], some (.inr (false, [(-9, -9)])), kch38)])
theorem kck710 : ai_chk [kcc28, kcc708, kcc709] kcc710 (fun pc => sm_ch sm_t19 pc, sm_Kn 2 6 none, fun x => sm_lk sm_ca2 x, some .int) [24, 29, 30, 31] 6 0 [] [] 2000 [] = true := by decide +kernel
/-- MiceRegisters.readLine -/
def kcc711 : ak_C := (17, [.inl 0, .inl 12, .inr (false, [(-1, 60)]), .inr (false, [(6, 6)])], kch395, [24, 25, 26], [([[], [], [], []], some (.inr (false, [(-1, 60)])), kch40), ([[], [], [(1, 60)], []], some (.inr (false, [(-9, -9)])), kch42)])
theorem kck711 : ai_chk [kcc499] kcc711 (fun pc => sm_ch sm_t17 pc, sm_Kn 2 6 none, fun x => sm_lk sm_ca2 x, some .int) [24, 25, 26] 6 4 [29] [] 2000 [(29, [(0, .inl 0), (1, .inl 12), (2, .inr (false, [(-1, 60)])), (3, .inr (false, [(6, 6)])), (4, .inr (false, [(7, 7)]))], [], kch396),
  (29, [(0, .inl 0), (1, .inl 12), (2, .inr (false, [(1, 60)])), (3, .inr (false, [(6, 6)])), (4, .inr (false, [(8, 8)])), (5, .inr (false, [(-9, -9)]))], [], kch396),
  (29, [(0, .inl 0), (1, .inl 12), (2, .inr (false, [(1, 60)])), (3, .inr (false, [(6, 6)])), (4, .inr (false, [(9, 9)])), (5, .inr (false, [(-9, -9)]))], [], kch396),
  (29, [(0, .inl 0), (1, .inl 12), (2, .inr (false, [(1, 60)])), (3, .inr (false, [(6, 6)])), (4, .inr (false, [(10, 10)])), (5, .inr (false, [(-9, -9)]))], [], kch396)] = true := by decide +kernel
def kch497 : aw_H := [(12, kcx245)]
/-- MiceRegisters.faultOfFigure -/
def kcc712 : ak_C := (18, [.inl 12, .inr (false, [(-1, 60)]), .inr (false, [(7, 7)]), .inr (false, [(0, 0)]), .inr (false, [(0, 7)])], kch23, [], [([], some (.inr (false, [(-9, -9)])), kch497), ([], some (.inr (false, [(-1, 63)])), [])])
def kch498 : aw_H := [(12, kcx247)]
/-- MiceRegisters.faultOfFigure -/
def kcc713 : ak_C := (18, [.inl 12, .inr (false, [(-1, 60)]), .inr (false, [(8, 8)]), .inr (false, [(1, 1)]), .inr (false, [(9, 9)])], kch497, [], [([], some (.inr (false, [(-9, -9)])), kch498), ([], some (.inr (false, [(-1, 63)])), [])])
/-- MiceRegisters.readMouse -/
def kcc714 : ak_C := (19, [.inl 0, .inl 12, .inr (false, [(-1, 60)]), .inr (false, [(6, 6)])], kch394, [24, 29, 30, 31], [([], some (.inr (false, [(-1, 63)])), kch36), ([], some (.inr (false, [(-9, -9)])), kch38)])
theorem kck714 : ai_chk [kcc28, kcc712, kcc713] kcc714 (fun pc => sm_ch sm_t19 pc, sm_Kn 2 6 none, fun x => sm_lk sm_ca2 x, some .int) [24, 29, 30, 31] 6 0 [] [] 2000 [] = true := by decide +kernel
