/-! Contracts over ranges of the class, and their checks; printed by a program of mine. -/
/-- MiceRegisters.readLine -/
def kcc715 : ak_C := (17, [.inl 0, .inl 12, .inr (false, [(-1, 60)]), .inr (false, [(5, 5)])], kch395, [24, 25, 26], [([[], [], [], []], some (.inr (false, [(-1, 60)])), kch40), ([[], [], [(1, 60)], []], some (.inr (false, [(-9, -9)])), kch42)])
theorem kck715 : ai_chk [kcc499] kcc715 (fun pc => sm_ch sm_t17 pc, sm_Kn 2 6 none, fun x => sm_lk sm_ca2 x, some .int) [24, 25, 26] 6 4 [29] [] 2000 [(29, [(0, .inl 0), (1, .inl 12), (2, .inr (false, [(-1, 60)])), (3, .inr (false, [(5, 5)])), (4, .inr (false, [(6, 6)]))], [], kch396),
  (29, [(0, .inl 0), (1, .inl 12), (2, .inr (false, [(1, 60)])), (3, .inr (false, [(5, 5)])), (4, .inr (false, [(7, 7)])), (5, .inr (false, [(-9, -9)]))], [], kch396),
  (29, [(0, .inl 0), (1, .inl 12), (2, .inr (false, [(1, 60)])), (3, .inr (false, [(5, 5)])), (4, .inr (false, [(8, 8)])), (5, .inr (false, [(-9, -9)]))], [], kch396),
  (29, [(0, .inl 0), (1, .inl 12), (2, .inr (false, [(1, 60)])), (3, .inr (false, [(5, 5)])), (4, .inr (false, [(9, 9)])), (5, .inr (false, [(-9, -9)]))], [], kch396)] = true := by decide +kernel
def kch499 : aw_H := [(12, kcx249)]
/-- MiceRegisters.faultOfFigure -/
def kcc716 : ak_C := (18, [.inl 12, .inr (false, [(-1, 60)]), .inr (false, [(6, 6)]), .inr (false, [(0, 0)]), .inr (false, [(0, 7)])], kch23, [], [([], some (.inr (false, [(-9, -9)])), kch499), ([], some (.inr (false, [(-1, 63)])), [])])
def kch500 : aw_H := [(12, kcx251)]
/-- MiceRegisters.faultOfFigure -/
def kcc717 : ak_C := (18, [.inl 12, .inr (false, [(-1, 60)]), .inr (false, [(7, 7)]), .inr (false, [(1, 1)]), .inr (false, [(9, 9)])], kch499, [], [([], some (.inr (false, [(-9, -9)])), kch500), ([], some (.inr (false, [(-1, 63)])), [])])
/-- MiceRegisters.readMouse -/
def kcc718 : ak_C := (19, [.inl 0, .inl 12, .inr (false, [(-1, 60)]), .inr (false, [(5, 5)])], kch394, [24, 29, 30, 31], [([], some (.inr (false, [(-1, 63)])), kch36), ([], some (.inr (false, [(-9, -9)])), kch38)])
theorem kck718 : ai_chk [kcc28, kcc716, kcc717] kcc718 (fun pc => sm_ch sm_t19 pc, sm_Kn 2 6 none, fun x => sm_lk sm_ca2 x, some .int) [24, 29, 30, 31] 6 0 [] [] 2000 [] = true := by decide +kernel
/-- MiceRegisters.readLine -/
def kcc719 : ak_C := (17, [.inl 0, .inl 12, .inr (false, [(-1, 60)]), .inr (false, [(4, 4)])], kch395, [24, 25, 26], [([[], [], [], []], some (.inr (false, [(-1, 60)])), kch40), ([[], [], [(1, 60)], []], some (.inr (false, [(-9, -9)])), kch42)])
theorem kck719 : ai_chk [kcc499] kcc719 (fun pc => sm_ch sm_t17 pc, sm_Kn 2 6 none, fun x => sm_lk sm_ca2 x, some .int) [24, 25, 26] 6 4 [29] [] 2000 [(29, [(0, .inl 0), (1, .inl 12), (2, .inr (false, [(-1, 60)])), (3, .inr (false, [(4, 4)])), (4, .inr (false, [(5, 5)]))], [], kch396),
  (29, [(0, .inl 0), (1, .inl 12), (2, .inr (false, [(1, 60)])), (3, .inr (false, [(4, 4)])), (4, .inr (false, [(6, 6)])), (5, .inr (false, [(-9, -9)]))], [], kch396),
  (29, [(0, .inl 0), (1, .inl 12), (2, .inr (false, [(1, 60)])), (3, .inr (false, [(4, 4)])), (4, .inr (false, [(7, 7)])), (5, .inr (false, [(-9, -9)]))], [], kch396),
  (29, [(0, .inl 0), (1, .inl 12), (2, .inr (false, [(1, 60)])), (3, .inr (false, [(4, 4)])), (4, .inr (false, [(8, 8)])), (5, .inr (false, [(-9, -9)]))], [], kch396)] = true := by decide +kernel
def kch501 : aw_H := [(12, kcx253)]
/-- MiceRegisters.faultOfFigure -/
def kcc720 : ak_C := (18, [.inl 12, .inr (false, [(-1, 60)]), .inr (false, [(5, 5)]), .inr (false, [(0, 0)]), .inr (false, [(0, 7)])], kch23, [], [([], some (.inr (false, [(-9, -9)])), kch501), ([], some (.inr (false, [(-1, 63)])), [])])
def kch502 : aw_H := [(12, kcx255)]
/-- MiceRegisters.faultOfFigure -/
def kcc721 : ak_C := (18, [.inl 12, .inr (false, [(-1, 60)]), .inr (false, [(6, 6)]), .inr (false, [(1, 1)]), .inr (false, [(9, 9)])], kch501, [], [([], some (.inr (false, [(-9, -9)])), kch502), ([], some (.inr (false, [(-1, 63)])), [])])
/-- MiceRegisters.readMouse -/
def kcc722 : ak_C := (19, [.inl 0, .inl 12, .inr (false, [(-1, 60)]), .inr (false, [(4, 4)])], kch394, [24, 29, 30, 31], [([], some (.inr (false, [(-1, 63)])), kch36), ([], some (.inr (false, [(-9, -9)])), kch38)])
theorem kck722 : ai_chk [kcc28, kcc720, kcc721] kcc722 (fun pc => sm_ch sm_t19 pc, sm_Kn 2 6 none, fun x => sm_lk sm_ca2 x, some .int) [24, 29, 30, 31] 6 0 [] [] 2000 [] = true := by decide +kernel
/-- MiceRegisters.readLine -/
def kcc723 : ak_C := (17, [.inl 0, .inl 12, .inr (false, [(-1, 60)]), .inr (false, [(3, 3)])], kch395, [24, 25, 26], [([[], [], [], []], some (.inr (false, [(-1, 60)])), kch40), ([[], [], [(1, 60)], []], some (.inr (false, [(-9, -9)])), kch42)])
theorem kck723 : ai_chk [kcc499] kcc723 (fun pc => sm_ch sm_t17 pc, sm_Kn 2 6 none, fun x => sm_lk sm_ca2 x, some .int) [24, 25, 26] 6 4 [29] [] 2000 [(29, [(0, .inl 0), (1, .inl 12), (2, .inr (false, [(-1, 60)])), (3, .inr (false, [(3, 3)])), (4, .inr (false, [(4, 4)]))], [], kch396),
  (29, [(0, .inl 0), (1, .inl 12), (2, .inr (false, [(1, 60)])), (3, .inr (false, [(3, 3)])), (4, .inr (false, [(5, 5)])), (5, .inr (false, [(-9, -9)]))], [], kch396),
  (29, [(0, .inl 0), (1, .inl 12), (2, .inr (false, [(1, 60)])), (3, .inr (false, [(3, 3)])), (4, .inr (false, [(6, 6)])), (5, .inr (false, [(-9, -9)]))], [], kch396),
  (29, [(0, .inl 0), (1, .inl 12), (2, .inr (false, [(1, 60)])), (3, .inr (false, [(3, 3)])), (4, .inr (false, [(7, 7)])), (5, .inr (false, [(-9, -9)]))], [], kch396)] = true := by decide +kernel
def kch503 : aw_H := [(12, kcx257)]
/-- MiceRegisters.faultOfFigure -/
def kcc724 : ak_C := (18, [.inl 12, .inr (false, [(-1, 60)]), .inr (false, [(4, 4)]), .inr (false, [(0, 0)]), .inr (false, [(0, 7)])], kch23, [], [([], some (.inr (false, [(-9, -9)])), kch503), ([], some (.inr (false, [(-1, 63)])), [])])
def kch504 : aw_H := [(12, kcx259)]
/-- MiceRegisters.faultOfFigure -/
def kcc725 : ak_C := (18, [.inl 12, .inr (false, [(-1, 60)]), .inr (false, [(5, 5)]), .inr (false, [(1, 1)]), .inr (false, [(9, 9)])], kch503, [], [([], some (.inr (false, [(-9, -9)])), kch504), ([], some (.inr (false, [(-1, 63)])), [])])
/-- MiceRegisters.readMouse -/
def kcc726 : ak_C := (19, [.inl 0, .inl 12, .inr (false, [(-1, 60)]), .inr (false, [(3, 3)])], kch394, [24, 29, 30, 31], [([], some (.inr (false, [(-1, 63)])), kch36), ([], some (.inr (false, [(-9, -9)])), kch38)])
theorem kck726 : ai_chk [kcc28, kcc724, kcc725] kcc726 (fun pc => sm_ch sm_t19 pc, sm_Kn 2 6 none, fun x => sm_lk sm_ca2 x, some .int) [24, 29, 30, 31] 6 0 [] [] 2000 [] = true := by decide +kernel
/-- MiceRegisters.readLine -/
def kcc727 : ak_C := (17, [.inl 0, .inl 12, .inr (false, [(-1, 60)]), .inr (false, [(2, 2)])], kch395, [24, 25, 26], [([[], [], [], []], some (.inr (false, [(-1, 60)])), kch40), ([[], [], [(1, 60)], []], some (.inr (false, [(-9, -9)])), kch42)])
theorem kck727 : ai_chk [kcc499] kcc727 (fun pc => sm_ch sm_t17 pc, sm_Kn 2 6 none, fun x => sm_lk sm_ca2 x, some .int) [24, 25, 26] 6 4 [29] [] 2000 [(29, [(0, .inl 0), (1, .inl 12), (2, .inr (false, [(-1, 60)])), (3, .inr (false, [(2, 2)])), (4, .inr (false, [(3, 3)]))], [], kch396),
  (29, [(0, .inl 0), (1, .inl 12), (2, .inr (false, [(1, 60)])), (3, .inr (false, [(2, 2)])), (4, .inr (false, [(4, 4)])), (5, .inr (false, [(-9, -9)]))], [], kch396),
  (29, [(0, .inl 0), (1, .inl 12), (2, .inr (false, [(1, 60)])), (3, .inr (false, [(2, 2)])), (4, .inr (false, [(5, 5)])), (5, .inr (false, [(-9, -9)]))], [], kch396),
  (29, [(0, .inl 0), (1, .inl 12), (2, .inr (false, [(1, 60)])), (3, .inr (false, [(2, 2)])), (4, .inr (false, [(6, 6)])), (5, .inr (false, [(-9, -9)]))], [], kch396)] = true := by decide +kernel
def kch505 : aw_H := [(12, kcx261)]
/-- MiceRegisters.faultOfFigure -/
def kcc728 : ak_C := (18, [.inl 12, .inr (false, [(-1, 60)]), .inr (false, [(3, 3)]), .inr (false, [(0, 0)]), .inr (false, [(0, 7)])], kch23, [], [([], some (.inr (false, [(-9, -9)])), kch505), ([], some (.inr (false, [(-1, 63)])), [])])
def kch506 : aw_H := [(12, kcx263)]
/-- MiceRegisters.faultOfFigure -/
def kcc729 : ak_C := (18, [.inl 12, .inr (false, [(-1, 60)]), .inr (false, [(4, 4)]), .inr (false, [(1, 1)]), .inr (false, [(9, 9)])], kch505, [], [([], some (.inr (false, [(-9, -9)])), kch506), ([], some (.inr (false, [(-1, 63)])), [])])
/-- MiceRegisters.readMouse -/
def kcc730 : ak_C := (19, [.inl 0, .inl 12, .inr (false, [(-1, 60)]), .inr (false, [(2, 2)])], kch394, [24, 29, 30, 31], [([], some (.inr (false, [(-1, 63)])), kch36), ([], some (.inr (false, [(-9, -9)])), kch38)])
theorem kck730 : ai_chk [kcc28, kcc728, kcc729] kcc730 (fun pc => sm_ch sm_t19 pc, sm_Kn 2 6 none, fun x => sm_lk sm_ca2 x, some .int) [24, 29, 30, 31] 6 0 [] [] 2000 [] = true := by decide +kernel
/-- MiceRegisters.readLine -/
def kcc731 : ak_C := (17, [.inl 0, .inl 12, .inr (false, [(-1, 60)]), .inr (false, [(1, 1)])], kch395, [24, 25, 26], [([[], [], [], []], some (.inr (false, [(-1, 60)])), kch40), ([[], [], [(1, 60)], []], some (.inr (false, [(-9, -9)])), kch42)])
theorem kck731 : ai_chk [kcc499] kcc731 (fun pc => sm_ch sm_t17 pc, sm_Kn 2 6 none, fun x => sm_lk sm_ca2 x, some .int) [24, 25, 26] 6 4 [29] [] 2000 [(29, [(0, .inl 0), (1, .inl 12), (2, .inr (false, [(-1, 60)])), (3, .inr (false, [(1, 1)])), (4, .inr (false, [(2, 2)]))], [], kch396),
  (29, [(0, .inl 0), (1, .inl 12), (2, .inr (false, [(1, 60)])), (3, .inr (false, [(1, 1)])), (4, .inr (false, [(3, 3)])), (5, .inr (false, [(-9, -9)]))], [], kch396),
  (29, [(0, .inl 0), (1, .inl 12), (2, .inr (false, [(1, 60)])), (3, .inr (false, [(1, 1)])), (4, .inr (false, [(4, 4)])), (5, .inr (false, [(-9, -9)]))], [], kch396),
  (29, [(0, .inl 0), (1, .inl 12), (2, .inr (false, [(1, 60)])), (3, .inr (false, [(1, 1)])), (4, .inr (false, [(5, 5)])), (5, .inr (false, [(-9, -9)]))], [], kch396)] = true := by decide +kernel
def kch507 : aw_H := [(12, kcx265)]
/-- MiceRegisters.faultOfFigure -/
def kcc732 : ak_C := (18, [.inl 12, .inr (false, [(-1, 60)]), .inr (false, [(2, 2)]), .inr (false, [(0, 0)]), .inr (false, [(0, 7)])], kch23, [], [([], some (.inr (false, [(-9, -9)])), kch507), ([], some (.inr (false, [(-1, 63)])), [])])
def kch508 : aw_H := [(12, kcx267)]
/-- MiceRegisters.faultOfFigure -/
def kcc733 : ak_C := (18, [.inl 12, .inr (false, [(-1, 60)]), .inr (false, [(3, 3)]), .inr (false, [(1, 1)]), .inr (false, [(9, 9)])], kch507, [], [([], some (.inr (false, [(-9, -9)])), kch508), ([], some (.inr (false, [(-1, 63)])), [])])
/-- MiceRegisters.readMouse -/
def kcc734 : ak_C := (19, [.inl 0, .inl 12, .inr (false, [(-1, 60)]), .inr (false, [(1, 1)])], kch394, [24, 29, 30, 31], [([], some (.inr (false, [(-1, 63)])), kch36), ([], some (.inr (false, [(-9, -9)])), kch38)])
theorem kck734 : ai_chk [kcc28, kcc732, kcc733] kcc734 (fun pc => sm_ch sm_t19 pc, sm_Kn 2 6 none, fun x => sm_lk sm_ca2 x, some .int) [24, 29, 30, 31] 6 0 [] [] 2000 [] = true := by decide +kernel
/-- MiceRegisters.faultOfFigure -/
def kcc735 : ak_C := (18, [.inl 11, .inr (false, [(-1, 60)]), .inr (false, [(0, 63)]), .inr (false, ar_t32), .inr (false, ar_t32)], kch24, [], [([[], [], [], [], []], some (.inr (false, [(-1, 60)])), []), ([[], [(1, 60)], [(0, 59)], [], []], some (.inr (false, [(-9, -9)])), [])])
theorem kck735 : ai_chk [] kcc735 (fun pc => sm_ch sm_t18 pc, sm_Kn 2 6 none, fun x => sm_lk sm_ca2 x, some .int) [] 6 5 [] [] 2000 [] = true := by decide +kernel
/-- MiceRegisters.readLine -/
def kch509 : aw_H := [(0, kcx2), (11, .inr (.inl (1, 60, [], []))), (24, kcx25)]
def kcc736 : ak_C := (17, [.inl 0, .inl 11, .inr (false, [(-1, 60)]), .inr (false, [(59, 59)])], kch509, [], [([], some (.inr (false, [(-1, 60)])), [])])
def kch510 : aw_H := [(0, kcx2), (11, .inr (.inl (1, 60, [], []))), (24, kcx27)]
theorem kck736 : ai_chk [kcc735] kcc736 (fun pc => sm_ch sm_t17 pc, sm_Kn 2 6 none, fun x => sm_lk sm_ca2 x, some .int) [] 6 0 [29] [] 2000 [(29, [(0, .inl 0), (1, .inl 11), (2, .inr (false, [(-1, 60)])), (3, .inr (false, [(59, 59)])), (4, .inr (false, [(60, 60)]))], [], kch510)] = true := by decide +kernel
/-- MiceRegisters.faultOfFigure -/
def kcc737 : ak_C := (18, [.inl 11, .inr (false, [(-1, 60)]), .inr (false, [(60, 60)]), .inr (false, [(0, 0)]), .inr (false, [(0, 7)])], kch24, [], [([], some (.inr (false, [(-1, 63)])), [])])
/-- MiceRegisters.readMouse -/
def kcc738 : ak_C := (19, [.inl 0, .inl 11, .inr (false, [(-1, 60)]), .inr (false, [(59, 59)])], kch509, [], [([], some (.inr (false, [(-1, 63)])), [])])
theorem kck738 : ai_chk [kcc28, kcc737] kcc738 (fun pc => sm_ch sm_t19 pc, sm_Kn 2 6 none, fun x => sm_lk sm_ca2 x, some .int) [] 6 0 [] [] 2000 [] = true := by decide +kernel
/-- MiceRegisters.readLine -/
def kcc739 : ak_C := (17, [.inl 0, .inl 11, .inr (false, [(-1, 60)]), .inr (false, [(58, 58)])], kch509, [], [([], some (.inr (false, [(-1, 60)])), [])])
theorem kck739 : ai_chk [kcc735] kcc739 (fun pc => sm_ch sm_t17 pc, sm_Kn 2 6 none, fun x => sm_lk sm_ca2 x, some .int) [] 6 0 [29] [] 2000 [(29, [(0, .inl 0), (1, .inl 11), (2, .inr (false, [(-1, 60)])), (3, .inr (false, [(58, 58)])), (4, .inr (false, [(59, 59)]))], [], kch510),
  (29, [(0, .inl 0), (1, .inl 11), (2, .inr (false, [(1, 60)])), (3, .inr (false, [(58, 58)])), (4, .inr (false, [(60, 60)])), (5, .inr (false, [(-9, -9)]))], [], kch510)] = true := by decide +kernel
def kch511 : aw_H := [(11, kcx29)]
/-- MiceRegisters.faultOfFigure -/
def kcc740 : ak_C := (18, [.inl 11, .inr (false, [(-1, 60)]), .inr (false, [(59, 59)]), .inr (false, [(0, 0)]), .inr (false, [(0, 7)])], kch24, [], [([], some (.inr (false, [(-9, -9)])), kch511), ([], some (.inr (false, [(-1, 63)])), [])])
/-- MiceRegisters.faultOfFigure -/
def kcc741 : ak_C := (18, [.inl 11, .inr (false, [(-1, 60)]), .inr (false, [(60, 60)]), .inr (false, [(1, 1)]), .inr (false, [(9, 9)])], kch511, [], [([], some (.inr (false, [(-1, 63)])), [])])
/-- MiceRegisters.readMouse -/
def kcc742 : ak_C := (19, [.inl 0, .inl 11, .inr (false, [(-1, 60)]), .inr (false, [(58, 58)])], kch509, [], [([], some (.inr (false, [(-1, 63)])), [])])
theorem kck742 : ai_chk [kcc28, kcc740, kcc741] kcc742 (fun pc => sm_ch sm_t19 pc, sm_Kn 2 6 none, fun x => sm_lk sm_ca2 x, some .int) [] 6 0 [] [] 2000 [] = true := by decide +kernel
/-- MiceRegisters.readLine -/
def kcc743 : ak_C := (17, [.inl 0, .inl 11, .inr (false, [(-1, 60)]), .inr (false, [(57, 57)])], kch509, [], [([], some (.inr (false, [(-1, 60)])), [])])
theorem kck743 : ai_chk [kcc735] kcc743 (fun pc => sm_ch sm_t17 pc, sm_Kn 2 6 none, fun x => sm_lk sm_ca2 x, some .int) [] 6 0 [29] [] 2000 [(29, [(0, .inl 0), (1, .inl 11), (2, .inr (false, [(-1, 60)])), (3, .inr (false, [(57, 57)])), (4, .inr (false, [(58, 58)]))], [], kch510),
  (29, [(0, .inl 0), (1, .inl 11), (2, .inr (false, [(1, 60)])), (3, .inr (false, [(57, 57)])), (4, .inr (false, [(59, 59)])), (5, .inr (false, [(-9, -9)]))], [], kch510),
  (29, [(0, .inl 0), (1, .inl 11), (2, .inr (false, [(1, 60)])), (3, .inr (false, [(57, 57)])), (4, .inr (false, [(60, 60)])), (5, .inr (false, [(-9, -9)]))], [], kch510)] = true := by decide +kernel
def kch512 : aw_H := [(11, kcx31)]
/-- MiceRegisters.faultOfFigure -/
def kcc744 : ak_C := (18, [.inl 11, .inr (false, [(-1, 60)]), .inr (false, [(58, 58)]), .inr (false, [(0, 0)]), .inr (false, [(0, 7)])], kch24, [], [([], some (.inr (false, [(-9, -9)])), kch512), ([], some (.inr (false, [(-1, 63)])), [])])
def kch513 : aw_H := [(11, kcx33)]
/-- MiceRegisters.faultOfFigure -/
def kcc745 : ak_C := (18, [.inl 11, .inr (false, [(-1, 60)]), .inr (false, [(59, 59)]), .inr (false, [(1, 1)]), .inr (false, [(9, 9)])], kch512, [], [([], some (.inr (false, [(-9, -9)])), kch513), ([], some (.inr (false, [(-1, 63)])), [])])
/-- MiceRegisters.readMouse -/
def kch514 : aw_H := [(0, kcx2), (11, .inr (.inl (1, 60, [], []))), (24, kcx25), (29, .inr (.inl (0, 4, [], []))), (30, .inr (.inl (0, 4, [], []))), (31, kcx35)]
def kcc746 : ak_C := (19, [.inl 0, .inl 11, .inr (false, [(-1, 60)]), .inr (false, [(57, 57)])], kch514, [24, 29, 30, 31], [([], some (.inr (false, [(-1, 63)])), kch36), ([], some (.inr (false, [(-9, -9)])), kch38)])
theorem kck746 : ai_chk [kcc28, kcc744, kcc745] kcc746 (fun pc => sm_ch sm_t19 pc, sm_Kn 2 6 none, fun x => sm_lk sm_ca2 x, some .int) [24, 29, 30, 31] 6 0 [] [] 2000 [] = true := by decide +kernel
/-- MiceRegisters.readLine -/
def kch515 : aw_H := [(0, kcx2), (11, .inr (.inl (1, 60, [], []))), (24, kcx25), (25, .inr (.inl (0, 8, [], []))), (26, .inr (.inl (0, 8, [], [])))]
def kcc747 : ak_C := (17, [.inl 0, .inl 11, .inr (false, [(-1, 60)]), .inr (false, [(56, 56)])], kch515, [24, 25, 26], [([[], [], [], []], some (.inr (false, [(-1, 60)])), kch40), ([[], [], [(1, 60)], []], some (.inr (false, [(-9, -9)])), kch42)])
def kch516 : aw_H := [(0, kcx2), (11, .inr (.inl (1, 60, [], []))), (24, kcx27), (25, .inr (.inl (0, 8, [], []))), (26, .inr (.inl (0, 8, [], [])))]
theorem kck747 : ai_chk [kcc735] kcc747 (fun pc => sm_ch sm_t17 pc, sm_Kn 2 6 none, fun x => sm_lk sm_ca2 x, some .int) [24, 25, 26] 6 4 [29] [] 2000 [(29, [(0, .inl 0), (1, .inl 11), (2, .inr (false, [(-1, 60)])), (3, .inr (false, [(56, 56)])), (4, .inr (false, [(57, 57)]))], [], kch516),
  (29, [(0, .inl 0), (1, .inl 11), (2, .inr (false, [(1, 60)])), (3, .inr (false, [(56, 56)])), (4, .inr (false, [(58, 58)])), (5, .inr (false, [(-9, -9)]))], [], kch516),
  (29, [(0, .inl 0), (1, .inl 11), (2, .inr (false, [(1, 60)])), (3, .inr (false, [(56, 56)])), (4, .inr (false, [(59, 59)])), (5, .inr (false, [(-9, -9)]))], [], kch516),
  (29, [(0, .inl 0), (1, .inl 11), (2, .inr (false, [(1, 60)])), (3, .inr (false, [(56, 56)])), (4, .inr (false, [(60, 60)])), (5, .inr (false, [(-9, -9)]))], [], kch516)] = true := by decide +kernel
def kch517 : aw_H := [(11, kcx45)]
/-- MiceRegisters.faultOfFigure -/
def kcc748 : ak_C := (18, [.inl 11, .inr (false, [(-1, 60)]), .inr (false, [(57, 57)]), .inr (false, [(0, 0)]), .inr (false, [(0, 7)])], kch24, [], [([], some (.inr (false, [(-9, -9)])), kch517), ([], some (.inr (false, [(-1, 63)])), [])])
def kch518 : aw_H := [(11, kcx47)]
/-- MiceRegisters.faultOfFigure -/
def kcc749 : ak_C := (18, [.inl 11, .inr (false, [(-1, 60)]), .inr (false, [(58, 58)]), .inr (false, [(1, 1)]), .inr (false, [(9, 9)])], kch517, [], [([], some (.inr (false, [(-9, -9)])), kch518), ([], some (.inr (false, [(-1, 63)])), [])])
/-- MiceRegisters.readMouse -/
def kcc750 : ak_C := (19, [.inl 0, .inl 11, .inr (false, [(-1, 60)]), .inr (false, [(56, 56)])], kch514, [24, 29, 30, 31], [([], some (.inr (false, [(-1, 63)])), kch36), ([], some (.inr (false, [(-9, -9)])), kch38)])
theorem kck750 : ai_chk [kcc28, kcc748, kcc749] kcc750 (fun pc => sm_ch sm_t19 pc, sm_Kn 2 6 none, fun x => sm_lk sm_ca2 x, some .int) [24, 29, 30, 31] 6 0 [] [] 2000 [] = true := by decide +kernel
/-- MiceRegisters.readLine -/
def kcc751 : ak_C := (17, [.inl 0, .inl 11, .inr (false, [(-1, 60)]), .inr (false, [(55, 55)])], kch515, [24, 25, 26], [([[], [], [], []], some (.inr (false, [(-1, 60)])), kch40), ([[], [], [(1, 60)], []], some (.inr (false, [(-9, -9)])), kch42)])
theorem kck751 : ai_chk [kcc735] kcc751 (fun pc => sm_ch sm_t17 pc, sm_Kn 2 6 none, fun x => sm_lk sm_ca2 x, some .int) [24, 25, 26] 6 4 [29] [] 2000 [(29, [(0, .inl 0), (1, .inl 11), (2, .inr (false, [(-1, 60)])), (3, .inr (false, [(55, 55)])), (4, .inr (false, [(56, 56)]))], [], kch516),
  (29, [(0, .inl 0), (1, .inl 11), (2, .inr (false, [(1, 60)])), (3, .inr (false, [(55, 55)])), (4, .inr (false, [(57, 57)])), (5, .inr (false, [(-9, -9)]))], [], kch516),
  (29, [(0, .inl 0), (1, .inl 11), (2, .inr (false, [(1, 60)])), (3, .inr (false, [(55, 55)])), (4, .inr (false, [(58, 58)])), (5, .inr (false, [(-9, -9)]))], [], kch516),
  (29, [(0, .inl 0), (1, .inl 11), (2, .inr (false, [(1, 60)])), (3, .inr (false, [(55, 55)])), (4, .inr (false, [(59, 59)])), (5, .inr (false, [(-9, -9)]))], [], kch516)] = true := by decide +kernel
def kch519 : aw_H := [(11, kcx49)]
/-- MiceRegisters.faultOfFigure -/
def kcc752 : ak_C := (18, [.inl 11, .inr (false, [(-1, 60)]), .inr (false, [(56, 56)]), .inr (false, [(0, 0)]), .inr (false, [(0, 7)])], kch24, [], [([], some (.inr (false, [(-9, -9)])), kch519), ([], some (.inr (false, [(-1, 63)])), [])])
def kch520 : aw_H := [(11, kcx51)]
/-- MiceRegisters.faultOfFigure -/
def kcc753 : ak_C := (18, [.inl 11, .inr (false, [(-1, 60)]), .inr (false, [(57, 57)]), .inr (false, [(1, 1)]), .inr (false, [(9, 9)])], kch519, [], [([], some (.inr (false, [(-9, -9)])), kch520), ([], some (.inr (false, [(-1, 63)])), [])])
/-- MiceRegisters.readMouse -/
def kcc754 : ak_C := (19, [.inl 0, .inl 11, .inr (false, [(-1, 60)]), .inr (false, [(55, 55)])], kch514, [24, 29, 30, 31], [([], some (.inr (false, [(-1, 63)])), kch36), ([], some (.inr (false, [(-9, -9)])), kch38)])
theorem kck754 : ai_chk [kcc28, kcc752, kcc753] kcc754 (fun pc => sm_ch sm_t19 pc, sm_Kn 2 6 none, fun x => sm_lk sm_ca2 x, some .int) [24, 29, 30, 31] 6 0 [] [] 2000 [] = true := by decide +kernel
/-- MiceRegisters.readLine -/
def kcc755 : ak_C := (17, [.inl 0, .inl 11, .inr (false, [(-1, 60)]), .inr (false, [(54, 54)])], kch515, [24, 25, 26], [([[], [], [], []], some (.inr (false, [(-1, 60)])), kch40), ([[], [], [(1, 60)], []], some (.inr (false, [(-9, -9)])), kch42)])
theorem kck755 : ai_chk [kcc735] kcc755 (fun pc => sm_ch sm_t17 pc, sm_Kn 2 6 none, fun x => sm_lk sm_ca2 x, some .int) [24, 25, 26] 6 4 [29] [] 2000 [(29, [(0, .inl 0), (1, .inl 11), (2, .inr (false, [(-1, 60)])), (3, .inr (false, [(54, 54)])), (4, .inr (false, [(55, 55)]))], [], kch516),
  (29, [(0, .inl 0), (1, .inl 11), (2, .inr (false, [(1, 60)])), (3, .inr (false, [(54, 54)])), (4, .inr (false, [(56, 56)])), (5, .inr (false, [(-9, -9)]))], [], kch516),
  (29, [(0, .inl 0), (1, .inl 11), (2, .inr (false, [(1, 60)])), (3, .inr (false, [(54, 54)])), (4, .inr (false, [(57, 57)])), (5, .inr (false, [(-9, -9)]))], [], kch516),
  (29, [(0, .inl 0), (1, .inl 11), (2, .inr (false, [(1, 60)])), (3, .inr (false, [(54, 54)])), (4, .inr (false, [(58, 58)])), (5, .inr (false, [(-9, -9)]))], [], kch516)] = true := by decide +kernel
def kch521 : aw_H := [(11, kcx53)]
/-- MiceRegisters.faultOfFigure -/
def kcc756 : ak_C := (18, [.inl 11, .inr (false, [(-1, 60)]), .inr (false, [(55, 55)]), .inr (false, [(0, 0)]), .inr (false, [(0, 7)])], kch24, [], [([], some (.inr (false, [(-9, -9)])), kch521), ([], some (.inr (false, [(-1, 63)])), [])])
def kch522 : aw_H := [(11, kcx55)]
/-- MiceRegisters.faultOfFigure -/
def kcc757 : ak_C := (18, [.inl 11, .inr (false, [(-1, 60)]), .inr (false, [(56, 56)]), .inr (false, [(1, 1)]), .inr (false, [(9, 9)])], kch521, [], [([], some (.inr (false, [(-9, -9)])), kch522), ([], some (.inr (false, [(-1, 63)])), [])])
/-- MiceRegisters.readMouse -/
def kcc758 : ak_C := (19, [.inl 0, .inl 11, .inr (false, [(-1, 60)]), .inr (false, [(54, 54)])], kch514, [24, 29, 30, 31], [([], some (.inr (false, [(-1, 63)])), kch36), ([], some (.inr (false, [(-9, -9)])), kch38)])
theorem kck758 : ai_chk [kcc28, kcc756, kcc757] kcc758 (fun pc => sm_ch sm_t19 pc, sm_Kn 2 6 none, fun x => sm_lk sm_ca2 x, some .int) [24, 29, 30, 31] 6 0 [] [] 2000 [] = true := by decide +kernel
/-- MiceRegisters.readLine -/
def kcc759 : ak_C := (17, [.inl 0, .inl 11, .inr (false, [(-1, 60)]), .inr (false, [(53, 53)])], kch515, [24, 25, 26], [([[], [], [], []], some (.inr (false, [(-1, 60)])), kch40), ([[], [], [(1, 60)], []], some (.inr (false, [(-9, -9)])), kch42)])
theorem kck759 : ai_chk [kcc735] kcc759 (fun pc => sm_ch sm_t17 pc, sm_Kn 2 6 none, fun x => sm_lk sm_ca2 x, some .int) [24, 25, 26] 6 4 [29] [] 2000 [(29, [(0, .inl 0), (1, .inl 11), (2, .inr (false, [(-1, 60)])), (3, .inr (false, [(53, 53)])), (4, .inr (false, [(54, 54)]))], [], kch516),
  (29, [(0, .inl 0), (1, .inl 11), (2, .inr (false, [(1, 60)])), (3, .inr (false, [(53, 53)])), (4, .inr (false, [(55, 55)])), (5, .inr (false, [(-9, -9)]))], [], kch516),
  (29, [(0, .inl 0), (1, .inl 11), (2, .inr (false, [(1, 60)])), (3, .inr (false, [(53, 53)])), (4, .inr (false, [(56, 56)])), (5, .inr (false, [(-9, -9)]))], [], kch516),
  (29, [(0, .inl 0), (1, .inl 11), (2, .inr (false, [(1, 60)])), (3, .inr (false, [(53, 53)])), (4, .inr (false, [(57, 57)])), (5, .inr (false, [(-9, -9)]))], [], kch516)] = true := by decide +kernel
def kch523 : aw_H := [(11, kcx57)]
/-- MiceRegisters.faultOfFigure -/
def kcc760 : ak_C := (18, [.inl 11, .inr (false, [(-1, 60)]), .inr (false, [(54, 54)]), .inr (false, [(0, 0)]), .inr (false, [(0, 7)])], kch24, [], [([], some (.inr (false, [(-9, -9)])), kch523), ([], some (.inr (false, [(-1, 63)])), [])])
def kch524 : aw_H := [(11, kcx59)]
/-- MiceRegisters.faultOfFigure -/
def kcc761 : ak_C := (18, [.inl 11, .inr (false, [(-1, 60)]), .inr (false, [(55, 55)]), .inr (false, [(1, 1)]), .inr (false, [(9, 9)])], kch523, [], [([], some (.inr (false, [(-9, -9)])), kch524), ([], some (.inr (false, [(-1, 63)])), [])])
/-- MiceRegisters.readMouse -/
def kcc762 : ak_C := (19, [.inl 0, .inl 11, .inr (false, [(-1, 60)]), .inr (false, [(53, 53)])], kch514, [24, 29, 30, 31], [([], some (.inr (false, [(-1, 63)])), kch36), ([], some (.inr (false, [(-9, -9)])), kch38)])
theorem kck762 : ai_chk [kcc28, kcc760, kcc761] kcc762 (fun pc => sm_ch sm_t19 pc, sm_Kn 2 6 none, fun x => sm_lk sm_ca2 x, some .int) [24, 29, 30, 31] 6 0 [] [] 2000 [] = true := by decide +kernel
/-- MiceRegisters.readLine -/
def kcc763 : ak_C := (17, [.inl 0, .inl 11, .inr (false, [(-1, 60)]), .inr (false, [(52, 52)])], kch515, [24, 25, 26], [([[], [], [], []], some (.inr (false, [(-1, 60)])), kch40), ([[], [], [(1, 60)], []], some (.inr (false, [(-9, -9)])), kch42)])
theorem kck763 : ai_chk [kcc735] kcc763 (fun pc => sm_ch sm_t17 pc, sm_Kn 2 6 none, fun x => sm_lk sm_ca2 x, some .int) [24, 25, 26] 6 4 [29] [] 2000 [(29, [(0, .inl 0), (1, .inl 11), (2, .inr (false, [(-1, 60)])), (3, .inr (false, [(52, 52)])), (4, .inr (false, [(53, 53)]))], [], kch516),
  (29, [(0, .inl 0), (1, .inl 11), (2, .inr (false, [(1, 60)])), (3, .inr (false, [(52, 52)])), (4, .inr (false, [(54, 54)])), (5, .inr (false, [(-9, -9)]))], [], kch516),
  (29, [(0, .inl 0), (1, .inl 11), (2, .inr (false, [(1, 60)])), (3, .inr (false, [(52, 52)])), (4, .inr (false, [(55, 55)])), (5, .inr (false, [(-9, -9)]))], [], kch516),
  (29, [(0, .inl 0), (1, .inl 11), (2, .inr (false, [(1, 60)])), (3, .inr (false, [(52, 52)])), (4, .inr (false, [(56, 56)])), (5, .inr (false, [(-9, -9)]))], [], kch516)] = true := by decide +kernel
def kch525 : aw_H := [(11, kcx61)]
/-- MiceRegisters.faultOfFigure -/
def kcc764 : ak_C := (18, [.inl 11, .inr (false, [(-1, 60)]), .inr (false, [(53, 53)]), .inr (false, [(0, 0)]), .inr (false, [(0, 7)])], kch24, [], [([], some (.inr (false, [(-9, -9)])), kch525), ([], some (.inr (false, [(-1, 63)])), [])])
def kch526 : aw_H := [(11, kcx63)]
/-- MiceRegisters.faultOfFigure -/
def kcc765 : ak_C := (18, [.inl 11, .inr (false, [(-1, 60)]), .inr (false, [(54, 54)]), .inr (false, [(1, 1)]), .inr (false, [(9, 9)])], kch525, [], [([], some (.inr (false, [(-9, -9)])), kch526), ([], some (.inr (false, [(-1, 63)])), [])])
/-- MiceRegisters.readMouse -/
def kcc766 : ak_C := (19, [.inl 0, .inl 11, .inr (false, [(-1, 60)]), .inr (false, [(52, 52)])], kch514, [24, 29, 30, 31], [([], some (.inr (false, [(-1, 63)])), kch36), ([], some (.inr (false, [(-9, -9)])), kch38)])
theorem kck766 : ai_chk [kcc28, kcc764, kcc765] kcc766 (fun pc => sm_ch sm_t19 pc, sm_Kn 2 6 none, fun x => sm_lk sm_ca2 x, some .int) [24, 29, 30, 31] 6 0 [] [] 2000 [] = true := by decide +kernel
/-- MiceRegisters.readLine -/
def kcc767 : ak_C := (17, [.inl 0, .inl 11, .inr (false, [(-1, 60)]), .inr (false, [(51, 51)])], kch515, [24, 25, 26], [([[], [], [], []], some (.inr (false, [(-1, 60)])), kch40), ([[], [], [(1, 60)], []], some (.inr (false, [(-9, -9)])), kch42)])
theorem kck767 : ai_chk [kcc735] kcc767 (fun pc => sm_ch sm_t17 pc, sm_Kn 2 6 none, fun x => sm_lk sm_ca2 x, some .int) [24, 25, 26] 6 4 [29] [] 2000 [(29, [(0, .inl 0), (1, .inl 11), (2, .inr (false, [(-1, 60)])), (3, .inr (false, [(51, 51)])), (4, .inr (false, [(52, 52)]))], [], kch516),
  (29, [(0, .inl 0), (1, .inl 11), (2, .inr (false, [(1, 60)])), (3, .inr (false, [(51, 51)])), (4, .inr (false, [(53, 53)])), (5, .inr (false, [(-9, -9)]))], [], kch516),
  (29, [(0, .inl 0), (1, .inl 11), (2, .inr (false, [(1, 60)])), (3, .inr (false, [(51, 51)])), (4, .inr (false, [(54, 54)])), (5, .inr (false, [(-9, -9)]))], [], kch516),
  (29, [(0, .inl 0), (1, .inl 11), (2, .inr (false, [(1, 60)])), (3, .inr (false, [(51, 51)])), (4, .inr (false, [(55, 55)])), (5, .inr (false, [(-9, -9)]))], [], kch516)] = true := by decide +kernel
def kch527 : aw_H := [(11, kcx65)]
/-- MiceRegisters.faultOfFigure -/
def kcc768 : ak_C := (18, [.inl 11, .inr (false, [(-1, 60)]), .inr (false, [(52, 52)]), .inr (false, [(0, 0)]), .inr (false, [(0, 7)])], kch24, [], [([], some (.inr (false, [(-9, -9)])), kch527), ([], some (.inr (false, [(-1, 63)])), [])])
def kch528 : aw_H := [(11, kcx67)]
/-- MiceRegisters.faultOfFigure -/
def kcc769 : ak_C := (18, [.inl 11, .inr (false, [(-1, 60)]), .inr (false, [(53, 53)]), .inr (false, [(1, 1)]), .inr (false, [(9, 9)])], kch527, [], [([], some (.inr (false, [(-9, -9)])), kch528), ([], some (.inr (false, [(-1, 63)])), [])])
/-- MiceRegisters.readMouse -/
def kcc770 : ak_C := (19, [.inl 0, .inl 11, .inr (false, [(-1, 60)]), .inr (false, [(51, 51)])], kch514, [24, 29, 30, 31], [([], some (.inr (false, [(-1, 63)])), kch36), ([], some (.inr (false, [(-9, -9)])), kch38)])
theorem kck770 : ai_chk [kcc28, kcc768, kcc769] kcc770 (fun pc => sm_ch sm_t19 pc, sm_Kn 2 6 none, fun x => sm_lk sm_ca2 x, some .int) [24, 29, 30, 31] 6 0 [] [] 2000 [] = true := by decide +kernel
/-- MiceRegisters.readLine -/
def kcc771 : ak_C := (17, [.inl 0, .inl 11, .inr (false, [(-1, 60)]), .inr (false, [(50, 50)])], kch515, [24, 25, 26], [([[], [], [], []], some (.inr (false, [(-1, 60)])), kch40), ([[], [], [(1, 60)], []], some (.inr (false, [(-9, -9)])), kch42)])
theorem kck771 : ai_chk [kcc735] kcc771 (fun pc => sm_ch sm_t17 pc, sm_Kn 2 6 none, fun x => sm_lk sm_ca2 x, some .int) [24, 25, 26] 6 4 [29] [] 2000 [(29, [(0, .inl 0), (1, .inl 11), (2, .inr (false, [(-1, 60)])), (3, .inr (false, [(50, 50)])), (4, .inr (false, [(51, 51)]))], [], kch516),
  (29, [(0, .inl 0), (1, .inl 11), (2, .inr (false, [(1, 60)])), (3, .inr (false, [(50, 50)])), (4, .inr (false, [(52, 52)])), (5, .inr (false, [(-9, -9)]))], [], kch516),
  (29, [(0, .inl 0), (1, .inl 11), (2, .inr (false, [(1, 60)])), (3, .inr (false, [(50, 50)])), (4, .inr (false, [(53, 53)])), (5, .inr (false, [(-9, -9)]))], [], kch516),
  (29, [(0, .inl 0), (1, .inl 11), (2, .inr (false, [(1, 60)])), (3, .inr (false, [(50, 50)])), (4, .inr (false, [(54, 54)])), (5, .inr (false, [(-9, -9)]))], [], kch516)] = true := by decide +kernel
def kch529 : aw_H := [(11, kcx69)]
/-- MiceRegisters.faultOfFigure -/
def kcc772 : ak_C := (18, [.inl 11, .inr (false, [(-1, 60)]), .inr (false, [(51, 51)]), .inr (false, [(0, 0)]), .inr (false, [(0, 7)])], kch24, [], [([], some (.inr (false, [(-9, -9)])), kch529), ([], some (.inr (false, [(-1, 63)])), [])])
def kch530 : aw_H := [(11, kcx71)]
/-- MiceRegisters.faultOfFigure -/
def kcc773 : ak_C := (18, [.inl 11, .inr (false, [(-1, 60)]), .inr (false, [(52, 52)]), .inr (false, [(1, 1)]), .inr (false, [(9, 9)])], kch529, [], [([], some (.inr (false, [(-9, -9)])), kch530), ([], some (.inr (false, [(-1, 63)])), [])])
/-- MiceRegisters.readMouse -/
def kcc774 : ak_C := (19, [.inl 0, .inl 11, .inr (false, [(-1, 60)]), .inr (false, [(50, 50)])], kch514, [24, 29, 30, 31], [([], some (.inr (false, [(-1, 63)])), kch36), ([], some (.inr (false, [(-9, -9)])), kch38)])
theorem kck774 : ai_chk [kcc28, kcc772, kcc773] kcc774 (fun pc => sm_ch sm_t19 pc, sm_Kn 2 6 none, fun x => sm_lk sm_ca2 x, some .int) [24, 29, 30, 31] 6 0 [] [] 2000 [] = true := by decide +kernel
/-- MiceRegisters.readLine -/
def kcc775 : ak_C := (17, [.inl 0, .inl 11, .inr (false, [(-1, 60)]), .inr (false, [(49, 49)])], kch515, [24, 25, 26], [([[], [], [], []], some (.inr (false, [(-1, 60)])), kch40), ([[], [], [(1, 60)], []], some (.inr (false, [(-9, -9)])), kch42)])
theorem kck775 : ai_chk [kcc735] kcc775 (fun pc => sm_ch sm_t17 pc, sm_Kn 2 6 none, fun x => sm_lk sm_ca2 x, some .int) [24, 25, 26] 6 4 [29] [] 2000 [(29, [(0, .inl 0), (1, .inl 11), (2, .inr (false, [(-1, 60)])), (3, .inr (false, [(49, 49)])), (4, .inr (false, [(50, 50)]))], [], kch516),
  (29, [(0, .inl 0), (1, .inl 11), (2, .inr (false, [(1, 60)])), (3, .inr (false, [(49, 49)])), (4, .inr (false, [(51, 51)])), (5, .inr (false, [(-9, -9)]))], [], kch516),
  (29, [(0, .inl 0), (1, .inl 11), (2, .inr (false, [(1, 60)])), (3, .inr (false, [(49, 49)])), (4, .inr (false, [(52, 52)])), (5, .inr (false, [(-9, -9)]))], [], kch516),
  (29, [(0, .inl 0), (1, .inl 11), (2, .inr (false, [(1, 60)])), (3, .inr (false, [(49, 49)])), (4, .inr (false, [(53, 53)])), (5, .inr (false, [(-9, -9)]))], [], kch516)] = true := by decide +kernel
def kch531 : aw_H := [(11, kcx73)]
/-- MiceRegisters.faultOfFigure -/
def kcc776 : ak_C := (18, [.inl 11, .inr (false, [(-1, 60)]), .inr (false, [(50, 50)]), .inr (false, [(0, 0)]), .inr (false, [(0, 7)])], kch24, [], [([], some (.inr (false, [(-9, -9)])), kch531), ([], some (.inr (false, [(-1, 63)])), [])])
def kch532 : aw_H := [(11, kcx75)]
/-- MiceRegisters.faultOfFigure -/
def kcc777 : ak_C := (18, [.inl 11, .inr (false, [(-1, 60)]), .inr (false, [(51, 51)]), .inr (false, [(1, 1)]), .inr (false, [(9, 9)])], kch531, [], [([], some (.inr (false, [(-9, -9)])), kch532), ([], some (.inr (false, [(-1, 63)])), [])])
/-- MiceRegisters.readMouse -/
def kcc778 : ak_C := (19, [.inl 0, .inl 11, .inr (false, [(-1, 60)]), .inr (false, [(49, 49)])], kch514, [24, 29, 30, 31], [([], some (.inr (false, [(-1, 63)])), kch36), ([], some (.inr (false, [(-9, -9)])), kch38)])
theorem kck778 : ai_chk [kcc28, kcc776, kcc777] kcc778 (fun pc => sm_ch sm_t19 pc, sm_Kn 2 6 none, fun x => sm_lk sm_ca2 x, some .int) [24, 29, 30, 31] 6 0 [] [] 2000 [] = true := by decide +kernel
/-- MiceRegisters.readLine -/
def kcc779 : ak_C := (17, [.inl 0, .inl 11, .inr (false, [(-1, 60)]), .inr (false, [(48, 48)])], kch515, [24, 25, 26], [([[], [], [], []], some (.inr (false, [(-1, 60)])), kch40), ([[], [], [(1, 60)], []], some (.inr (false, [(-9, -9)])), kch42)])
theorem kck779 : ai_chk [kcc735] kcc779 (fun pc => sm_ch sm_t17 pc, sm_Kn 2 6 none, fun x => sm_lk sm_ca2 x, some .int) [24, 25, 26] 6 4 [29] [] 2000 [(29, [(0, .inl 0), (1, .inl 11), (2, .inr (false, [(-1, 60)])), (3, .inr (false, [(48, 48)])), (4, .inr (false, [(49, 49)]))], [], kch516),
  (29, [(0, .inl 0), (1, .inl 11), (2, .inr (false, [(1, 60)])), (3, .inr (false, [(48, 48)])), (4, .inr (false, [(50, 50)])), (5, .inr (false, [(-9, -9)]))], [], kch516),
  (29, [(0, .inl 0), (1, .inl 11), (2, .inr (false, [(1, 60)])), (3, .inr (false, [(48, 48)])), (4, .inr (false, [(51, 51)])), (5, .inr (false, [(-9, -9)]))], [], kch516),
  (29, [(0, .inl 0), (1, .inl 11), (2, .inr (false, [(1, 60)])), (3, .inr (false, [(48, 48)])), (4, .inr (false, [(52, 52)])), (5, .inr (false, [(-9, -9)]))], [], kch516)] = true := by decide +kernel
def kch533 : aw_H := [(11, kcx77)]
/-- MiceRegisters.faultOfFigure -/
def kcc780 : ak_C := (18, [.inl 11, .inr (false, [(-1, 60)]), .inr (false, [(49, 49)]), .inr (false, [(0, 0)]), .inr (false, [(0, 7)])], kch24, [], [([], some (.inr (false, [(-9, -9)])), kch533), ([], some (.inr (false, [(-1, 63)])), [])])
def kch534 : aw_H := [(11, kcx79)]
/-- MiceRegisters.faultOfFigure -/
def kcc781 : ak_C := (18, [.inl 11, .inr (false, [(-1, 60)]), .inr (false, [(50, 50)]), .inr (false, [(1, 1)]), .inr (false, [(9, 9)])], kch533, [], [([], some (.inr (false, [(-9, -9)])), kch534), ([], some (.inr (false, [(-1, 63)])), [])])
/-- MiceRegisters.readMouse -/
def kcc782 : ak_C := (19, [.inl 0, .inl 11, .inr (false, [(-1, 60)]), .inr (false, [(48, 48)])], kch514, [24, 29, 30, 31], [([], some (.inr (false, [(-1, 63)])), kch36), ([], some (.inr (false, [(-9, -9)])), kch38)])
theorem kck782 : ai_chk [kcc28, kcc780, kcc781] kcc782 (fun pc => sm_ch sm_t19 pc, sm_Kn 2 6 none, fun x => sm_lk sm_ca2 x, some .int) [24, 29, 30, 31] 6 0 [] [] 2000 [] = true := by decide +kernel
/-- MiceRegisters.readLine -/
def kcc783 : ak_C := (17, [.inl 0, .inl 11, .inr (false, [(-1, 60)]), .inr (false, [(47, 47)])], kch515, [24, 25, 26], [([[], [], [], []], some (.inr (false, [(-1, 60)])), kch40), ([[], [], [(1, 60)], []], some (.inr (false, [(-9, -9)])), kch42)])
theorem kck783 : ai_chk [kcc735] kcc783 (fun pc => sm_ch sm_t17 pc, sm_Kn 2 6 none, fun x => sm_lk sm_ca2 x, some .int) [24, 25, 26] 6 4 [29] [] 2000 [(29, [(0, .inl 0), (1, .inl 11), (2, .inr (false, [(-1, 60)])), (3, .inr (false, [(47, 47)])), (4, .inr (false, [(48, 48)]))], [], kch516),
  (29, [(0, .inl 0), (1, .inl 11), (2, .inr (false, [(1, 60)])), (3, .inr (false, [(47, 47)])), (4, .inr (false, [(49, 49)])), (5, .inr (false, [(-9, -9)]))], [], kch516),
  (29, [(0, .inl 0), (1, .inl 11), (2, .inr (false, [(1, 60)])), (3, .inr (false, [(47, 47)])), (4, .inr (false, [(50, 50)])), (5, .inr (false, [(-9, -9)]))], [], kch516),
  (29, [(0, .inl 0), (1, .inl 11), (2, .inr (false, [(1, 60)])), (3, .inr (false, [(47, 47)])), (4, .inr (false, [(51, 51)])), (5, .inr (false, [(-9, -9)]))], [], kch516)] = true := by decide +kernel
def kch535 : aw_H := [(11, kcx81)]
/-- MiceRegisters.faultOfFigure -/
def kcc784 : ak_C := (18, [.inl 11, .inr (false, [(-1, 60)]), .inr (false, [(48, 48)]), .inr (false, [(0, 0)]), .inr (false, [(0, 7)])], kch24, [], [([], some (.inr (false, [(-9, -9)])), kch535), ([], some (.inr (false, [(-1, 63)])), [])])
def kch536 : aw_H := [(11, kcx83)]
/-- MiceRegisters.faultOfFigure -/
def kcc785 : ak_C := (18, [.inl 11, .inr (false, [(-1, 60)]), .inr (false, [(49, 49)]), .inr (false, [(1, 1)]), .inr (false, [(9, 9)])], kch535, [], [([], some (.inr (false, [(-9, -9)])), kch536), ([], some (.inr (false, [(-1, 63)])), [])])
/-- MiceRegisters.readMouse -/
def kcc786 : ak_C := (19, [.inl 0, .inl 11, .inr (false, [(-1, 60)]), .inr (false, [(47, 47)])], kch514, [24, 29, 30, 31], [([], some (.inr (false, [(-1, 63)])), kch36), ([], some (.inr (false, [(-9, -9)])), kch38)])
theorem kck786 : ai_chk [kcc28, kcc784, kcc785] kcc786 (fun pc => sm_ch sm_t19 pc, sm_Kn 2 6 none, fun x => sm_lk sm_ca2 x, some .int) [24, 29, 30, 31] 6 0 [] [] 2000 [] = true := by decide +kernel
/-- MiceRegisters.readLine -/
def kcc787 : ak_C := (17, [.inl 0, .inl 11, .inr (false, [(-1, 60)]), .inr (false, [(46, 46)])], kch515, [24, 25, 26], [([[], [], [], []], some (.inr (false, [(-1, 60)])), kch40), ([[], [], [(1, 60)], []], some (.inr (false, [(-9, -9)])), kch42)])
theorem kck787 : ai_chk [kcc735] kcc787 (fun pc => sm_ch sm_t17 pc, sm_Kn 2 6 none, fun x => sm_lk sm_ca2 x, some .int) [24, 25, 26] 6 4 [29] [] 2000 [(29, [(0, .inl 0), (1, .inl 11), (2, .inr (false, [(-1, 60)])), (3, .inr (false, [(46, 46)])), (4, .inr (false, [(47, 47)]))], [], kch516),
  (29, [(0, .inl 0), (1, .inl 11), (2, .inr (false, [(1, 60)])), (3, .inr (false, [(46, 46)])), (4, .inr (false, [(48, 48)])), (5, .inr (false, [(-9, -9)]))], [], kch516),
  (29, [(0, .inl 0), (1, .inl 11), (2, .inr (false, [(1, 60)])), (3, .inr (false, [(46, 46)])), (4, .inr (false, [(49, 49)])), (5, .inr (false, [(-9, -9)]))], [], kch516),
  (29, [(0, .inl 0), (1, .inl 11), (2, .inr (false, [(1, 60)])), (3, .inr (false, [(46, 46)])), (4, .inr (false, [(50, 50)])), (5, .inr (false, [(-9, -9)]))], [], kch516)] = true := by decide +kernel
def kch537 : aw_H := [(11, kcx85)]
/-- MiceRegisters.faultOfFigure -/
def kcc788 : ak_C := (18, [.inl 11, .inr (false, [(-1, 60)]), .inr (false, [(47, 47)]), .inr (false, [(0, 0)]), .inr (false, [(0, 7)])], kch24, [], [([], some (.inr (false, [(-9, -9)])), kch537), ([], some (.inr (false, [(-1, 63)])), [])])
def kch538 : aw_H := [(11, kcx87)]
/-- MiceRegisters.faultOfFigure -/
def kcc789 : ak_C := (18, [.inl 11, .inr (false, [(-1, 60)]), .inr (false, [(48, 48)]), .inr (false, [(1, 1)]), .inr (false, [(9, 9)])], kch537, [], [([], some (.inr (false, [(-9, -9)])), kch538), ([], some (.inr (false, [(-1, 63)])), [])])
/-- MiceRegisters.readMouse -/
def kcc790 : ak_C := (19, [.inl 0, .inl 11, .inr (false, [(-1, 60)]), .inr (false, [(46, 46)])], kch514, [24, 29, 30, 31], [([], some (.inr (false, [(-1, 63)])), kch36), ([], some (.inr (false, [(-9, -9)])), kch38)])
theorem kck790 : ai_chk [kcc28, kcc788, kcc789] kcc790 (fun pc => sm_ch sm_t19 pc, sm_Kn 2 6 none, fun x => sm_lk sm_ca2 x, some .int) [24, 29, 30, 31] 6 0 [] [] 2000 [] = true := by decide +kernel
/-- MiceRegisters.readLine -/
def kcc791 : ak_C := (17, [.inl 0, .inl 11, .inr (false, [(-1, 60)]), .inr (false, [(45, 45)])], kch515, [24, 25, 26], [([[], [], [], []], some (.inr (false, [(-1, 60)])), kch40), ([[], [], [(1, 60)], []], some (.inr (false, [(-9, -9)])), kch42)])
theorem kck791 : ai_chk [kcc735] kcc791 (fun pc => sm_ch sm_t17 pc, sm_Kn 2 6 none, fun x => sm_lk sm_ca2 x, some .int) [24, 25, 26] 6 4 [29] [] 2000 [(29, [(0, .inl 0), (1, .inl 11), (2, .inr (false, [(-1, 60)])), (3, .inr (false, [(45, 45)])), (4, .inr (false, [(46, 46)]))], [], kch516),
  (29, [(0, .inl 0), (1, .inl 11), (2, .inr (false, [(1, 60)])), (3, .inr (false, [(45, 45)])), (4, .inr (false, [(47, 47)])), (5, .inr (false, [(-9, -9)]))], [], kch516),
  (29, [(0, .inl 0), (1, .inl 11), (2, .inr (false, [(1, 60)])), (3, .inr (false, [(45, 45)])), (4, .inr (false, [(48, 48)])), (5, .inr (false, [(-9, -9)]))], [], kch516),
  (29, [(0, .inl 0), (1, .inl 11), (2, .inr (false, [(1, 60)])), (3, .inr (false, [(45, 45)])), (4, .inr (false, [(49, 49)])), (5, .inr (false, [(-9, -9)]))], [], kch516)] = true := by decide +kernel
def kch539 : aw_H := [(11, kcx89)]
/-- MiceRegisters.faultOfFigure -/
def kcc792 : ak_C := (18, [.inl 11, .inr (false, [(-1, 60)]), .inr (false, [(46, 46)]), .inr (false, [(0, 0)]), .inr (false, [(0, 7)])], kch24, [], [([], some (.inr (false, [(-9, -9)])), kch539), ([], some (.inr (false, [(-1, 63)])), [])])
def kch540 : aw_H := [(11, kcx91)]
/-- MiceRegisters.faultOfFigure -/
def kcc793 : ak_C := (18, [.inl 11, .inr (false, [(-1, 60)]), .inr (false, [(47, 47)]), .inr (false, [(1, 1)]), .inr (false, [(9, 9)])], kch539, [], [([], some (.inr (false, [(-9, -9)])), kch540), ([], some (.inr (false, [(-1, 63)])), [])])
/-- MiceRegisters.readMouse -/
def kcc794 : ak_C := (19, [.inl 0, .inl 11, .inr (false, [(-1, 60)]), .inr (false, [(45, 45)])], kch514, [24, 29, 30, 31], [([], some (.inr (false, [(-1, 63)])), kch36), ([], some (.inr (false, [(-9, -9)])), kch38)])
theorem kck794 : ai_chk [kcc28, kcc792, kcc793] kcc794 (fun pc => sm_ch sm_t19 pc, sm_Kn 2 6 none, fun x => sm_lk sm_ca2 x, some .int) [24, 29, 30, 31] 6 0 [] [] 2000 [] = true := by decide +kernel
/-- MiceRegisters.readLine -/
def kcc795 : ak_C := (17, [.inl 0, .inl 11, .inr (false, [(-1, 60)]), .inr (false, [(44, 44)])], kch515, [24, 25, 26], [([[], [], [], []], some (.inr (false, [(-1, 60)])), kch40), ([[], [], [(1, 60)], []], some (.inr (false, [(-9, -9)])), kch42)])
theorem kck795 : ai_chk [kcc735] kcc795 (fun pc => sm_ch sm_t17 pc, sm_Kn 2 6 none, fun x => sm_lk sm_ca2 x, some .int) [24, 25, 26] 6 4 [29] [] 2000 [(29, [(0, .inl 0), (1, .inl 11), (2, .inr (false, [(-1, 60)])), (3, .inr (false, [(44, 44)])), (4, .inr (false, [(45, 45)]))], [], kch516),
  (29, [(0, .inl 0), (1, .inl 11), (2, .inr (false, [(1, 60)])), (3, .inr (false, [(44, 44)])), (4, .inr (false, [(46, 46)])), (5, .inr (false, [(-9, -9)]))], [], kch516),
  (29, [(0, .inl 0), (1, .inl 11), (2, .inr (false, [(1, 60)])), (3, .inr (false, [(44, 44)])), (4, .inr (false, [(47, 47)])), (5, .inr (false, [(-9, -9)]))], [], kch516),
  (29, [(0, .inl 0), (1, .inl 11), (2, .inr (false, [(1, 60)])), (3, .inr (false, [(44, 44)])), (4, .inr (false, [(48, 48)])), (5, .inr (false, [(-9, -9)]))], [], kch516)] = true := by decide +kernel
def kch541 : aw_H := [(11, kcx93)]
/-- MiceRegisters.faultOfFigure -/
def kcc796 : ak_C := (18, [.inl 11, .inr (false, [(-1, 60)]), .inr (false, [(45, 45)]), .inr (false, [(0, 0)]), .inr (false, [(0, 7)])], kch24, [], [([], some (.inr (false, [(-9, -9)])), kch541), ([], some (.inr (false, [(-1, 63)])), [])])
def kch542 : aw_H := [(11, kcx95)]
/-- MiceRegisters.faultOfFigure -/
def kcc797 : ak_C := (18, [.inl 11, .inr (false, [(-1, 60)]), .inr (false, [(46, 46)]), .inr (false, [(1, 1)]), .inr (false, [(9, 9)])], kch541, [], [([], some (.inr (false, [(-9, -9)])), kch542), ([], some (.inr (false, [(-1, 63)])), [])])
/-- MiceRegisters.readMouse -/
def kcc798 : ak_C := (19, [.inl 0, .inl 11, .inr (false, [(-1, 60)]), .inr (false, [(44, 44)])], kch514, [24, 29, 30, 31], [([], some (.inr (false, [(-1, 63)])), kch36), ([], some (.inr (false, [(-9, -9)])), kch38)])
theorem kck798 : ai_chk [kcc28, kcc796, kcc797] kcc798 (fun pc => sm_ch sm_t19 pc, sm_Kn 2 6 none, fun x => sm_lk sm_ca2 x, some .int) [24, 29, 30, 31] 6 0 [] [] 2000 [] = true := by decide +kernel
/-- MiceRegisters.readLine -/
def kcc799 : ak_C := (17, [.inl 0, .inl 11, .inr (false, [(-1, 60)]), .inr (false, [(43, 43)])], kch515, [24, 25, 26], [([[], [], [], []], some (.inr (false, [(-1, 60)])), kch40), ([[], [], [(1, 60)], []], some (.inr (false, [(-9, -9)])), kch42)])
theorem kck799 : ai_chk [kcc735] kcc799 (fun pc => sm_ch sm_t17 pc, sm_Kn 2 6 none, fun x => sm_lk sm_ca2 x, some .int) [24, 25, 26] 6 4 [29] [] 2000 [(29, [(0, .inl 0), (1, .inl 11), (2, .inr (false, [(-1, 60)])), (3, .inr (false, [(43, 43)])), (4, .inr (false, [(44, 44)]))], [], kch516),
  (29, [(0, .inl 0), (1, .inl 11), (2, .inr (false, [(1, 60)])), (3, .inr (false, [(43, 43)])), (4, .inr (false, [(45, 45)])), (5, .inr (false, [(-9, -9)]))], [], kch516),
  (29, [(0, .inl 0), (1, .inl 11), (2, .inr (false, [(1, 60)])), (3, .inr (false, [(43, 43)])), (4, .inr (false, [(46, 46)])), (5, .inr (false, [(-9, -9)]))], [], kch516),
  (29, [(0, .inl 0), (1, .inl 11), (2, .inr (false, [(1, 60)])), (3, .inr (false, [(43, 43)])), (4, .inr (false, [(47, 47)])), (5, .inr (false, [(-9, -9)]))], [], kch516)] = true := by decide +kernel
def kch543 : aw_H := [(11, kcx97)]
/-- MiceRegisters.faultOfFigure -/
def kcc800 : ak_C := (18, [.inl 11, .inr (false, [(-1, 60)]), .inr (false, [(44, 44)]), .inr (false, [(0, 0)]), .inr (false, [(0, 7)])], kch24, [], [([], some (.inr (false, [(-9, -9)])), kch543), ([], some (.inr (false, [(-1, 63)])), [])])
def kch544 : aw_H := [(11, kcx99)]
/-- MiceRegisters.faultOfFigure -/
def kcc801 : ak_C := (18, [.inl 11, .inr (false, [(-1, 60)]), .inr (false, [(45, 45)]), .inr (false, [(1, 1)]), .inr (false, [(9, 9)])], kch543, [], [([], some (.inr (false, [(-9, -9)])), kch544), ([], some (.inr (false, [(-1, 63)])), [])])
/-- MiceRegisters.readMouse -/
def kcc802 : ak_C := (19, [.inl 0, .inl 11, .inr (false, [(-1, 60)]), .inr (false, [(43, 43)])], kch514, [24, 29, 30, 31], [([], some (.inr (false, [(-1, 63)])), kch36), ([], some (.inr (false, [(-9, -9)])), kch38)])
theorem kck802 : ai_chk [kcc28, kcc800, kcc801] kcc802 (fun pc => sm_ch sm_t19 pc, sm_Kn 2 6 none, fun x => sm_lk sm_ca2 x, some .int) [24, 29, 30, 31] 6 0 [] [] 2000 [] = true := by decide +kernel
/-- MiceRegisters.readLine -/
def kcc803 : ak_C := (17, [.inl 0, .inl 11, .inr (false, [(-1, 60)]), .inr (false, [(42, 42)])], kch515, [24, 25, 26], [([[], [], [], []], some (.inr (false, [(-1, 60)])), kch40), ([[], [], [(1, 60)], []], some (.inr (false, [(-9, -9)])), kch42)])
theorem kck803 : ai_chk [kcc735] kcc803 (fun pc => sm_ch sm_t17 pc, sm_Kn 2 6 none, fun x => sm_lk sm_ca2 x, some .int) [24, 25, 26] 6 4 [29] [] 2000 [(29, [(0, .inl 0), (1, .inl 11), (2, .inr (false, [(-1, 60)])), (3, .inr (false, [(42, 42)])), (4, .inr (false, [(43, 43)]))], [], kch516),
  (29, [(0, .inl 0), (1, .inl 11), (2, .inr (false, [(1, 60)])), (3, .inr (false, [(42, 42)])), (4, .inr (false, [(44, 44)])), (5, .inr (false, [(-9, -9)]))], [], kch516),
  (29, [(0, .inl 0), (1, .inl 11), (2, .inr (false, [(1, 60)])), (3, .inr (false, [(42, 42)])), (4, .inr (false, [(45, 45)])), (5, .inr (false, [(-9, -9)]))], [], kch516),
  (29, [(0, .inl 0), (1, .inl 11), (2, .inr (false, [(1, 60)])), (3, .inr (false, [(42, 42)])), (4, .inr (false, [(46, 46)])), (5, .inr (false, [(-9, -9)]))], [], kch516)] = true := by decide +kernel
def kch545 : aw_H := [(11, kcx101)]
/-- MiceRegisters.faultOfFigure -/
def kcc804 : ak_C := (18, [.inl 11, .inr (false, [(-1, 60)]), .inr (false, [(43, 43)]), .inr (false, [(0, 0)]), .inr (false, [(0, 7)])], kch24, [], [([], some (.inr (false, [(-9, -9)])), kch545), ([], some (.inr (false, [(-1, 63)])), [])])
def kch546 : aw_H := [(11, kcx103)]
/-- MiceRegisters.faultOfFigure -/
def kcc805 : ak_C := (18, [.inl 11, .inr (false, [(-1, 60)]), .inr (false, [(44, 44)]), .inr (false, [(1, 1)]), .inr (false, [(9, 9)])], kch545, [], [([], some (.inr (false, [(-9, -9)])), kch546), ([], some (.inr (false, [(-1, 63)])), [])])
/-- MiceRegisters.readMouse -/
def kcc806 : ak_C := (19, [.inl 0, .inl 11, .inr (false, [(-1, 60)]), .inr (false, [(42, 42)])], kch514, [24, 29, 30, 31], [([], some (.inr (false, [(-1, 63)])), kch36), ([], some (.inr (false, [(-9, -9)])), kch38)])
theorem kck806 : ai_chk [kcc28, kcc804, kcc805] kcc806 (fun pc => sm_ch sm_t19 pc, sm_Kn 2 6 none, fun x => sm_lk sm_ca2 x, some .int) [24, 29, 30, 31] 6 0 [] [] 2000 [] = true := by decide +kernel
/-- MiceRegisters.readLine -/
def kcc807 : ak_C := (17, [.inl 0, .inl 11, .inr (false, [(-1, 60)]), .inr (false, [(41, 41)])], kch515, [24, 25, 26], [([[], [], [], []], some (.inr (false, [(-1, 60)])), kch40), ([[], [], [(1, 60)], []], some (.inr (false, [(-9, -9)])), kch42)])
theorem kck807 : ai_chk [kcc735] kcc807 (fun pc => sm_ch sm_t17 pc, sm_Kn 2 6 none, fun x => sm_lk sm_ca2 x, some .int) [24, 25, 26] 6 4 [29] [] 2000 [(29, [(0, .inl 0), (1, .inl 11), (2, .inr (false, [(-1, 60)])), (3, .inr (false, [(41, 41)])), (4, .inr (false, [(42, 42)]))], [], kch516),
  (29, [(0, .inl 0), (1, .inl 11), (2, .inr (false, [(1, 60)])), (3, .inr (false, [(41, 41)])), (4, .inr (false, [(43, 43)])), (5, .inr (false, [(-9, -9)]))], [], kch516),
  (29, [(0, .inl 0), (1, .inl 11), (2, .inr (false, [(1, 60)])), (3, .inr (false, [(41, 41)])), (4, .inr (false, [(44, 44)])), (5, .inr (false, [(-9, -9)]))], [], kch516),
  (29, [(0, .inl 0), (1, .inl 11), (2, .inr (false, [(1, 60)])), (3, .inr (false, [(41, 41)])), (4, .inr (false, [(45, 45)])), (5, .inr (false, [(-9, -9)]))], [], kch516)] = true := by decide +kernel
def kch547 : aw_H := [(11, kcx105)]
/-- MiceRegisters.faultOfFigure -/
def kcc808 : ak_C := (18, [.inl 11, .inr (false, [(-1, 60)]), .inr (false, [(42, 42)]), .inr (false, [(0, 0)]), .inr (false, [(0, 7)])], kch24, [], [([], some (.inr (false, [(-9, -9)])), kch547), ([], some (.inr (false, [(-1, 63)])), [])])
def kch548 : aw_H := [(11, kcx107)]
/-- MiceRegisters.faultOfFigure -/
def kcc809 : ak_C := (18, [.inl 11, .inr (false, [(-1, 60)]), .inr (false, [(43, 43)]), .inr (false, [(1, 1)]), .inr (false, [(9, 9)])], kch547, [], [([], some (.inr (false, [(-9, -9)])), kch548), ([], some (.inr (false, [(-1, 63)])), [])])
/-- MiceRegisters.readMouse -/
def kcc810 : ak_C := (19, [.inl 0, .inl 11, .inr (false, [(-1, 60)]), .inr (false, [(41, 41)])], kch514, [24, 29, 30, 31], [([], some (.inr (false, [(-1, 63)])), kch36), ([], some (.inr (false, [(-9, -9)])), kch38)])
theorem kck810 : ai_chk [kcc28, kcc808, kcc809] kcc810 (fun pc => sm_ch sm_t19 pc, sm_Kn 2 6 none, fun x => sm_lk sm_ca2 x, some .int) [24, 29, 30, 31] 6 0 [] [] 2000 [] = true := by decide +kernel
/-- MiceRegisters.readLine -/
def kcc811 : ak_C := (17, [.inl 0, .inl 11, .inr (false, [(-1, 60)]), .inr (false, [(40, 40)])], kch515, [24, 25, 26], [([[], [], [], []], some (.inr (false, [(-1, 60)])), kch40), ([[], [], [(1, 60)], []], some (.inr (false, [(-9, -9)])), kch42)])
theorem kck811 : ai_chk [kcc735] kcc811 (fun pc => sm_ch sm_t17 pc, sm_Kn 2 6 none, fun x => sm_lk sm_ca2 x, some .int) [24, 25, 26] 6 4 [29] [] 2000 [(29, [(0, .inl 0), (1, .inl 11), (2, .inr (false, [(-1, 60)])), (3, .inr (false, [(40, 40)])), (4, .inr (false, [(41, 41)]))], [], kch516),
  (29, [(0, .inl 0), (1, .inl 11), (2, .inr (false, [(1, 60)])), (3, .inr (false, [(40, 40)])), (4, .inr (false, [(42, 42)])), (5, .inr (false, [(-9, -9)]))], [], kch516),
  (29, [(0, .inl 0), (1, .inl 11), (2, .inr (false, [(1, 60)])), (3, .inr (false, [(40, 40)])), (4, .inr (false, [(43, 43)])), (5, .inr (false, [(-9, -9)]))], [], kch516),
  (29, [(0, .inl 0), (1, .inl 11), (2, .inr (false, [(1, 60)])), (3, .inr (false, [(40, 40)])), (4, .inr (false, [(44, 44)])), (5, .inr (false, [(-9, -9)]))], [], kch516)] = true := by decide +kernel
def kch549 : aw_H := [(11, kcx109)]
/-- MiceRegisters.faultOfFigure -/
def kcc812 : ak_C := (18, [.inl 11, .inr (false, [(-1, 60)]), .inr (false, [(41, 41)]), .inr (false, [(0, 0)]), .inr (false, [(0, 7)])], kch24, [], [([], some (.inr (false, [(-9, -9)])), kch549), ([], some (.inr (false, [(-1, 63)])), [])])
def kch550 : aw_H := [(11, kcx111)]
/-- MiceRegisters.faultOfFigure -/
def kcc813 : ak_C := (18, [.inl 11, .inr (false, [(-1, 60)]), .inr (false, [(42, 42)]), .inr (false, [(1, 1)]), .inr (false, [(9, 9)])], kch549, [], [([], some (.inr (false, [(-9, -9)])), kch550), ([], some (.inr (false, [(-1, 63)])), [])])
/-- MiceRegisters.readMouse -/
def kcc814 : ak_C := (19, [.inl 0, .inl 11, .inr (false, [(-1, 60)]), .inr (false, [(40, 40)])], kch514, [24, 29, 30, 31], [([], some (.inr (false, [(-1, 63)])), kch36), ([], some (.inr (false, [(-9, -9)])), kch38)])
theorem kck814 : ai_chk [kcc28, kcc812, kcc813] kcc814 (fun pc => sm_ch sm_t19 pc, sm_Kn 2 6 none, fun x => sm_lk sm_ca2 x, some .int) [24, 29, 30, 31] 6 0 [] [] 2000 [] = true := by decide +kernel
/-- MiceRegisters.readLine -/
def kcc815 : ak_C := (17, [.inl 0, .inl 11, .inr (false, [(-1, 60)]), .inr (false, [(39, 39)])], kch515, [24, 25, 26], [([[], [], [], []], some (.inr (false, [(-1, 60)])), kch40), ([[], [], [(1, 60)], []], some (.inr (false, [(-9, -9)])), kch42)])
theorem kck815 : ai_chk [kcc735] kcc815 (fun pc => sm_ch sm_t17 pc, sm_Kn 2 6 none, fun x => sm_lk sm_ca2 x, some .int) [24, 25, 26] 6 4 [29] [] 2000 [(29, [(0, .inl 0), (1, .inl 11), (2, .inr (false, [(-1, 60)])), (3, .inr (false, [(39, 39)])), (4, .inr (false, [(40, 40)]))], [], kch516),
  (29, [(0, .inl 0), (1, .inl 11), (2, .inr (false, [(1, 60)])), (3, .inr (false, [(39, 39)])), (4, .inr (false, [(41, 41)])), (5, .inr (false, [(-9, -9)]))], [], kch516),
  (29, [(0, .inl 0), (1, .inl 11), (2, .inr (false, [(1, 60)])), (3, .inr (false, [(39, 39)])), (4, .inr (false, [(42, 42)])), (5, .inr (false, [(-9, -9)]))], [], kch516),
  (29, [(0, .inl 0), (1, .inl 11), (2, .inr (false, [(1, 60)])), (3, .inr (false, [(39, 39)])), (4, .inr (false, [(43, 43)])), (5, .inr (false, [(-9, -9)]))], [], kch516)] = true := by decide +kernel
def kch551 : aw_H := [(11, kcx113)]
/-- MiceRegisters.faultOfFigure -/
def kcc816 : ak_C := (18, [.inl 11, .inr (false, [(-1, 60)]), .inr (false, [(40, 40)]), .inr (false, [(0, 0)]), .inr (false, [(0, 7)])], kch24, [], [([], some (.inr (false, [(-9, -9)])), kch551), ([], some (.inr (false, [(-1, 63)])), [])])
def kch552 : aw_H := [(11, kcx115)]
/-- MiceRegisters.faultOfFigure -/
def kcc817 : ak_C := (18, [.inl 11, .inr (false, [(-1, 60)]), .inr (false, [(41, 41)]), .inr (false, [(1, 1)]), .inr (false, [(9, 9)])], kch551, [], [([], some (.inr (false, [(-9, -9)])), kch552), ([], some (.inr (false, [(-1, 63)])), [])])
/-- MiceRegisters.readMouse -/
def kcc818 : ak_C := (19, [.inl 0, .inl 11, .inr (false, [(-1, 60)]), .inr (false, [(39, 39)])], kch514, [24, 29, 30, 31], [([], some (.inr (false, [(-1, 63)])), kch36), ([], some (.inr (false, [(-9, -9)])), kch38)])
theorem kck818 : ai_chk [kcc28, kcc816, kcc817] kcc818 (fun pc => sm_ch sm_t19 pc, sm_Kn 2 6 none, fun x => sm_lk sm_ca2 x, some .int) [24, 29, 30, 31] 6 0 [] [] 2000 [] = true := by decide +kernel
/-- MiceRegisters.readLine -/
def kcc819 : ak_C := (17, [.inl 0, .inl 11, .inr (false, [(-1, 60)]), .inr (false, [(38, 38)])], kch515, [24, 25, 26], [([[], [], [], []], some (.inr (false, [(-1, 60)])), kch40), ([[], [], [(1, 60)], []], some (.inr (false, [(-9, -9)])), kch42)])
theorem kck819 : ai_chk [kcc735] kcc819 (fun pc => sm_ch sm_t17 pc, sm_Kn 2 6 none, fun x => sm_lk sm_ca2 x, some .int) [24, 25, 26] 6 4 [29] [] 2000 [(29, [(0, .inl 0), (1, .inl 11), (2, .inr (false, [(-1, 60)])), (3, .inr (false, [(38, 38)])), (4, .inr (false, [(39, 39)]))], [], kch516),
  (29, [(0, .inl 0), (1, .inl 11), (2, .inr (false, [(1, 60)])), (3, .inr (false, [(38, 38)])), (4, .inr (false, [(40, 40)])), (5, .inr (false, [(-9, -9)]))], [], kch516),
  (29, [(0, .inl 0), (1, .inl 11), (2, .inr (false, [(1, 60)])), (3, .inr (false, [(38, 38)])), (4, .inr (false, [(41, 41)])), (5, .inr (false, [(-9, -9)]))], [], kch516),
  (29, [(0, .inl 0), (1, .inl 11), (2, .inr (false, [(1, 60)])), (3, .inr (false, [(38, 38)])), (4, .inr (false, [(42, 42)])), (5, .inr (false, [(-9, -9)]))], [], kch516)] = true := by decide +kernel
def kch553 : aw_H := [(11, kcx117)]
/-- MiceRegisters.faultOfFigure -/
def kcc820 : ak_C := (18, [.inl 11, .inr (false, [(-1, 60)]), .inr (false, [(39, 39)]), .inr (false, [(0, 0)]), .inr (false, [(0, 7)])], kch24, [], [([], some (.inr (false, [(-9, -9)])), kch553), ([], some (.inr (false, [(-1, 63)])), [])])
def kch554 : aw_H := [(11, kcx119)]
/-- MiceRegisters.faultOfFigure -/
def kcc821 : ak_C := (18, [.inl 11, .inr (false, [(-1, 60)]), .inr (false, [(40, 40)]), .inr (false, [(1, 1)]), .inr (false, [(9, 9)])], kch553, [], [([], some (.inr (false, [(-9, -9)])), kch554), ([], some (.inr (false, [(-1, 63)])), [])])
/-- MiceRegisters.readMouse -/
def kcc822 : ak_C := (19, [.inl 0, .inl 11, .inr (false, [(-1, 60)]), .inr (false, [(38, 38)])], kch514, [24, 29, 30, 31], [([], some (.inr (false, [(-1, 63)])), kch36), ([], some (.inr (false, [(-9, -9)])), kch38)])
theorem kck822 : ai_chk [kcc28, kcc820, kcc821] kcc822 (fun pc => sm_ch sm_t19 pc, sm_Kn 2 6 none, fun x => sm_lk sm_ca2 x, some .int) [24, 29, 30, 31] 6 0 [] [] 2000 [] = true := by decide +kernel
/-- MiceRegisters.readLine -/
def kcc823 : ak_C := (17, [.inl 0, .inl 11, .inr (false, [(-1, 60)]), .inr (false, [(37, 37)])], kch515, [24, 25, 26], [([[], [], [], []], some (.inr (false, [(-1, 60)])), kch40), ([[], [], [(1, 60)], []], some (.inr (false, [(-9, -9)])), kch42)])
theorem kck823 : ai_chk [kcc735] kcc823 (fun pc => sm_ch sm_t17 pc, sm_Kn 2 6 none, fun x => sm_lk sm_ca2 x, some .int) [24, 25, 26] 6 4 [29] [] 2000 [(29, [(0, .inl 0), (1, .inl 11), (2, .inr (false, [(-1, 60)])), (3, .inr (false, [(37, 37)])), (4, .inr (false, [(38, 38)]))], [], kch516),
  (29, [(0, .inl 0), (1, .inl 11), (2, .inr (false, [(1, 60)])), (3, .inr (false, [(37, 37)])), (4, .inr (false, [(39, 39)])), (5, .inr (false, [(-9, -9)]))], [], kch516),
  (29, [(0, .inl 0), (1, .inl 11), (2, .inr (false, [(1, 60)])), (3, .inr (false, [(37, 37)])), (4, .inr (false, [(40, 40)])), (5, .inr (false, [(-9, -9)]))], [], kch516),
  (29, [(0, .inl 0), (1, .inl 11), (2, .inr (false, [(1, 60)])), (3, .inr (false, [(37, 37)])), (4, .inr (false, [(41, 41)])), (5, .inr (false, [(-9, -9)]))], [], kch516)] = true := by decide +kernel
