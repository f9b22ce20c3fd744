/-! Contracts over ranges of the class, and their checks; printed by a program of mine. -/
def kch555 : aw_H := [(11, kcx121)]
/-- MiceRegisters.faultOfFigure -/
def kcc824 : ak_C := (18, [.inl 11, .inr (false, [(-1, 60)]), .inr (false, [(38, 38)]), .inr (false, [(0, 0)]), .inr (false, [(0, 7)])], kch24, [], [([], some (.inr (false, [(-9, -9)])), kch555), ([], some (.inr (false, [(-1, 63)])), [])])
def kch556 : aw_H := [(11, kcx123)]
/-- MiceRegisters.faultOfFigure -/
def kcc825 : ak_C := (18, [.inl 11, .inr (false, [(-1, 60)]), .inr (false, [(39, 39)]), .inr (false, [(1, 1)]), .inr (false, [(9, 9)])], kch555, [], [([], some (.inr (false, [(-9, -9)])), kch556), ([], some (.inr (false, [(-1, 63)])), [])])
/-- MiceRegisters.readMouse -/
def kcc826 : ak_C := (19, [.inl 0, .inl 11, .inr (false, [(-1, 60)]), .inr (false, [(37, 37)])], kch514, [24, 29, 30, 31], [([], some (.inr (false, [(-1, 63)])), kch36), ([], some (.inr (false, [(-9, -9)])), kch38)])
theorem kck826 : ai_chk [kcc28, kcc824, kcc825] kcc826 (fun pc => sm_ch sm_t19 pc, sm_Kn 2 6 none, fun x => sm_lk sm_ca2 x, some .int) [24, 29, 30, 31] 6 0 [] [] 2000 [] = true := by decide +kernel
/-- MiceRegisters.readLine -/
def kcc827 : ak_C := (17, [.inl 0, .inl 11, .inr (false, [(-1, 60)]), .inr (false, [(36, 36)])], kch515, [24, 25, 26], [([[], [], [], []], some (.inr (false, [(-1, 60)])), kch40), ([[], [], [(1, 60)], []], some (.inr (false, [(-9, -9)])), kch42)])
theorem kck827 : ai_chk [kcc735] kcc827 (fun pc => sm_ch sm_t17 pc, sm_Kn 2 6 none, fun x => sm_lk sm_ca2 x, some .int) [24, 25, 26] 6 4 [29] [] 2000 [(29, [(0, .inl 0), (1, .inl 11), (2, .inr (false, [(-1, 60)])), (3, .inr (false, [(36, 36)])), (4, .inr (false, [(37, 37)]))], [], kch516),
  (29, [(0, .inl 0), (1, .inl 11), (2, .inr (false, [(1, 60)])), (3, .inr (false, [(36, 36)])), (4, .inr (false, [(38, 38)])), (5, .inr (false, [(-9, -9)]))], [], kch516),
  (29, [(0, .inl 0), (1, .inl 11), (2, .inr (false, [(1, 60)])), (3, .inr (false, [(36, 36)])), (4, .inr (false, [(39, 39)])), (5, .inr (false, [(-9, -9)]))], [], kch516),
  (29, [(0, .inl 0), (1, .inl 11), (2, .inr (false, [(1, 60)])), (3, .inr (false, [(36, 36)])), (4, .inr (false, [(40, 40)])), (5, .inr (false, [(-9, -9)]))], [], kch516)] = true := by decide +kernel
def kch557 : aw_H := [(11, kcx125)]
/-- MiceRegisters.faultOfFigure -/
def kcc828 : ak_C := (18, [.inl 11, .inr (false, [(-1, 60)]), .inr (false, [(37, 37)]), .inr (false, [(0, 0)]), .inr (false, [(0, 7)])], kch24, [], [([], some (.inr (false, [(-9, -9)])), kch557), ([], some (.inr (false, [(-1, 63)])), [])])
def kch558 : aw_H := [(11, kcx127)]
/-- MiceRegisters.faultOfFigure -/
def kcc829 : ak_C := (18, [.inl 11, .inr (false, [(-1, 60)]), .inr (false, [(38, 38)]), .inr (false, [(1, 1)]), .inr (false, [(9, 9)])], kch557, [], [([], some (.inr (false, [(-9, -9)])), kch558), ([], some (.inr (false, [(-1, 63)])), [])])
/-- MiceRegisters.readMouse -/
def kcc830 : ak_C := (19, [.inl 0, .inl 11, .inr (false, [(-1, 60)]), .inr (false, [(36, 36)])], kch514, [24, 29, 30, 31], [([], some (.inr (false, [(-1, 63)])), kch36), ([], some (.inr (false, [(-9, -9)])), kch38)])
theorem kck830 : ai_chk [kcc28, kcc828, kcc829] kcc830 (fun pc => sm_ch sm_t19 pc, sm_Kn 2 6 none, fun x => sm_lk sm_ca2 x, some .int) [24, 29, 30, 31] 6 0 [] [] 2000 [] = true := by decide +kernel
/-- MiceRegisters.readLine -/
def kcc831 : ak_C := (17, [.inl 0, .inl 11, .inr (false, [(-1, 60)]), .inr (false, [(35, 35)])], kch515, [24, 25, 26], [([[], [], [], []], some (.inr (false, [(-1, 60)])), kch40), ([[], [], [(1, 60)], []], some (.inr (false, [(-9, -9)])), kch42)])
theorem kck831 : ai_chk [kcc735] kcc831 (fun pc => sm_ch sm_t17 pc, sm_Kn 2 6 none, fun x => sm_lk sm_ca2 x, some .int) [24, 25, 26] 6 4 [29] [] 2000 [(29, [(0, .inl 0), (1, .inl 11), (2, .inr (false, [(-1, 60)])), (3, .inr (false, [(35, 35)])), (4, .inr (false, [(36, 36)]))], [], kch516),
  (29, [(0, .inl 0), (1, .inl 11), (2, .inr (false, [(1, 60)])), (3, .inr (false, [(35, 35)])), (4, .inr (false, [(37, 37)])), (5, .inr (false, [(-9, -9)]))], [], kch516),
  (29, [(0, .inl 0), (1, .inl 11), (2, .inr (false, [(1, 60)])), (3, .inr (false, [(35, 35)])), (4, .inr (false, [(38, 38)])), (5, .inr (false, [(-9, -9)]))], [], kch516),
  (29, [(0, .inl 0), (1, .inl 11), (2, .inr (false, [(1, 60)])), (3, .inr (false, [(35, 35)])), (4, .inr (false, [(39, 39)])), (5, .inr (false, [(-9, -9)]))], [], kch516)] = true := by decide +kernel
def kch559 : aw_H := [(11, kcx129)]
/-- MiceRegisters.faultOfFigure -/
def kcc832 : ak_C := (18, [.inl 11, .inr (false, [(-1, 60)]), .inr (false, [(36, 36)]), .inr (false, [(0, 0)]), .inr (false, [(0, 7)])], kch24, [], [([], some (.inr (false, [(-9, -9)])), kch559), ([], some (.inr (false, [(-1, 63)])), [])])
def kch560 : aw_H := [(11, kcx131)]
/-- MiceRegisters.faultOfFigure -/
def kcc833 : ak_C := (18, [.inl 11, .inr (false, [(-1, 60)]), .inr (false, [(37, 37)]), .inr (false, [(1, 1)]), .inr (false, [(9, 9)])], kch559, [], [([], some (.inr (false, [(-9, -9)])), kch560), ([], some (.inr (false, [(-1, 63)])), [])])
/-- MiceRegisters.readMouse -/
def kcc834 : ak_C := (19, [.inl 0, .inl 11, .inr (false, [(-1, 60)]), .inr (false, [(35, 35)])], kch514, [24, 29, 30, 31], [([], some (.inr (false, [(-1, 63)])), kch36), ([], some (.inr (false, [(-9, -9)])), kch38)])
theorem kck834 : ai_chk [kcc28, kcc832, kcc833] kcc834 (fun pc => sm_ch sm_t19 pc, sm_Kn 2 6 none, fun x => sm_lk sm_ca2 x, some .int) [24, 29, 30, 31] 6 0 [] [] 2000 [] = true := by decide +kernel
/-- MiceRegisters.readLine -/
def kcc835 : ak_C := (17, [.inl 0, .inl 11, .inr (false, [(-1, 60)]), .inr (false, [(34, 34)])], kch515, [24, 25, 26], [([[], [], [], []], some (.inr (false, [(-1, 60)])), kch40), ([[], [], [(1, 60)], []], some (.inr (false, [(-9, -9)])), kch42)])
theorem kck835 : ai_chk [kcc735] kcc835 (fun pc => sm_ch sm_t17 pc, sm_Kn 2 6 none, fun x => sm_lk sm_ca2 x, some .int) [24, 25, 26] 6 4 [29] [] 2000 [(29, [(0, .inl 0), (1, .inl 11), (2, .inr (false, [(-1, 60)])), (3, .inr (false, [(34, 34)])), (4, .inr (false, [(35, 35)]))], [], kch516),
  (29, [(0, .inl 0), (1, .inl 11), (2, .inr (false, [(1, 60)])), (3, .inr (false, [(34, 34)])), (4, .inr (false, [(36, 36)])), (5, .inr (false, [(-9, -9)]))], [], kch516),
  (29, [(0, .inl 0), (1, .inl 11), (2, .inr (false, [(1, 60)])), (3, .inr (false, [(34, 34)])), (4, .inr (false, [(37, 37)])), (5, .inr (false, [(-9, -9)]))], [], kch516),
  (29, [(0, .inl 0), (1, .inl 11), (2, .inr (false, [(1, 60)])), (3, .inr (false, [(34, 34)])), (4, .inr (false, [(38, 38)])), (5, .inr (false, [(-9, -9)]))], [], kch516)] = true := by decide +kernel
def kch561 : aw_H := [(11, kcx133)]
/-- MiceRegisters.faultOfFigure -/
def kcc836 : ak_C := (18, [.inl 11, .inr (false, [(-1, 60)]), .inr (false, [(35, 35)]), .inr (false, [(0, 0)]), .inr (false, [(0, 7)])], kch24, [], [([], some (.inr (false, [(-9, -9)])), kch561), ([], some (.inr (false, [(-1, 63)])), [])])
def kch562 : aw_H := [(11, kcx135)]
/-- MiceRegisters.faultOfFigure -/
def kcc837 : ak_C := (18, [.inl 11, .inr (false, [(-1, 60)]), .inr (false, [(36, 36)]), .inr (false, [(1, 1)]), .inr (false, [(9, 9)])], kch561, [], [([], some (.inr (false, [(-9, -9)])), kch562), ([], some (.inr (false, [(-1, 63)])), [])])
/-- MiceRegisters.readMouse -/
def kcc838 : ak_C := (19, [.inl 0, .inl 11, .inr (false, [(-1, 60)]), .inr (false, [(34, 34)])], kch514, [24, 29, 30, 31], [([], some (.inr (false, [(-1, 63)])), kch36), ([], some (.inr (false, [(-9, -9)])), kch38)])
theorem kck838 : ai_chk [kcc28, kcc836, kcc837] kcc838 (fun pc => sm_ch sm_t19 pc, sm_Kn 2 6 none, fun x => sm_lk sm_ca2 x, some .int) [24, 29, 30, 31] 6 0 [] [] 2000 [] = true := by decide +kernel
/-- MiceRegisters.readLine -/
def kcc839 : ak_C := (17, [.inl 0, .inl 11, .inr (false, [(-1, 60)]), .inr (false, [(33, 33)])], kch515, [24, 25, 26], [([[], [], [], []], some (.inr (false, [(-1, 60)])), kch40), ([[], [], [(1, 60)], []], some (.inr (false, [(-9, -9)])), kch42)])
theorem kck839 : ai_chk [kcc735] kcc839 (fun pc => sm_ch sm_t17 pc, sm_Kn 2 6 none, fun x => sm_lk sm_ca2 x, some .int) [24, 25, 26] 6 4 [29] [] 2000 [(29, [(0, .inl 0), (1, .inl 11), (2, .inr (false, [(-1, 60)])), (3, .inr (false, [(33, 33)])), (4, .inr (false, [(34, 34)]))], [], kch516),
  (29, [(0, .inl 0), (1, .inl 11), (2, .inr (false, [(1, 60)])), (3, .inr (false, [(33, 33)])), (4, .inr (false, [(35, 35)])), (5, .inr (false, [(-9, -9)]))], [], kch516),
  (29, [(0, .inl 0), (1, .inl 11), (2, .inr (false, [(1, 60)])), (3, .inr (false, [(33, 33)])), (4, .inr (false, [(36, 36)])), (5, .inr (false, [(-9, -9)]))], [], kch516),
  (29, [(0, .inl 0), (1, .inl 11), (2, .inr (false, [(1, 60)])), (3, .inr (false, [(33, 33)])), (4, .inr (false, [(37, 37)])), (5, .inr (false, [(-9, -9)]))], [], kch516)] = true := by decide +kernel
def kch563 : aw_H := [(11, kcx137)]
/-- MiceRegisters.faultOfFigure -/
def kcc840 : ak_C := (18, [.inl 11, .inr (false, [(-1, 60)]), .inr (false, [(34, 34)]), .inr (false, [(0, 0)]), .inr (false, [(0, 7)])], kch24, [], [([], some (.inr (false, [(-9, -9)])), kch563), ([], some (.inr (false, [(-1, 63)])), [])])
def kch564 : aw_H := [(11, kcx139)]
/-- MiceRegisters.faultOfFigure -/
def kcc841 : ak_C := (18, [.inl 11, .inr (false, [(-1, 60)]), .inr (false, [(35, 35)]), .inr (false, [(1, 1)]), .inr (false, [(9, 9)])], kch563, [], [([], some (.inr (false, [(-9, -9)])), kch564), ([], some (.inr (false, [(-1, 63)])), [])])
/-- MiceRegisters.readMouse -/
def kcc842 : ak_C := (19, [.inl 0, .inl 11, .inr (false, [(-1, 60)]), .inr (false, [(33, 33)])], kch514, [24, 29, 30, 31], [([], some (.inr (false, [(-1, 63)])), kch36), ([], some (.inr (false, [(-9, -9)])), kch38)])
theorem kck842 : ai_chk [kcc28, kcc840, kcc841] kcc842 (fun pc => sm_ch sm_t19 pc, sm_Kn 2 6 none, fun x => sm_lk sm_ca2 x, some .int) [24, 29, 30, 31] 6 0 [] [] 2000 [] = true := by decide +kernel
/-- MiceRegisters.readLine -/
def kcc843 : ak_C := (17, [.inl 0, .inl 11, .inr (false, [(-1, 60)]), .inr (false, [(32, 32)])], kch515, [24, 25, 26], [([[], [], [], []], some (.inr (false, [(-1, 60)])), kch40), ([[], [], [(1, 60)], []], some (.inr (false, [(-9, -9)])), kch42)])
theorem kck843 : ai_chk [kcc735] kcc843 (fun pc => sm_ch sm_t17 pc, sm_Kn 2 6 none, fun x => sm_lk sm_ca2 x, some .int) [24, 25, 26] 6 4 [29] [] 2000 [(29, [(0, .inl 0), (1, .inl 11), (2, .inr (false, [(-1, 60)])), (3, .inr (false, [(32, 32)])), (4, .inr (false, [(33, 33)]))], [], kch516),
  (29, [(0, .inl 0), (1, .inl 11), (2, .inr (false, [(1, 60)])), (3, .inr (false, [(32, 32)])), (4, .inr (false, [(34, 34)])), (5, .inr (false, [(-9, -9)]))], [], kch516),
  (29, [(0, .inl 0), (1, .inl 11), (2, .inr (false, [(1, 60)])), (3, .inr (false, [(32, 32)])), (4, .inr (false, [(35, 35)])), (5, .inr (false, [(-9, -9)]))], [], kch516),
  (29, [(0, .inl 0), (1, .inl 11), (2, .inr (false, [(1, 60)])), (3, .inr (false, [(32, 32)])), (4, .inr (false, [(36, 36)])), (5, .inr (false, [(-9, -9)]))], [], kch516)] = true := by decide +kernel
def kch565 : aw_H := [(11, kcx141)]
/-- MiceRegisters.faultOfFigure -/
def kcc844 : ak_C := (18, [.inl 11, .inr (false, [(-1, 60)]), .inr (false, [(33, 33)]), .inr (false, [(0, 0)]), .inr (false, [(0, 7)])], kch24, [], [([], some (.inr (false, [(-9, -9)])), kch565), ([], some (.inr (false, [(-1, 63)])), [])])
def kch566 : aw_H := [(11, kcx143)]
/-- MiceRegisters.faultOfFigure -/
def kcc845 : ak_C := (18, [.inl 11, .inr (false, [(-1, 60)]), .inr (false, [(34, 34)]), .inr (false, [(1, 1)]), .inr (false, [(9, 9)])], kch565, [], [([], some (.inr (false, [(-9, -9)])), kch566), ([], some (.inr (false, [(-1, 63)])), [])])
/-- MiceRegisters.readMouse -/
def kcc846 : ak_C := (19, [.inl 0, .inl 11, .inr (false, [(-1, 60)]), .inr (false, [(32, 32)])], kch514, [24, 29, 30, 31], [([], some (.inr (false, [(-1, 63)])), kch36), ([], some (.inr (false, [(-9, -9)])), kch38)])
theorem kck846 : ai_chk [kcc28, kcc844, kcc845] kcc846 (fun pc => sm_ch sm_t19 pc, sm_Kn 2 6 none, fun x => sm_lk sm_ca2 x, some .int) [24, 29, 30, 31] 6 0 [] [] 2000 [] = true := by decide +kernel
/-- MiceRegisters.readLine -/
def kcc847 : ak_C := (17, [.inl 0, .inl 11, .inr (false, [(-1, 60)]), .inr (false, [(31, 31)])], kch515, [24, 25, 26], [([[], [], [], []], some (.inr (false, [(-1, 60)])), kch40), ([[], [], [(1, 60)], []], some (.inr (false, [(-9, -9)])), kch42)])
theorem kck847 : ai_chk [kcc735] kcc847 (fun pc => sm_ch sm_t17 pc, sm_Kn 2 6 none, fun x => sm_lk sm_ca2 x, some .int) [24, 25, 26] 6 4 [29] [] 2000 [(29, [(0, .inl 0), (1, .inl 11), (2, .inr (false, [(-1, 60)])), (3, .inr (false, [(31, 31)])), (4, .inr (false, [(32, 32)]))], [], kch516),
  (29, [(0, .inl 0), (1, .inl 11), (2, .inr (false, [(1, 60)])), (3, .inr (false, [(31, 31)])), (4, .inr (false, [(33, 33)])), (5, .inr (false, [(-9, -9)]))], [], kch516),
  (29, [(0, .inl 0), (1, .inl 11), (2, .inr (false, [(1, 60)])), (3, .inr (false, [(31, 31)])), (4, .inr (false, [(34, 34)])), (5, .inr (false, [(-9, -9)]))], [], kch516),
  (29, [(0, .inl 0), (1, .inl 11), (2, .inr (false, [(1, 60)])), (3, .inr (false, [(31, 31)])), (4, .inr (false, [(35, 35)])), (5, .inr (false, [(-9, -9)]))], [], kch516)] = true := by decide +kernel
def kch567 : aw_H := [(11, kcx145)]
/-- MiceRegisters.faultOfFigure -/
def kcc848 : ak_C := (18, [.inl 11, .inr (false, [(-1, 60)]), .inr (false, [(32, 32)]), .inr (false, [(0, 0)]), .inr (false, [(0, 7)])], kch24, [], [([], some (.inr (false, [(-9, -9)])), kch567), ([], some (.inr (false, [(-1, 63)])), [])])
def kch568 : aw_H := [(11, kcx147)]
/-- MiceRegisters.faultOfFigure -/
def kcc849 : ak_C := (18, [.inl 11, .inr (false, [(-1, 60)]), .inr (false, [(33, 33)]), .inr (false, [(1, 1)]), .inr (false, [(9, 9)])], kch567, [], [([], some (.inr (false, [(-9, -9)])), kch568), ([], some (.inr (false, [(-1, 63)])), [])])
/-- MiceRegisters.readMouse -/
def kcc850 : ak_C := (19, [.inl 0, .inl 11, .inr (false, [(-1, 60)]), .inr (false, [(31, 31)])], kch514, [24, 29, 30, 31], [([], some (.inr (false, [(-1, 63)])), kch36), ([], some (.inr (false, [(-9, -9)])), kch38)])
theorem kck850 : ai_chk [kcc28, kcc848, kcc849] kcc850 (fun pc => sm_ch sm_t19 pc, sm_Kn 2 6 none, fun x => sm_lk sm_ca2 x, some .int) [24, 29, 30, 31] 6 0 [] [] 2000 [] = true := by decide +kernel
/-- MiceRegisters.readLine -/
def kcc851 : ak_C := (17, [.inl 0, .inl 11, .inr (false, [(-1, 60)]), .inr (false, [(30, 30)])], kch515, [24, 25, 26], [([[], [], [], []], some (.inr (false, [(-1, 60)])), kch40), ([[], [], [(1, 60)], []], some (.inr (false, [(-9, -9)])), kch42)])
theorem kck851 : ai_chk [kcc735] kcc851 (fun pc => sm_ch sm_t17 pc, sm_Kn 2 6 none, fun x => sm_lk sm_ca2 x, some .int) [24, 25, 26] 6 4 [29] [] 2000 [(29, [(0, .inl 0), (1, .inl 11), (2, .inr (false, [(-1, 60)])), (3, .inr (false, [(30, 30)])), (4, .inr (false, [(31, 31)]))], [], kch516),
  (29, [(0, .inl 0), (1, .inl 11), (2, .inr (false, [(1, 60)])), (3, .inr (false, [(30, 30)])), (4, .inr (false, [(32, 32)])), (5, .inr (false, [(-9, -9)]))], [], kch516),
  (29, [(0, .inl 0), (1, .inl 11), (2, .inr (false, [(1, 60)])), (3, .inr (false, [(30, 30)])), (4, .inr (false, [(33, 33)])), (5, .inr (false, [(-9, -9)]))], [], kch516),
  (29, [(0, .inl 0), (1, .inl 11), (2, .inr (false, [(1, 60)])), (3, .inr (false, [(30, 30)])), (4, .inr (false, [(34, 34)])), (5, .inr (false, [(-9, -9)]))], [], kch516)] = true := by decide +kernel
def kch569 : aw_H := [(11, kcx149)]
/-- MiceRegisters.faultOfFigure -/
def kcc852 : ak_C := (18, [.inl 11, .inr (false, [(-1, 60)]), .inr (false, [(31, 31)]), .inr (false, [(0, 0)]), .inr (false, [(0, 7)])], kch24, [], [([], some (.inr (false, [(-9, -9)])), kch569), ([], some (.inr (false, [(-1, 63)])), [])])
def kch570 : aw_H := [(11, kcx151)]
/-- MiceRegisters.faultOfFigure -/
def kcc853 : ak_C := (18, [.inl 11, .inr (false, [(-1, 60)]), .inr (false, [(32, 32)]), .inr (false, [(1, 1)]), .inr (false, [(9, 9)])], kch569, [], [([], some (.inr (false, [(-9, -9)])), kch570), ([], some (.inr (false, [(-1, 63)])), [])])
/-- MiceRegisters.readMouse -/
def kcc854 : ak_C := (19, [.inl 0, .inl 11, .inr (false, [(-1, 60)]), .inr (false, [(30, 30)])], kch514, [24, 29, 30, 31], [([], some (.inr (false, [(-1, 63)])), kch36), ([], some (.inr (false, [(-9, -9)])), kch38)])
theorem kck854 : ai_chk [kcc28, kcc852, kcc853] kcc854 (fun pc => sm_ch sm_t19 pc, sm_Kn 2 6 none, fun x => sm_lk sm_ca2 x, some .int) [24, 29, 30, 31] 6 0 [] [] 2000 [] = true := by decide +kernel
/-- MiceRegisters.readLine -/
def kcc855 : ak_C := (17, [.inl 0, .inl 11, .inr (false, [(-1, 60)]), .inr (false, [(29, 29)])], kch515, [24, 25, 26], [([[], [], [], []], some (.inr (false, [(-1, 60)])), kch40), ([[], [], [(1, 60)], []], some (.inr (false, [(-9, -9)])), kch42)])
theorem kck855 : ai_chk [kcc735] kcc855 (fun pc => sm_ch sm_t17 pc, sm_Kn 2 6 none, fun x => sm_lk sm_ca2 x, some .int) [24, 25, 26] 6 4 [29] [] 2000 [(29, [(0, .inl 0), (1, .inl 11), (2, .inr (false, [(-1, 60)])), (3, .inr (false, [(29, 29)])), (4, .inr (false, [(30, 30)]))], [], kch516),
  (29, [(0, .inl 0), (1, .inl 11), (2, .inr (false, [(1, 60)])), (3, .inr (false, [(29, 29)])), (4, .inr (false, [(31, 31)])), (5, .inr (false, [(-9, -9)]))], [], kch516),
  (29, [(0, .inl 0), (1, .inl 11), (2, .inr (false, [(1, 60)])), (3, .inr (false, [(29, 29)])), (4, .inr (false, [(32, 32)])), (5, .inr (false, [(-9, -9)]))], [], kch516),
  (29, [(0, .inl 0), (1, .inl 11), (2, .inr (false, [(1, 60)])), (3, .inr (false, [(29, 29)])), (4, .inr (false, [(33, 33)])), (5, .inr (false, [(-9, -9)]))], [], kch516)] = true := by decide +kernel
def kch571 : aw_H := [(11, kcx153)]
/-- MiceRegisters.faultOfFigure -/
def kcc856 : ak_C := (18, [.inl 11, .inr (false, [(-1, 60)]), .inr (false, [(30, 30)]), .inr (false, [(0, 0)]), .inr (false, [(0, 7)])], kch24, [], [([], some (.inr (false, [(-9, -9)])), kch571), ([], some (.inr (false, [(-1, 63)])), [])])
def kch572 : aw_H := [(11, kcx155)]
/-- MiceRegisters.faultOfFigure -/
def kcc857 : ak_C := (18, [.inl 11, .inr (false, [(-1, 60)]), .inr (false, [(31, 31)]), .inr (false, [(1, 1)]), .inr (false, [(9, 9)])], kch571, [], [([], some (.inr (false, [(-9, -9)])), kch572), ([], some (.inr (false, [(-1, 63)])), [])])
/-- MiceRegisters.readMouse -/
def kcc858 : ak_C := (19, [.inl 0, .inl 11, .inr (false, [(-1, 60)]), .inr (false, [(29, 29)])], kch514, [24, 29, 30, 31], [([], some (.inr (false, [(-1, 63)])), kch36), ([], some (.inr (false, [(-9, -9)])), kch38)])
theorem kck858 : ai_chk [kcc28, kcc856, kcc857] kcc858 (fun pc => sm_ch sm_t19 pc, sm_Kn 2 6 none, fun x => sm_lk sm_ca2 x, some .int) [24, 29, 30, 31] 6 0 [] [] 2000 [] = true := by decide +kernel
/-- MiceRegisters.readLine -/
def kcc859 : ak_C := (17, [.inl 0, .inl 11, .inr (false, [(-1, 60)]), .inr (false, [(28, 28)])], kch515, [24, 25, 26], [([[], [], [], []], some (.inr (false, [(-1, 60)])), kch40), ([[], [], [(1, 60)], []], some (.inr (false, [(-9, -9)])), kch42)])
theorem kck859 : ai_chk [kcc735] kcc859 (fun pc => sm_ch sm_t17 pc, sm_Kn 2 6 none, fun x => sm_lk sm_ca2 x, some .int) [24, 25, 26] 6 4 [29] [] 2000 [(29, [(0, .inl 0), (1, .inl 11), (2, .inr (false, [(-1, 60)])), (3, .inr (false, [(28, 28)])), (4, .inr (false, [(29, 29)]))], [], kch516),
  (29, [(0, .inl 0), (1, .inl 11), (2, .inr (false, [(1, 60)])), (3, .inr (false, [(28, 28)])), (4, .inr (false, [(30, 30)])), (5, .inr (false, [(-9, -9)]))], [], kch516),
  (29, [(0, .inl 0), (1, .inl 11), (2, .inr (false, [(1, 60)])), (3, .inr (false, [(28, 28)])), (4, .inr (false, [(31, 31)])), (5, .inr (false, [(-9, -9)]))], [], kch516),
  (29, [(0, .inl 0), (1, .inl 11), (2, .inr (false, [(1, 60)])), (3, .inr (false, [(28, 28)])), (4, .inr (false, [(32, 32)])), (5, .inr (false, [(-9, -9)]))], [], kch516)] = true := by decide +kernel
def kch573 : aw_H := [(11, kcx157)]
/-- MiceRegisters.faultOfFigure -/
def kcc860 : ak_C := (18, [.inl 11, .inr (false, [(-1, 60)]), .inr (false, [(29, 29)]), .inr (false, [(0, 0)]), .inr (false, [(0, 7)])], kch24, [], [([], some (.inr (false, [(-9, -9)])), kch573), ([], some (.inr (false, [(-1, 63)])), [])])
def kch574 : aw_H := [(11, kcx159)]
/-- MiceRegisters.faultOfFigure -/
def kcc861 : ak_C := (18, [.inl 11, .inr (false, [(-1, 60)]), .inr (false, [(30, 30)]), .inr (false, [(1, 1)]), .inr (false, [(9, 9)])], kch573, [], [([], some (.inr (false, [(-9, -9)])), kch574), ([], some (.inr (false, [(-1, 63)])), [])])
/-- MiceRegisters.readMouse -/
def kcc862 : ak_C := (19, [.inl 0, .inl 11, .inr (false, [(-1, 60)]), .inr (false, [(28, 28)])], kch514, [24, 29, 30, 31], [([], some (.inr (false, [(-1, 63)])), kch36), ([], some (.inr (false, [(-9, -9)])), kch38)])
theorem kck862 : ai_chk [kcc28, kcc860, kcc861] kcc862 (fun pc => sm_ch sm_t19 pc, sm_Kn 2 6 none, fun x => sm_lk sm_ca2 x, some .int) [24, 29, 30, 31] 6 0 [] [] 2000 [] = true := by decide +kernel
/-- MiceRegisters.readLine -/
def kcc863 : ak_C := (17, [.inl 0, .inl 11, .inr (false, [(-1, 60)]), .inr (false, [(27, 27)])], kch515, [24, 25, 26], [([[], [], [], []], some (.inr (false, [(-1, 60)])), kch40), ([[], [], [(1, 60)], []], some (.inr (false, [(-9, -9)])), kch42)])
theorem kck863 : ai_chk [kcc735] kcc863 (fun pc => sm_ch sm_t17 pc, sm_Kn 2 6 none, fun x => sm_lk sm_ca2 x, some .int) [24, 25, 26] 6 4 [29] [] 2000 [(29, [(0, .inl 0), (1, .inl 11), (2, .inr (false, [(-1, 60)])), (3, .inr (false, [(27, 27)])), (4, .inr (false, [(28, 28)]))], [], kch516),
  (29, [(0, .inl 0), (1, .inl 11), (2, .inr (false, [(1, 60)])), (3, .inr (false, [(27, 27)])), (4, .inr (false, [(29, 29)])), (5, .inr (false, [(-9, -9)]))], [], kch516),
  (29, [(0, .inl 0), (1, .inl 11), (2, .inr (false, [(1, 60)])), (3, .inr (false, [(27, 27)])), (4, .inr (false, [(30, 30)])), (5, .inr (false, [(-9, -9)]))], [], kch516),
  (29, [(0, .inl 0), (1, .inl 11), (2, .inr (false, [(1, 60)])), (3, .inr (false, [(27, 27)])), (4, .inr (false, [(31, 31)])), (5, .inr (false, [(-9, -9)]))], [], kch516)] = true := by decide +kernel
def kch575 : aw_H := [(11, kcx161)]
/-- MiceRegisters.faultOfFigure -/
def kcc864 : ak_C := (18, [.inl 11, .inr (false, [(-1, 60)]), .inr (false, [(28, 28)]), .inr (false, [(0, 0)]), .inr (false, [(0, 7)])], kch24, [], [([], some (.inr (false, [(-9, -9)])), kch575), ([], some (.inr (false, [(-1, 63)])), [])])
def kch576 : aw_H := [(11, kcx163)]
/-- MiceRegisters.faultOfFigure -/
def kcc865 : ak_C := (18, [.inl 11, .inr (false, [(-1, 60)]), .inr (false, [(29, 29)]), .inr (false, [(1, 1)]), .inr (false, [(9, 9)])], kch575, [], [([], some (.inr (false, [(-9, -9)])), kch576), ([], some (.inr (false, [(-1, 63)])), [])])
/-- MiceRegisters.readMouse -/
def kcc866 : ak_C := (19, [.inl 0, .inl 11, .inr (false, [(-1, 60)]), .inr (false, [(27, 27)])], kch514, [24, 29, 30, 31], [([], some (.inr (false, [(-1, 63)])), kch36), ([], some (.inr (false, [(-9, -9)])), kch38)])
theorem kck866 : ai_chk [kcc28, kcc864, kcc865] kcc866 (fun pc => sm_ch sm_t19 pc, sm_Kn 2 6 none, fun x => sm_lk sm_ca2 x, some .int) [24, 29, 30, 31] 6 0 [] [] 2000 [] = true := by decide +kernel
/-- MiceRegisters.readLine -/
def kcc867 : ak_C := (17, [.inl 0, .inl 11, .inr (false, [(-1, 60)]), .inr (false, [(26, 26)])], kch515, [24, 25, 26], [([[], [], [], []], some (.inr (false, [(-1, 60)])), kch40), ([[], [], [(1, 60)], []], some (.inr (false, [(-9, -9)])), kch42)])
theorem kck867 : ai_chk [kcc735] kcc867 (fun pc => sm_ch sm_t17 pc, sm_Kn 2 6 none, fun x => sm_lk sm_ca2 x, some .int) [24, 25, 26] 6 4 [29] [] 2000 [(29, [(0, .inl 0), (1, .inl 11), (2, .inr (false, [(-1, 60)])), (3, .inr (false, [(26, 26)])), (4, .inr (false, [(27, 27)]))], [], kch516),
  (29, [(0, .inl 0), (1, .inl 11), (2, .inr (false, [(1, 60)])), (3, .inr (false, [(26, 26)])), (4, .inr (false, [(28, 28)])), (5, .inr (false, [(-9, -9)]))], [], kch516),
  (29, [(0, .inl 0), (1, .inl 11), (2, .inr (false, [(1, 60)])), (3, .inr (false, [(26, 26)])), (4, .inr (false, [(29, 29)])), (5, .inr (false, [(-9, -9)]))], [], kch516),
  (29, [(0, .inl 0), (1, .inl 11), (2, .inr (false, [(1, 60)])), (3, .inr (false, [(26, 26)])), (4, .inr (false, [(30, 30)])), (5, .inr (false, [(-9, -9)]))], [], kch516)] = true := by decide +kernel
def kch577 : aw_H := [(11, kcx165)]
/-- MiceRegisters.faultOfFigure -/
def kcc868 : ak_C := (18, [.inl 11, .inr (false, [(-1, 60)]), .inr (false, [(27, 27)]), .inr (false, [(0, 0)]), .inr (false, [(0, 7)])], kch24, [], [([], some (.inr (false, [(-9, -9)])), kch577), ([], some (.inr (false, [(-1, 63)])), [])])
def kch578 : aw_H := [(11, kcx167)]
/-- MiceRegisters.faultOfFigure -/
def kcc869 : ak_C := (18, [.inl 11, .inr (false, [(-1, 60)]), .inr (false, [(28, 28)]), .inr (false, [(1, 1)]), .inr (false, [(9, 9)])], kch577, [], [([], some (.inr (false, [(-9, -9)])), kch578), ([], some (.inr (false, [(-1, 63)])), [])])
/-- MiceRegisters.readMouse -/
def kcc870 : ak_C := (19, [.inl 0, .inl 11, .inr (false, [(-1, 60)]), .inr (false, [(26, 26)])], kch514, [24, 29, 30, 31], [([], some (.inr (false, [(-1, 63)])), kch36), ([], some (.inr (false, [(-9, -9)])), kch38)])
theorem kck870 : ai_chk [kcc28, kcc868, kcc869] kcc870 (fun pc => sm_ch sm_t19 pc, sm_Kn 2 6 none, fun x => sm_lk sm_ca2 x, some .int) [24, 29, 30, 31] 6 0 [] [] 2000 [] = true := by decide +kernel
/-- MiceRegisters.readLine -/
def kcc871 : ak_C := (17, [.inl 0, .inl 11, .inr (false, [(-1, 60)]), .inr (false, [(25, 25)])], kch515, [24, 25, 26], [([[], [], [], []], some (.inr (false, [(-1, 60)])), kch40), ([[], [], [(1, 60)], []], some (.inr (false, [(-9, -9)])), kch42)])
theorem kck871 : ai_chk [kcc735] kcc871 (fun pc => sm_ch sm_t17 pc, sm_Kn 2 6 none, fun x => sm_lk sm_ca2 x, some .int) [24, 25, 26] 6 4 [29] [] 2000 [(29, [(0, .inl 0), (1, .inl 11), (2, .inr (false, [(-1, 60)])), (3, .inr (false, [(25, 25)])), (4, .inr (false, [(26, 26)]))], [], kch516),
  (29, [(0, .inl 0), (1, .inl 11), (2, .inr (false, [(1, 60)])), (3, .inr (false, [(25, 25)])), (4, .inr (false, [(27, 27)])), (5, .inr (false, [(-9, -9)]))], [], kch516),
  (29, [(0, .inl 0), (1, .inl 11), (2, .inr (false, [(1, 60)])), (3, .inr (false, [(25, 25)])), (4, .inr (false, [(28, 28)])), (5, .inr (false, [(-9, -9)]))], [], kch516),
  (29, [(0, .inl 0), (1, .inl 11), (2, .inr (false, [(1, 60)])), (3, .inr (false, [(25, 25)])), (4, .inr (false, [(29, 29)])), (5, .inr (false, [(-9, -9)]))], [], kch516)] = true := by decide +kernel
def kch579 : aw_H := [(11, kcx169)]
/-- MiceRegisters.faultOfFigure -/
def kcc872 : ak_C := (18, [.inl 11, .inr (false, [(-1, 60)]), .inr (false, [(26, 26)]), .inr (false, [(0, 0)]), .inr (false, [(0, 7)])], kch24, [], [([], some (.inr (false, [(-9, -9)])), kch579), ([], some (.inr (false, [(-1, 63)])), [])])
def kch580 : aw_H := [(11, kcx171)]
/-- MiceRegisters.faultOfFigure -/
def kcc873 : ak_C := (18, [.inl 11, .inr (false, [(-1, 60)]), .inr (false, [(27, 27)]), .inr (false, [(1, 1)]), .inr (false, [(9, 9)])], kch579, [], [([], some (.inr (false, [(-9, -9)])), kch580), ([], some (.inr (false, [(-1, 63)])), [])])
/-- MiceRegisters.readMouse -/
def kcc874 : ak_C := (19, [.inl 0, .inl 11, .inr (false, [(-1, 60)]), .inr (false, [(25, 25)])], kch514, [24, 29, 30, 31], [([], some (.inr (false, [(-1, 63)])), kch36), ([], some (.inr (false, [(-9, -9)])), kch38)])
theorem kck874 : ai_chk [kcc28, kcc872, kcc873] kcc874 (fun pc => sm_ch sm_t19 pc, sm_Kn 2 6 none, fun x => sm_lk sm_ca2 x, some .int) [24, 29, 30, 31] 6 0 [] [] 2000 [] = true := by decide +kernel
/-- MiceRegisters.readLine -/
def kcc875 : ak_C := (17, [.inl 0, .inl 11, .inr (false, [(-1, 60)]), .inr (false, [(24, 24)])], kch515, [24, 25, 26], [([[], [], [], []], some (.inr (false, [(-1, 60)])), kch40), ([[], [], [(1, 60)], []], some (.inr (false, [(-9, -9)])), kch42)])
theorem kck875 : ai_chk [kcc735] kcc875 (fun pc => sm_ch sm_t17 pc, sm_Kn 2 6 none, fun x => sm_lk sm_ca2 x, some .int) [24, 25, 26] 6 4 [29] [] 2000 [(29, [(0, .inl 0), (1, .inl 11), (2, .inr (false, [(-1, 60)])), (3, .inr (false, [(24, 24)])), (4, .inr (false, [(25, 25)]))], [], kch516),
  (29, [(0, .inl 0), (1, .inl 11), (2, .inr (false, [(1, 60)])), (3, .inr (false, [(24, 24)])), (4, .inr (false, [(26, 26)])), (5, .inr (false, [(-9, -9)]))], [], kch516),
  (29, [(0, .inl 0), (1, .inl 11), (2, .inr (false, [(1, 60)])), (3, .inr (false, [(24, 24)])), (4, .inr (false, [(27, 27)])), (5, .inr (false, [(-9, -9)]))], [], kch516),
  (29, [(0, .inl 0), (1, .inl 11), (2, .inr (false, [(1, 60)])), (3, .inr (false, [(24, 24)])), (4, .inr (false, [(28, 28)])), (5, .inr (false, [(-9, -9)]))], [], kch516)] = true := by decide +kernel
def kch581 : aw_H := [(11, kcx173)]
/-- MiceRegisters.faultOfFigure -/
def kcc876 : ak_C := (18, [.inl 11, .inr (false, [(-1, 60)]), .inr (false, [(25, 25)]), .inr (false, [(0, 0)]), .inr (false, [(0, 7)])], kch24, [], [([], some (.inr (false, [(-9, -9)])), kch581), ([], some (.inr (false, [(-1, 63)])), [])])
def kch582 : aw_H := [(11, kcx175)]
/-- MiceRegisters.faultOfFigure -/
def kcc877 : ak_C := (18, [.inl 11, .inr (false, [(-1, 60)]), .inr (false, [(26, 26)]), .inr (false, [(1, 1)]), .inr (false, [(9, 9)])], kch581, [], [([], some (.inr (false, [(-9, -9)])), kch582), ([], some (.inr (false, [(-1, 63)])), [])])
/-- MiceRegisters.readMouse -/
def kcc878 : ak_C := (19, [.inl 0, .inl 11, .inr (false, [(-1, 60)]), .inr (false, [(24, 24)])], kch514, [24, 29, 30, 31], [([], some (.inr (false, [(-1, 63)])), kch36), ([], some (.inr (false, [(-9, -9)])), kch38)])
theorem kck878 : ai_chk [kcc28, kcc876, kcc877] kcc878 (fun pc => sm_ch sm_t19 pc, sm_Kn 2 6 none, fun x => sm_lk sm_ca2 x, some .int) [24, 29, 30, 31] 6 0 [] [] 2000 [] = true := by decide +kernel
/-- MiceRegisters.readLine -/
def kcc879 : ak_C := (17, [.inl 0, .inl 11, .inr (false, [(-1, 60)]), .inr (false, [(23, 23)])], kch515, [24, 25, 26], [([[], [], [], []], some (.inr (false, [(-1, 60)])), kch40), ([[], [], [(1, 60)], []], some (.inr (false, [(-9, -9)])), kch42)])
theorem kck879 : ai_chk [kcc735] kcc879 (fun pc => sm_ch sm_t17 pc, sm_Kn 2 6 none, fun x => sm_lk sm_ca2 x, some .int) [24, 25, 26] 6 4 [29] [] 2000 [(29, [(0, .inl 0), (1, .inl 11), (2, .inr (false, [(-1, 60)])), (3, .inr (false, [(23, 23)])), (4, .inr (false, [(24, 24)]))], [], kch516),
  (29, [(0, .inl 0), (1, .inl 11), (2, .inr (false, [(1, 60)])), (3, .inr (false, [(23, 23)])), (4, .inr (false, [(25, 25)])), (5, .inr (false, [(-9, -9)]))], [], kch516),
  (29, [(0, .inl 0), (1, .inl 11), (2, .inr (false, [(1, 60)])), (3, .inr (false, [(23, 23)])), (4, .inr (false, [(26, 26)])), (5, .inr (false, [(-9, -9)]))], [], kch516),
  (29, [(0, .inl 0), (1, .inl 11), (2, .inr (false, [(1, 60)])), (3, .inr (false, [(23, 23)])), (4, .inr (false, [(27, 27)])), (5, .inr (false, [(-9, -9)]))], [], kch516)] = true := by decide +kernel
def kch583 : aw_H := [(11, kcx177)]
/-- MiceRegisters.faultOfFigure -/
def kcc880 : ak_C := (18, [.inl 11, .inr (false, [(-1, 60)]), .inr (false, [(24, 24)]), .inr (false, [(0, 0)]), .inr (false, [(0, 7)])], kch24, [], [([], some (.inr (false, [(-9, -9)])), kch583), ([], some (.inr (false, [(-1, 63)])), [])])
def kch584 : aw_H := [(11, kcx179)]
/-- MiceRegisters.faultOfFigure -/
def kcc881 : ak_C := (18, [.inl 11, .inr (false, [(-1, 60)]), .inr (false, [(25, 25)]), .inr (false, [(1, 1)]), .inr (false, [(9, 9)])], kch583, [], [([], some (.inr (false, [(-9, -9)])), kch584), ([], some (.inr (false, [(-1, 63)])), [])])
/-- MiceRegisters.readMouse -/
def kcc882 : ak_C := (19, [.inl 0, .inl 11, .inr (false, [(-1, 60)]), .inr (false, [(23, 23)])], kch514, [24, 29, 30, 31], [([], some (.inr (false, [(-1, 63)])), kch36), ([], some (.inr (false, [(-9, -9)])), kch38)])
theorem kck882 : ai_chk [kcc28, kcc880, kcc881] kcc882 (fun pc => sm_ch sm_t19 pc, sm_Kn 2 6 none, fun x => sm_lk sm_ca2 x, some .int) [24, 29, 30, 31] 6 0 [] [] 2000 [] = true := by decide +kernel
/-- MiceRegisters.readLine -/
def kcc883 : ak_C := (17, [.inl 0, .inl 11, .inr (false, [(-1, 60)]), .inr (false, [(22, 22)])], kch515, [24, 25, 26], [([[], [], [], []], some (.inr (false, [(-1, 60)])), kch40), ([[], [], [(1, 60)], []], some (.inr (false, [(-9, -9)])), kch42)])
theorem kck883 : ai_chk [kcc735] kcc883 (fun pc => sm_ch sm_t17 pc, sm_Kn 2 6 none, fun x => sm_lk sm_ca2 x, some .int) [24, 25, 26] 6 4 [29] [] 2000 [(29, [(0, .inl 0), (1, .inl 11), (2, .inr (false, [(-1, 60)])), (3, .inr (false, [(22, 22)])), (4, .inr (false, [(23, 23)]))], [], kch516),
  (29, [(0, .inl 0), (1, .inl 11), (2, .inr (false, [(1, 60)])), (3, .inr (false, [(22, 22)])), (4, .inr (false, [(24, 24)])), (5, .inr (false, [(-9, -9)]))], [], kch516),
  (29, [(0, .inl 0), (1, .inl 11), (2, .inr (false, [(1, 60)])), (3, .inr (false, [(22, 22)])), (4, .inr (false, [(25, 25)])), (5, .inr (false, [(-9, -9)]))], [], kch516),
  (29, [(0, .inl 0), (1, .inl 11), (2, .inr (false, [(1, 60)])), (3, .inr (false, [(22, 22)])), (4, .inr (false, [(26, 26)])), (5, .inr (false, [(-9, -9)]))], [], kch516)] = true := by decide +kernel
def kch585 : aw_H := [(11, kcx181)]
/-- MiceRegisters.faultOfFigure -/
def kcc884 : ak_C := (18, [.inl 11, .inr (false, [(-1, 60)]), .inr (false, [(23, 23)]), .inr (false, [(0, 0)]), .inr (false, [(0, 7)])], kch24, [], [([], some (.inr (false, [(-9, -9)])), kch585), ([], some (.inr (false, [(-1, 63)])), [])])
def kch586 : aw_H := [(11, kcx183)]
/-- MiceRegisters.faultOfFigure -/
def kcc885 : ak_C := (18, [.inl 11, .inr (false, [(-1, 60)]), .inr (false, [(24, 24)]), .inr (false, [(1, 1)]), .inr (false, [(9, 9)])], kch585, [], [([], some (.inr (false, [(-9, -9)])), kch586), ([], some (.inr (false, [(-1, 63)])), [])])
/-- MiceRegisters.readMouse -/
def kcc886 : ak_C := (19, [.inl 0, .inl 11, .inr (false, [(-1, 60)]), .inr (false, [(22, 22)])], kch514, [24, 29, 30, 31], [([], some (.inr (false, [(-1, 63)])), kch36), ([], some (.inr (false, [(-9, -9)])), kch38)])
theorem kck886 : ai_chk [kcc28, kcc884, kcc885] kcc886 (fun pc => sm_ch sm_t19 pc, sm_Kn 2 6 none, fun x => sm_lk sm_ca2 x, some .int) [24, 29, 30, 31] 6 0 [] [] 2000 [] = true := by decide +kernel
/-- MiceRegisters.readLine -/
def kcc887 : ak_C := (17, [.inl 0, .inl 11, .inr (false, [(-1, 60)]), .inr (false, [(21, 21)])], kch515, [24, 25, 26], [([[], [], [], []], some (.inr (false, [(-1, 60)])), kch40), ([[], [], [(1, 60)], []], some (.inr (false, [(-9, -9)])), kch42)])
theorem kck887 : ai_chk [kcc735] kcc887 (fun pc => sm_ch sm_t17 pc, sm_Kn 2 6 none, fun x => sm_lk sm_ca2 x, some .int) [24, 25, 26] 6 4 [29] [] 2000 [(29, [(0, .inl 0), (1, .inl 11), (2, .inr (false, [(-1, 60)])), (3, .inr (false, [(21, 21)])), (4, .inr (false, [(22, 22)]))], [], kch516),
  (29, [(0, .inl 0), (1, .inl 11), (2, .inr (false, [(1, 60)])), (3, .inr (false, [(21, 21)])), (4, .inr (false, [(23, 23)])), (5, .inr (false, [(-9, -9)]))], [], kch516),
  (29, [(0, .inl 0), (1, .inl 11), (2, .inr (false, [(1, 60)])), (3, .inr (false, [(21, 21)])), (4, .inr (false, [(24, 24)])), (5, .inr (false, [(-9, -9)]))], [], kch516),
  (29, [(0, .inl 0), (1, .inl 11), (2, .inr (false, [(1, 60)])), (3, .inr (false, [(21, 21)])), (4, .inr (false, [(25, 25)])), (5, .inr (false, [(-9, -9)]))], [], kch516)] = true := by decide +kernel
def kch587 : aw_H := [(11, kcx185)]
/-- MiceRegisters.faultOfFigure -/
def kcc888 : ak_C := (18, [.inl 11, .inr (false, [(-1, 60)]), .inr (false, [(22, 22)]), .inr (false, [(0, 0)]), .inr (false, [(0, 7)])], kch24, [], [([], some (.inr (false, [(-9, -9)])), kch587), ([], some (.inr (false, [(-1, 63)])), [])])
def kch588 : aw_H := [(11, kcx187)]
/-- MiceRegisters.faultOfFigure -/
def kcc889 : ak_C := (18, [.inl 11, .inr (false, [(-1, 60)]), .inr (false, [(23, 23)]), .inr (false, [(1, 1)]), .inr (false, [(9, 9)])], kch587, [], [([], some (.inr (false, [(-9, -9)])), kch588), ([], some (.inr (false, [(-1, 63)])), [])])
/-- MiceRegisters.readMouse -/
def kcc890 : ak_C := (19, [.inl 0, .inl 11, .inr (false, [(-1, 60)]), .inr (false, [(21, 21)])], kch514, [24, 29, 30, 31], [([], some (.inr (false, [(-1, 63)])), kch36), ([], some (.inr (false, [(-9, -9)])), kch38)])
theorem kck890 : ai_chk [kcc28, kcc888, kcc889] kcc890 (fun pc => sm_ch sm_t19 pc, sm_Kn 2 6 none, fun x => sm_lk sm_ca2 x, some .int) [24, 29, 30, 31] 6 0 [] [] 2000 [] = true := by decide +kernel
/-- MiceRegisters.readLine -/
def kcc891 : ak_C := (17, [.inl 0, .inl 11, .inr (false, [(-1, 60)]), .inr (false, [(20, 20)])], kch515, [24, 25, 26], [([[], [], [], []], some (.inr (false, [(-1, 60)])), kch40), ([[], [], [(1, 60)], []], some (.inr (false, [(-9, -9)])), kch42)])
theorem kck891 : ai_chk [kcc735] kcc891 (fun pc => sm_ch sm_t17 pc, sm_Kn 2 6 none, fun x => sm_lk sm_ca2 x, some .int) [24, 25, 26] 6 4 [29] [] 2000 [(29, [(0, .inl 0), (1, .inl 11), (2, .inr (false, [(-1, 60)])), (3, .inr (false, [(20, 20)])), (4, .inr (false, [(21, 21)]))], [], kch516),
  (29, [(0, .inl 0), (1, .inl 11), (2, .inr (false, [(1, 60)])), (3, .inr (false, [(20, 20)])), (4, .inr (false, [(22, 22)])), (5, .inr (false, [(-9, -9)]))], [], kch516),
  (29, [(0, .inl 0), (1, .inl 11), (2, .inr (false, [(1, 60)])), (3, .inr (false, [(20, 20)])), (4, .inr (false, [(23, 23)])), (5, .inr (false, [(-9, -9)]))], [], kch516),
  (29, [(0, .inl 0), (1, .inl 11), (2, .inr (false, [(1, 60)])), (3, .inr (false, [(20, 20)])), (4, .inr (false, [(24, 24)])), (5, .inr (false, [(-9, -9)]))], [], kch516)] = true := by decide +kernel
def kch589 : aw_H := [(11, kcx189)]
/-- MiceRegisters.faultOfFigure -/
def kcc892 : ak_C := (18, [.inl 11, .inr (false, [(-1, 60)]), .inr (false, [(21, 21)]), .inr (false, [(0, 0)]), .inr (false, [(0, 7)])], kch24, [], [([], some (.inr (false, [(-9, -9)])), kch589), ([], some (.inr (false, [(-1, 63)])), [])])
def kch590 : aw_H := [(11, kcx191)]
/-- MiceRegisters.faultOfFigure -/
def kcc893 : ak_C := (18, [.inl 11, .inr (false, [(-1, 60)]), .inr (false, [(22, 22)]), .inr (false, [(1, 1)]), .inr (false, [(9, 9)])], kch589, [], [([], some (.inr (false, [(-9, -9)])), kch590), ([], some (.inr (false, [(-1, 63)])), [])])
/-- MiceRegisters.readMouse -/
def kcc894 : ak_C := (19, [.inl 0, .inl 11, .inr (false, [(-1, 60)]), .inr (false, [(20, 20)])], kch514, [24, 29, 30, 31], [([], some (.inr (false, [(-1, 63)])), kch36), ([], some (.inr (false, [(-9, -9)])), kch38)])
theorem kck894 : ai_chk [kcc28, kcc892, kcc893] kcc894 (fun pc => sm_ch sm_t19 pc, sm_Kn 2 6 none, fun x => sm_lk sm_ca2 x, some .int) [24, 29, 30, 31] 6 0 [] [] 2000 [] = true := by decide +kernel
/-- MiceRegisters.readLine -/
def kcc895 : ak_C := (17, [.inl 0, .inl 11, .inr (false, [(-1, 60)]), .inr (false, [(19, 19)])], kch515, [24, 25, 26], [([[], [], [], []], some (.inr (false, [(-1, 60)])), kch40), ([[], [], [(1, 60)], []], some (.inr (false, [(-9, -9)])), kch42)])
theorem kck895 : ai_chk [kcc735] kcc895 (fun pc => sm_ch sm_t17 pc, sm_Kn 2 6 none, fun x => sm_lk sm_ca2 x, some .int) [24, 25, 26] 6 4 [29] [] 2000 [(29, [(0, .inl 0), (1, .inl 11), (2, .inr (false, [(-1, 60)])), (3, .inr (false, [(19, 19)])), (4, .inr (false, [(20, 20)]))], [], kch516),
  (29, [(0, .inl 0), (1, .inl 11), (2, .inr (false, [(1, 60)])), (3, .inr (false, [(19, 19)])), (4, .inr (false, [(21, 21)])), (5, .inr (false, [(-9, -9)]))], [], kch516),
  (29, [(0, .inl 0), (1, .inl 11), (2, .inr (false, [(1, 60)])), (3, .inr (false, [(19, 19)])), (4, .inr (false, [(22, 22)])), (5, .inr (false, [(-9, -9)]))], [], kch516),
  (29, [(0, .inl 0), (1, .inl 11), (2, .inr (false, [(1, 60)])), (3, .inr (false, [(19, 19)])), (4, .inr (false, [(23, 23)])), (5, .inr (false, [(-9, -9)]))], [], kch516)] = true := by decide +kernel
def kch591 : aw_H := [(11, kcx193)]
/-- MiceRegisters.faultOfFigure -/
def kcc896 : ak_C := (18, [.inl 11, .inr (false, [(-1, 60)]), .inr (false, [(20, 20)]), .inr (false, [(0, 0)]), .inr (false, [(0, 7)])], kch24, [], [([], some (.inr (false, [(-9, -9)])), kch591), ([], some (.inr (false, [(-1, 63)])), [])])
def kch592 : aw_H := [(11, kcx195)]
/-- MiceRegisters.faultOfFigure -/
def kcc897 : ak_C := (18, [.inl 11, .inr (false, [(-1, 60)]), .inr (false, [(21, 21)]), .inr (false, [(1, 1)]), .inr (false, [(9, 9)])], kch591, [], [([], some (.inr (false, [(-9, -9)])), kch592), ([], some (.inr (false, [(-1, 63)])), [])])
/-- MiceRegisters.readMouse -/
def kcc898 : ak_C := (19, [.inl 0, .inl 11, .inr (false, [(-1, 60)]), .inr (false, [(19, 19)])], kch514, [24, 29, 30, 31], [([], some (.inr (false, [(-1, 63)])), kch36), ([], some (.inr (false, [(-9, -9)])), kch38)])
theorem kck898 : ai_chk [kcc28, kcc896, kcc897] kcc898 (fun pc => sm_ch sm_t19 pc, sm_Kn 2 6 none, fun x => sm_lk sm_ca2 x, some .int) [24, 29, 30, 31] 6 0 [] [] 2000 [] = true := by decide +kernel
/-- MiceRegisters.readLine -/
def kcc899 : ak_C := (17, [.inl 0, .inl 11, .inr (false, [(-1, 60)]), .inr (false, [(18, 18)])], kch515, [24, 25, 26], [([[], [], [], []], some (.inr (false, [(-1, 60)])), kch40), ([[], [], [(1, 60)], []], some (.inr (false, [(-9, -9)])), kch42)])
theorem kck899 : ai_chk [kcc735] kcc899 (fun pc => sm_ch sm_t17 pc, sm_Kn 2 6 none, fun x => sm_lk sm_ca2 x, some .int) [24, 25, 26] 6 4 [29] [] 2000 [(29, [(0, .inl 0), (1, .inl 11), (2, .inr (false, [(-1, 60)])), (3, .inr (false, [(18, 18)])), (4, .inr (false, [(19, 19)]))], [], kch516),
  (29, [(0, .inl 0), (1, .inl 11), (2, .inr (false, [(1, 60)])), (3, .inr (false, [(18, 18)])), (4, .inr (false, [(20, 20)])), (5, .inr (false, [(-9, -9)]))], [], kch516),
  (29, [(0, .inl 0), (1, .inl 11), (2, .inr (false, [(1, 60)])), (3, .inr (false, [(18, 18)])), (4, .inr (false, [(21, 21)])), (5, .inr (false, [(-9, -9)]))], [], kch516),
  (29, [(0, .inl 0), (1, .inl 11), (2, .inr (false, [(1, 60)])), (3, .inr (false, [(18, 18)])), (4, .inr (false, [(22, 22)])), (5, .inr (false, [(-9, -9)]))], [], kch516)] = true := by decide +kernel
def kch593 : aw_H := [(11, kcx197)]
/-- MiceRegisters.faultOfFigure -/
def kcc900 : ak_C := (18, [.inl 11, .inr (false, [(-1, 60)]), .inr (false, [(19, 19)]), .inr (false, [(0, 0)]), .inr (false, [(0, 7)])], kch24, [], [([], some (.inr (false, [(-9, -9)])), kch593), ([], some (.inr (false, [(-1, 63)])), [])])
def kch594 : aw_H := [(11, kcx199)]
/-- MiceRegisters.faultOfFigure -/
def kcc901 : ak_C := (18, [.inl 11, .inr (false, [(-1, 60)]), .inr (false, [(20, 20)]), .inr (false, [(1, 1)]), .inr (false, [(9, 9)])], kch593, [], [([], some (.inr (false, [(-9, -9)])), kch594), ([], some (.inr (false, [(-1, 63)])), [])])
/-- MiceRegisters.readMouse -/
def kcc902 : ak_C := (19, [.inl 0, .inl 11, .inr (false, [(-1, 60)]), .inr (false, [(18, 18)])], kch514, [24, 29, 30, 31], [([], some (.inr (false, [(-1, 63)])), kch36), ([], some (.inr (false, [(-9, -9)])), kch38)])
theorem kck902 : ai_chk [kcc28, kcc900, kcc901] kcc902 (fun pc => sm_ch sm_t19 pc, sm_Kn 2 6 none, fun x => sm_lk sm_ca2 x, some .int) [24, 29, 30, 31] 6 0 [] [] 2000 [] = true := by decide +kernel
/-- MiceRegisters.readLine -/
def kcc903 : ak_C := (17, [.inl 0, .inl 11, .inr (false, [(-1, 60)]), .inr (false, [(17, 17)])], kch515, [24, 25, 26], [([[], [], [], []], some (.inr (false, [(-1, 60)])), kch40), ([[], [], [(1, 60)], []], some (.inr (false, [(-9, -9)])), kch42)])
theorem kck903 : ai_chk [kcc735] kcc903 (fun pc => sm_ch sm_t17 pc, sm_Kn 2 6 none, fun x => sm_lk sm_ca2 x, some .int) [24, 25, 26] 6 4 [29] [] 2000 [(29, [(0, .inl 0), (1, .inl 11), (2, .inr (false, [(-1, 60)])), (3, .inr (false, [(17, 17)])), (4, .inr (false, [(18, 18)]))], [], kch516),
  (29, [(0, .inl 0), (1, .inl 11), (2, .inr (false, [(1, 60)])), (3, .inr (false, [(17, 17)])), (4, .inr (false, [(19, 19)])), (5, .inr (false, [(-9, -9)]))], [], kch516),
  (29, [(0, .inl 0), (1, .inl 11), (2, .inr (false, [(1, 60)])), (3, .inr (false, [(17, 17)])), (4, .inr (false, [(20, 20)])), (5, .inr (false, [(-9, -9)]))], [], kch516),
  (29, [(0, .inl 0), (1, .inl 11), (2, .inr (false, [(1, 60)])), (3, .inr (false, [(17, 17)])), (4, .inr (false, [(21, 21)])), (5, .inr (false, [(-9, -9)]))], [], kch516)] = true := by decide +kernel
def kch595 : aw_H := [(11, kcx201)]
/-- MiceRegisters.faultOfFigure -/
def kcc904 : ak_C := (18, [.inl 11, .inr (false, [(-1, 60)]), .inr (false, [(18, 18)]), .inr (false, [(0, 0)]), .inr (false, [(0, 7)])], kch24, [], [([], some (.inr (false, [(-9, -9)])), kch595), ([], some (.inr (false, [(-1, 63)])), [])])
def kch596 : aw_H := [(11, kcx203)]
/-- MiceRegisters.faultOfFigure -/
def kcc905 : ak_C := (18, [.inl 11, .inr (false, [(-1, 60)]), .inr (false, [(19, 19)]), .inr (false, [(1, 1)]), .inr (false, [(9, 9)])], kch595, [], [([], some (.inr (false, [(-9, -9)])), kch596), ([], some (.inr (false, [(-1, 63)])), [])])
/-- MiceRegisters.readMouse -/
def kcc906 : ak_C := (19, [.inl 0, .inl 11, .inr (false, [(-1, 60)]), .inr (false, [(17, 17)])], kch514, [24, 29, 30, 31], [([], some (.inr (false, [(-1, 63)])), kch36), ([], some (.inr (false, [(-9, -9)])), kch38)])
theorem kck906 : ai_chk [kcc28, kcc904, kcc905] kcc906 (fun pc => sm_ch sm_t19 pc, sm_Kn 2 6 none, fun x => sm_lk sm_ca2 x, some .int) [24, 29, 30, 31] 6 0 [] [] 2000 [] = true := by decide +kernel
/-- MiceRegisters.readLine -/
def kcc907 : ak_C := (17, [.inl 0, .inl 11, .inr (false, [(-1, 60)]), .inr (false, [(16, 16)])], kch515, [24, 25, 26], [([[], [], [], []], some (.inr (false, [(-1, 60)])), kch40), ([[], [], [(1, 60)], []], some (.inr (false, [(-9, -9)])), kch42)])
theorem kck907 : ai_chk [kcc735] kcc907 (fun pc => sm_ch sm_t17 pc, sm_Kn 2 6 none, fun x => sm_lk sm_ca2 x, some .int) [24, 25, 26] 6 4 [29] [] 2000 [(29, [(0, .inl 0), (1, .inl 11), (2, .inr (false, [(-1, 60)])), (3, .inr (false, [(16, 16)])), (4, .inr (false, [(17, 17)]))], [], kch516),
  (29, [(0, .inl 0), (1, .inl 11), (2, .inr (false, [(1, 60)])), (3, .inr (false, [(16, 16)])), (4, .inr (false, [(18, 18)])), (5, .inr (false, [(-9, -9)]))], [], kch516),
  (29, [(0, .inl 0), (1, .inl 11), (2, .inr (false, [(1, 60)])), (3, .inr (false, [(16, 16)])), (4, .inr (false, [(19, 19)])), (5, .inr (false, [(-9, -9)]))], [], kch516),
  (29, [(0, .inl 0), (1, .inl 11), (2, .inr (false, [(1, 60)])), (3, .inr (false, [(16, 16)])), (4, .inr (false, [(20, 20)])), (5, .inr (false, [(-9, -9)]))], [], kch516)] = true := by decide +kernel
def kch597 : aw_H := [(11, kcx205)]
/-- MiceRegisters.faultOfFigure -/
def kcc908 : ak_C := (18, [.inl 11, .inr (false, [(-1, 60)]), .inr (false, [(17, 17)]), .inr (false, [(0, 0)]), .inr (false, [(0, 7)])], kch24, [], [([], some (.inr (false, [(-9, -9)])), kch597), ([], some (.inr (false, [(-1, 63)])), [])])
def kch598 : aw_H := [(11, kcx207)]
/-- MiceRegisters.faultOfFigure -/
def kcc909 : ak_C := (18, [.inl 11, .inr (false, [(-1, 60)]), .inr (false, [(18, 18)]), .inr (false, [(1, 1)]), .inr (false, [(9, 9)])], kch597, [], [([], some (.inr (false, [(-9, -9)])), kch598), ([], some (.inr (false, [(-1, 63)])), [])])
/-- MiceRegisters.readMouse -/
def kcc910 : ak_C := (19, [.inl 0, .inl 11, .inr (false, [(-1, 60)]), .inr (false, [(16, 16)])], kch514, [24, 29, 30, 31], [([], some (.inr (false, [(-1, 63)])), kch36), ([], some (.inr (false, [(-9, -9)])), kch38)])
theorem kck910 : ai_chk [kcc28, kcc908, kcc909] kcc910 (fun pc => sm_ch sm_t19 pc, sm_Kn 2 6 none, fun x => sm_lk sm_ca2 x, some .int) [24, 29, 30, 31] 6 0 [] [] 2000 [] = true := by decide +kernel
/-- MiceRegisters.readLine -/
def kcc911 : ak_C := (17, [.inl 0, .inl 11, .inr (false, [(-1, 60)]), .inr (false, [(15, 15)])], kch515, [24, 25, 26], [([[], [], [], []], some (.inr (false, [(-1, 60)])), kch40), ([[], [], [(1, 60)], []], some (.inr (false, [(-9, -9)])), kch42)])
theorem kck911 : ai_chk [kcc735] kcc911 (fun pc => sm_ch sm_t17 pc, sm_Kn 2 6 none, fun x => sm_lk sm_ca2 x, some .int) [24, 25, 26] 6 4 [29] [] 2000 [(29, [(0, .inl 0), (1, .inl 11), (2, .inr (false, [(-1, 60)])), (3, .inr (false, [(15, 15)])), (4, .inr (false, [(16, 16)]))], [], kch516),
  (29, [(0, .inl 0), (1, .inl 11), (2, .inr (false, [(1, 60)])), (3, .inr (false, [(15, 15)])), (4, .inr (false, [(17, 17)])), (5, .inr (false, [(-9, -9)]))], [], kch516),
  (29, [(0, .inl 0), (1, .inl 11), (2, .inr (false, [(1, 60)])), (3, .inr (false, [(15, 15)])), (4, .inr (false, [(18, 18)])), (5, .inr (false, [(-9, -9)]))], [], kch516),
  (29, [(0, .inl 0), (1, .inl 11), (2, .inr (false, [(1, 60)])), (3, .inr (false, [(15, 15)])), (4, .inr (false, [(19, 19)])), (5, .inr (false, [(-9, -9)]))], [], kch516)] = true := by decide +kernel
def kch599 : aw_H := [(11, kcx209)]
/-- MiceRegisters.faultOfFigure -/
def kcc912 : ak_C := (18, [.inl 11, .inr (false, [(-1, 60)]), .inr (false, [(16, 16)]), .inr (false, [(0, 0)]), .inr (false, [(0, 7)])], kch24, [], [([], some (.inr (false, [(-9, -9)])), kch599), ([], some (.inr (false, [(-1, 63)])), [])])
def kch600 : aw_H := [(11, kcx211)]
/-- MiceRegisters.faultOfFigure -/
def kcc913 : ak_C := (18, [.inl 11, .inr (false, [(-1, 60)]), .inr (false, [(17, 17)]), .inr (false, [(1, 1)]), .inr (false, [(9, 9)])], kch599, [], [([], some (.inr (false, [(-9, -9)])), kch600), ([], some (.inr (false, [(-1, 63)])), [])])
/-- MiceRegisters.readMouse -/
def kcc914 : ak_C := (19, [.inl 0, .inl 11, .inr (false, [(-1, 60)]), .inr (false, [(15, 15)])], kch514, [24, 29, 30, 31], [([], some (.inr (false, [(-1, 63)])), kch36), ([], some (.inr (false, [(-9, -9)])), kch38)])
theorem kck914 : ai_chk [kcc28, kcc912, kcc913] kcc914 (fun pc => sm_ch sm_t19 pc, sm_Kn 2 6 none, fun x => sm_lk sm_ca2 x, some .int) [24, 29, 30, 31] 6 0 [] [] 2000 [] = true := by decide +kernel
/-- MiceRegisters.readLine -/
def kcc915 : ak_C := (17, [.inl 0, .inl 11, .inr (false, [(-1, 60)]), .inr (false, [(14, 14)])], kch515, [24, 25, 26], [([[], [], [], []], some (.inr (false, [(-1, 60)])), kch40), ([[], [], [(1, 60)], []], some (.inr (false, [(-9, -9)])), kch42)])
theorem kck915 : ai_chk [kcc735] kcc915 (fun pc => sm_ch sm_t17 pc, sm_Kn 2 6 none, fun x => sm_lk sm_ca2 x, some .int) [24, 25, 26] 6 4 [29] [] 2000 [(29, [(0, .inl 0), (1, .inl 11), (2, .inr (false, [(-1, 60)])), (3, .inr (false, [(14, 14)])), (4, .inr (false, [(15, 15)]))], [], kch516),
  (29, [(0, .inl 0), (1, .inl 11), (2, .inr (false, [(1, 60)])), (3, .inr (false, [(14, 14)])), (4, .inr (false, [(16, 16)])), (5, .inr (false, [(-9, -9)]))], [], kch516),
  (29, [(0, .inl 0), (1, .inl 11), (2, .inr (false, [(1, 60)])), (3, .inr (false, [(14, 14)])), (4, .inr (false, [(17, 17)])), (5, .inr (false, [(-9, -9)]))], [], kch516),
  (29, [(0, .inl 0), (1, .inl 11), (2, .inr (false, [(1, 60)])), (3, .inr (false, [(14, 14)])), (4, .inr (false, [(18, 18)])), (5, .inr (false, [(-9, -9)]))], [], kch516)] = true := by decide +kernel
def kch601 : aw_H := [(11, kcx213)]
/-- MiceRegisters.faultOfFigure -/
def kcc916 : ak_C := (18, [.inl 11, .inr (false, [(-1, 60)]), .inr (false, [(15, 15)]), .inr (false, [(0, 0)]), .inr (false, [(0, 7)])], kch24, [], [([], some (.inr (false, [(-9, -9)])), kch601), ([], some (.inr (false, [(-1, 63)])), [])])
def kch602 : aw_H := [(11, kcx215)]
/-- MiceRegisters.faultOfFigure -/
def kcc917 : ak_C := (18, [.inl 11, .inr (false, [(-1, 60)]), .inr (false, [(16, 16)]), .inr (false, [(1, 1)]), .inr (false, [(9, 9)])], kch601, [], [([], some (.inr (false, [(-9, -9)])), kch602), ([], some (.inr (false, [(-1, 63)])), [])])
/-- MiceRegisters.readMouse -/
def kcc918 : ak_C := (19, [.inl 0, .inl 11, .inr (false, [(-1, 60)]), .inr (false, [(14, 14)])], kch514, [24, 29, 30, 31], [([], some (.inr (false, [(-1, 63)])), kch36), ([], some (.inr (false, [(-9, -9)])), kch38)])
theorem kck918 : ai_chk [kcc28, kcc916, kcc917] kcc918 (fun pc => sm_ch sm_t19 pc, sm_Kn 2 6 none, fun x => sm_lk sm_ca2 x, some .int) [24, 29, 30, 31] 6 0 [] [] 2000 [] = true := by decide +kernel
/-- MiceRegisters.readLine -/
def kcc919 : ak_C := (17, [.inl 0, .inl 11, .inr (false, [(-1, 60)]), .inr (false, [(13, 13)])], kch515, [24, 25, 26], [([[], [], [], []], some (.inr (false, [(-1, 60)])), kch40), ([[], [], [(1, 60)], []], some (.inr (false, [(-9, -9)])), kch42)])
theorem kck919 : ai_chk [kcc735] kcc919 (fun pc => sm_ch sm_t17 pc, sm_Kn 2 6 none, fun x => sm_lk sm_ca2 x, some .int) [24, 25, 26] 6 4 [29] [] 2000 [(29, [(0, .inl 0), (1, .inl 11), (2, .inr (false, [(-1, 60)])), (3, .inr (false, [(13, 13)])), (4, .inr (false, [(14, 14)]))], [], kch516),
  (29, [(0, .inl 0), (1, .inl 11), (2, .inr (false, [(1, 60)])), (3, .inr (false, [(13, 13)])), (4, .inr (false, [(15, 15)])), (5, .inr (false, [(-9, -9)]))], [], kch516),
  (29, [(0, .inl 0), (1, .inl 11), (2, .inr (false, [(1, 60)])), (3, .inr (false, [(13, 13)])), (4, .inr (false, [(16, 16)])), (5, .inr (false, [(-9, -9)]))], [], kch516),
  (29, [(0, .inl 0), (1, .inl 11), (2, .inr (false, [(1, 60)])), (3, .inr (false, [(13, 13)])), (4, .inr (false, [(17, 17)])), (5, .inr (false, [(-9, -9)]))], [], kch516)] = true := by decide +kernel
def kch603 : aw_H := [(11, kcx217)]
/-- MiceRegisters.faultOfFigure -/
def kcc920 : ak_C := (18, [.inl 11, .inr (false, [(-1, 60)]), .inr (false, [(14, 14)]), .inr (false, [(0, 0)]), .inr (false, [(0, 7)])], kch24, [], [([], some (.inr (false, [(-9, -9)])), kch603), ([], some (.inr (false, [(-1, 63)])), [])])
def kch604 : aw_H := [(11, kcx219)]
/-- MiceRegisters.faultOfFigure -/
def kcc921 : ak_C := (18, [.inl 11, .inr (false, [(-1, 60)]), .inr (false, [(15, 15)]), .inr (false, [(1, 1)]), .inr (false, [(9, 9)])], kch603, [], [([], some (.inr (false, [(-9, -9)])), kch604), ([], some (.inr (false, [(-1, 63)])), [])])
/-- MiceRegisters.readMouse -/
def kcc922 : ak_C := (19, [.inl 0, .inl 11, .inr (false, [(-1, 60)]), .inr (false, [(13, 13)])], kch514, [24, 29, 30, 31], [([], some (.inr (false, [(-1, 63)])), kch36), ([], some (.inr (false, [(-9, -9)])), kch38)])
theorem kck922 : ai_chk [kcc28, kcc920, kcc921] kcc922 (fun pc => sm_ch sm_t19 pc, sm_Kn 2 6 none, fun x => sm_lk sm_ca2 x, some .int) [24, 29, 30, 31] 6 0 [] [] 2000 [] = true := by decide +kernel
/-- MiceRegisters.readLine -/
def kcc923 : ak_C := (17, [.inl 0, .inl 11, .inr (false, [(-1, 60)]), .inr (false, [(12, 12)])], kch515, [24, 25, 26], [([[], [], [], []], some (.inr (false, [(-1, 60)])), kch40), ([[], [], [(1, 60)], []], some (.inr (false, [(-9, -9)])), kch42)])
theorem kck923 : ai_chk [kcc735] kcc923 (fun pc => sm_ch sm_t17 pc, sm_Kn 2 6 none, fun x => sm_lk sm_ca2 x, some .int) [24, 25, 26] 6 4 [29] [] 2000 [(29, [(0, .inl 0), (1, .inl 11), (2, .inr (false, [(-1, 60)])), (3, .inr (false, [(12, 12)])), (4, .inr (false, [(13, 13)]))], [], kch516),
  (29, [(0, .inl 0), (1, .inl 11), (2, .inr (false, [(1, 60)])), (3, .inr (false, [(12, 12)])), (4, .inr (false, [(14, 14)])), (5, .inr (false, [(-9, -9)]))], [], kch516),
  (29, [(0, .inl 0), (1, .inl 11), (2, .inr (false, [(1, 60)])), (3, .inr (false, [(12, 12)])), (4, .inr (false, [(15, 15)])), (5, .inr (false, [(-9, -9)]))], [], kch516),
  (29, [(0, .inl 0), (1, .inl 11), (2, .inr (false, [(1, 60)])), (3, .inr (false, [(12, 12)])), (4, .inr (false, [(16, 16)])), (5, .inr (false, [(-9, -9)]))], [], kch516)] = true := by decide +kernel
def kch605 : aw_H := [(11, kcx221)]
/-- MiceRegisters.faultOfFigure -/
def kcc924 : ak_C := (18, [.inl 11, .inr (false, [(-1, 60)]), .inr (false, [(13, 13)]), .inr (false, [(0, 0)]), .inr (false, [(0, 7)])], kch24, [], [([], some (.inr (false, [(-9, -9)])), kch605), ([], some (.inr (false, [(-1, 63)])), [])])
def kch606 : aw_H := [(11, kcx223)]
/-- MiceRegisters.faultOfFigure -/
def kcc925 : ak_C := (18, [.inl 11, .inr (false, [(-1, 60)]), .inr (false, [(14, 14)]), .inr (false, [(1, 1)]), .inr (false, [(9, 9)])], kch605, [], [([], some (.inr (false, [(-9, -9)])), kch606), ([], some (.inr (false, [(-1, 63)])), [])])
/-- MiceRegisters.readMouse -/
def kcc926 : ak_C := (19, [.inl 0, .inl 11, .inr (false, [(-1, 60)]), .inr (false, [(12, 12)])], kch514, [24, 29, 30, 31], [([], some (.inr (false, [(-1, 63)])), kch36), ([], some (.inr (false, [(-9, -9)])), kch38)])
theorem kck926 : ai_chk [kcc28, kcc924, kcc925] kcc926 (fun pc => sm_ch sm_t19 pc, sm_Kn 2 6 none, fun x => sm_lk sm_ca2 x, some .int) [24, 29, 30, 31] 6 0 [] [] 2000 [] = true := by decide +kernel
/-- MiceRegisters.readLine -/
def kcc927 : ak_C := (17, [.inl 0, .inl 11, .inr (false, [(-1, 60)]), .inr (false, [(11, 11)])], kch515, [24, 25, 26], [([[], [], [], []], some (.inr (false, [(-1, 60)])), kch40), ([[], [], [(1, 60)], []], some (.inr (false, [(-9, -9)])), kch42)])
theorem kck927 : ai_chk [kcc735] kcc927 (fun pc => sm_ch sm_t17 pc, sm_Kn 2 6 none, fun x => sm_lk sm_ca2 x, some .int) [24, 25, 26] 6 4 [29] [] 2000 [(29, [(0, .inl 0), (1, .inl 11), (2, .inr (false, [(-1, 60)])), (3, .inr (false, [(11, 11)])), (4, .inr (false, [(12, 12)]))], [], kch516),
  (29, [(0, .inl 0), (1, .inl 11), (2, .inr (false, [(1, 60)])), (3, .inr (false, [(11, 11)])), (4, .inr (false, [(13, 13)])), (5, .inr (false, [(-9, -9)]))], [], kch516),
  (29, [(0, .inl 0), (1, .inl 11), (2, .inr (false, [(1, 60)])), (3, .inr (false, [(11, 11)])), (4, .inr (false, [(14, 14)])), (5, .inr (false, [(-9, -9)]))], [], kch516),
  (29, [(0, .inl 0), (1, .inl 11), (2, .inr (false, [(1, 60)])), (3, .inr (false, [(11, 11)])), (4, .inr (false, [(15, 15)])), (5, .inr (false, [(-9, -9)]))], [], kch516)] = true := by decide +kernel
