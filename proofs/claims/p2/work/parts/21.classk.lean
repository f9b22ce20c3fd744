/-! Contracts over ranges of the class, and their checks; printed by a program of mine. -/
def kch607 : aw_H := [(11, kcx225)]
/-- MiceRegisters.faultOfFigure -/
def kcc928 : ak_C := (18, [.inl 11, .inr (false, [(-1, 60)]), .inr (false, [(12, 12)]), .inr (false, [(0, 0)]), .inr (false, [(0, 7)])], kch24, [], [([], some (.inr (false, [(-9, -9)])), kch607), ([], some (.inr (false, [(-1, 63)])), [])])
def kch608 : aw_H := [(11, kcx227)]
/-- MiceRegisters.faultOfFigure -/
def kcc929 : ak_C := (18, [.inl 11, .inr (false, [(-1, 60)]), .inr (false, [(13, 13)]), .inr (false, [(1, 1)]), .inr (false, [(9, 9)])], kch607, [], [([], some (.inr (false, [(-9, -9)])), kch608), ([], some (.inr (false, [(-1, 63)])), [])])
/-- MiceRegisters.readMouse -/
def kcc930 : ak_C := (19, [.inl 0, .inl 11, .inr (false, [(-1, 60)]), .inr (false, [(11, 11)])], kch514, [24, 29, 30, 31], [([], some (.inr (false, [(-1, 63)])), kch36), ([], some (.inr (false, [(-9, -9)])), kch38)])
theorem kck930 : ai_chk [kcc28, kcc928, kcc929] kcc930 (fun pc => sm_ch sm_t19 pc, sm_Kn 2 6 none, fun x => sm_lk sm_ca2 x, some .int) [24, 29, 30, 31] 6 0 [] [] 2000 [] = true := by decide +kernel
/-- MiceRegisters.readLine -/
def kcc931 : ak_C := (17, [.inl 0, .inl 11, .inr (false, [(-1, 60)]), .inr (false, [(10, 10)])], kch515, [24, 25, 26], [([[], [], [], []], some (.inr (false, [(-1, 60)])), kch40), ([[], [], [(1, 60)], []], some (.inr (false, [(-9, -9)])), kch42)])
theorem kck931 : ai_chk [kcc735] kcc931 (fun pc => sm_ch sm_t17 pc, sm_Kn 2 6 none, fun x => sm_lk sm_ca2 x, some .int) [24, 25, 26] 6 4 [29] [] 2000 [(29, [(0, .inl 0), (1, .inl 11), (2, .inr (false, [(-1, 60)])), (3, .inr (false, [(10, 10)])), (4, .inr (false, [(11, 11)]))], [], kch516),
  (29, [(0, .inl 0), (1, .inl 11), (2, .inr (false, [(1, 60)])), (3, .inr (false, [(10, 10)])), (4, .inr (false, [(12, 12)])), (5, .inr (false, [(-9, -9)]))], [], kch516),
  (29, [(0, .inl 0), (1, .inl 11), (2, .inr (false, [(1, 60)])), (3, .inr (false, [(10, 10)])), (4, .inr (false, [(13, 13)])), (5, .inr (false, [(-9, -9)]))], [], kch516),
  (29, [(0, .inl 0), (1, .inl 11), (2, .inr (false, [(1, 60)])), (3, .inr (false, [(10, 10)])), (4, .inr (false, [(14, 14)])), (5, .inr (false, [(-9, -9)]))], [], kch516)] = true := by decide +kernel
def kch609 : aw_H := [(11, kcx229)]
/-- MiceRegisters.faultOfFigure -/
def kcc932 : ak_C := (18, [.inl 11, .inr (false, [(-1, 60)]), .inr (false, [(11, 11)]), .inr (false, [(0, 0)]), .inr (false, [(0, 7)])], kch24, [], [([], some (.inr (false, [(-9, -9)])), kch609), ([], some (.inr (false, [(-1, 63)])), [])])
def kch610 : aw_H := [(11, kcx231)]
/-- MiceRegisters.faultOfFigure -/
def kcc933 : ak_C := (18, [.inl 11, .inr (false, [(-1, 60)]), .inr (false, [(12, 12)]), .inr (false, [(1, 1)]), .inr (false, [(9, 9)])], kch609, [], [([], some (.inr (false, [(-9, -9)])), kch610), ([], some (.inr (false, [(-1, 63)])), [])])
/-- MiceRegisters.readMouse -/
def kcc934 : ak_C := (19, [.inl 0, .inl 11, .inr (false, [(-1, 60)]), .inr (false, [(10, 10)])], kch514, [24, 29, 30, 31], [([], some (.inr (false, [(-1, 63)])), kch36), ([], some (.inr (false, [(-9, -9)])), kch38)])
theorem kck934 : ai_chk [kcc28, kcc932, kcc933] kcc934 (fun pc => sm_ch sm_t19 pc, sm_Kn 2 6 none, fun x => sm_lk sm_ca2 x, some .int) [24, 29, 30, 31] 6 0 [] [] 2000 [] = true := by decide +kernel
/-- MiceRegisters.readLine -/
def kcc935 : ak_C := (17, [.inl 0, .inl 11, .inr (false, [(-1, 60)]), .inr (false, [(9, 9)])], kch515, [24, 25, 26], [([[], [], [], []], some (.inr (false, [(-1, 60)])), kch40), ([[], [], [(1, 60)], []], some (.inr (false, [(-9, -9)])), kch42)])
theorem kck935 : ai_chk [kcc735] kcc935 (fun pc => sm_ch sm_t17 pc, sm_Kn 2 6 none, fun x => sm_lk sm_ca2 x, some .int) [24, 25, 26] 6 4 [29] [] 2000 [(29, [(0, .inl 0), (1, .inl 11), (2, .inr (false, [(-1, 60)])), (3, .inr (false, [(9, 9)])), (4, .inr (false, [(10, 10)]))], [], kch516),
  (29, [(0, .inl 0), (1, .inl 11), (2, .inr (false, [(1, 60)])), (3, .inr (false, [(9, 9)])), (4, .inr (false, [(11, 11)])), (5, .inr (false, [(-9, -9)]))], [], kch516),
  (29, [(0, .inl 0), (1, .inl 11), (2, .inr (false, [(1, 60)])), (3, .inr (false, [(9, 9)])), (4, .inr (false, [(12, 12)])), (5, .inr (false, [(-9, -9)]))], [], kch516),
  (29, [(0, .inl 0), (1, .inl 11), (2, .inr (false, [(1, 60)])), (3, .inr (false, [(9, 9)])), (4, .inr (false, [(13, 13)])), (5, .inr (false, [(-9, -9)]))], [], kch516)] = true := by decide +kernel
def kch611 : aw_H := [(11, kcx233)]
/-- MiceRegisters.faultOfFigure -/
def kcc936 : ak_C := (18, [.inl 11, .inr (false, [(-1, 60)]), .inr (false, [(10, 10)]), .inr (false, [(0, 0)]), .inr (false, [(0, 7)])], kch24, [], [([], some (.inr (false, [(-9, -9)])), kch611), ([], some (.inr (false, [(-1, 63)])), [])])
def kch612 : aw_H := [(11, kcx235)]
/-- MiceRegisters.faultOfFigure -/
def kcc937 : ak_C := (18, [.inl 11, .inr (false, [(-1, 60)]), .inr (false, [(11, 11)]), .inr (false, [(1, 1)]), .inr (false, [(9, 9)])], kch611, [], [([], some (.inr (false, [(-9, -9)])), kch612), ([], some (.inr (false, [(-1, 63)])), [])])
/-- MiceRegisters.readMouse -/
def kcc938 : ak_C := (19, [.inl 0, .inl 11, .inr (false, [(-1, 60)]), .inr (false, [(9, 9)])], kch514, [24, 29, 30, 31], [([], some (.inr (false, [(-1, 63)])), kch36), ([], some (.inr (false, [(-9, -9)])), kch38)])
theorem kck938 : ai_chk [kcc28, kcc936, kcc937] kcc938 (fun pc => sm_ch sm_t19 pc, sm_Kn 2 6 none, fun x => sm_lk sm_ca2 x, some .int) [24, 29, 30, 31] 6 0 [] [] 2000 [] = true := by decide +kernel
/-- MiceRegisters.readLine -/
def kcc939 : ak_C := (17, [.inl 0, .inl 11, .inr (false, [(-1, 60)]), .inr (false, [(8, 8)])], kch515, [24, 25, 26], [([[], [], [], []], some (.inr (false, [(-1, 60)])), kch40), ([[], [], [(1, 60)], []], some (.inr (false, [(-9, -9)])), kch42)])
theorem kck939 : ai_chk [kcc735] kcc939 (fun pc => sm_ch sm_t17 pc, sm_Kn 2 6 none, fun x => sm_lk sm_ca2 x, some .int) [24, 25, 26] 6 4 [29] [] 2000 [(29, [(0, .inl 0), (1, .inl 11), (2, .inr (false, [(-1, 60)])), (3, .inr (false, [(8, 8)])), (4, .inr (false, [(9, 9)]))], [], kch516),
  (29, [(0, .inl 0), (1, .inl 11), (2, .inr (false, [(1, 60)])), (3, .inr (false, [(8, 8)])), (4, .inr (false, [(10, 10)])), (5, .inr (false, [(-9, -9)]))], [], kch516),
  (29, [(0, .inl 0), (1, .inl 11), (2, .inr (false, [(1, 60)])), (3, .inr (false, [(8, 8)])), (4, .inr (false, [(11, 11)])), (5, .inr (false, [(-9, -9)]))], [], kch516),
  (29, [(0, .inl 0), (1, .inl 11), (2, .inr (false, [(1, 60)])), (3, .inr (false, [(8, 8)])), (4, .inr (false, [(12, 12)])), (5, .inr (false, [(-9, -9)]))], [], kch516)] = true := by decide +kernel
def kch613 : aw_H := [(11, kcx237)]
/-- MiceRegisters.faultOfFigure -/
def kcc940 : ak_C := (18, [.inl 11, .inr (false, [(-1, 60)]), .inr (false, [(9, 9)]), .inr (false, [(0, 0)]), .inr (false, [(0, 7)])], kch24, [], [([], some (.inr (false, [(-9, -9)])), kch613), ([], some (.inr (false, [(-1, 63)])), [])])
def kch614 : aw_H := [(11, kcx239)]
/-- MiceRegisters.faultOfFigure -/
def kcc941 : ak_C := (18, [.inl 11, .inr (false, [(-1, 60)]), .inr (false, [(10, 10)]), .inr (false, [(1, 1)]), .inr (false, [(9, 9)])], kch613, [], [([], some (.inr (false, [(-9, -9)])), kch614), ([], some (.inr (false, [(-1, 63)])), [])])
/-- MiceRegisters.readMouse -/
def kcc942 : ak_C := (19, [.inl 0, .inl 11, .inr (false, [(-1, 60)]), .inr (false, [(8, 8)])], kch514, [24, 29, 30, 31], [([], some (.inr (false, [(-1, 63)])), kch36), ([], some (.inr (false, [(-9, -9)])), kch38)])
theorem kck942 : ai_chk [kcc28, kcc940, kcc941] kcc942 (fun pc => sm_ch sm_t19 pc, sm_Kn 2 6 none, fun x => sm_lk sm_ca2 x, some .int) [24, 29, 30, 31] 6 0 [] [] 2000 [] = true := by decide +kernel
/-- MiceRegisters.readLine -/
def kcc943 : ak_C := (17, [.inl 0, .inl 11, .inr (false, [(-1, 60)]), .inr (false, [(7, 7)])], kch515, [24, 25, 26], [([[], [], [], []], some (.inr (false, [(-1, 60)])), kch40), ([[], [], [(1, 60)], []], some (.inr (false, [(-9, -9)])), kch42)])
theorem kck943 : ai_chk [kcc735] kcc943 (fun pc => sm_ch sm_t17 pc, sm_Kn 2 6 none, fun x => sm_lk sm_ca2 x, some .int) [24, 25, 26] 6 4 [29] [] 2000 [(29, [(0, .inl 0), (1, .inl 11), (2, .inr (false, [(-1, 60)])), (3, .inr (false, [(7, 7)])), (4, .inr (false, [(8, 8)]))], [], kch516),
  (29, [(0, .inl 0), (1, .inl 11), (2, .inr (false, [(1, 60)])), (3, .inr (false, [(7, 7)])), (4, .inr (false, [(9, 9)])), (5, .inr (false, [(-9, -9)]))], [], kch516),
  (29, [(0, .inl 0), (1, .inl 11), (2, .inr (false, [(1, 60)])), (3, .inr (false, [(7, 7)])), (4, .inr (false, [(10, 10)])), (5, .inr (false, [(-9, -9)]))], [], kch516),
  (29, [(0, .inl 0), (1, .inl 11), (2, .inr (false, [(1, 60)])), (3, .inr (false, [(7, 7)])), (4, .inr (false, [(11, 11)])), (5, .inr (false, [(-9, -9)]))], [], kch516)] = true := by decide +kernel
def kch615 : aw_H := [(11, kcx241)]
/-- MiceRegisters.faultOfFigure -/
def kcc944 : ak_C := (18, [.inl 11, .inr (false, [(-1, 60)]), .inr (false, [(8, 8)]), .inr (false, [(0, 0)]), .inr (false, [(0, 7)])], kch24, [], [([], some (.inr (false, [(-9, -9)])), kch615), ([], some (.inr (false, [(-1, 63)])), [])])
def kch616 : aw_H := [(11, kcx243)]
/-- MiceRegisters.faultOfFigure -/
def kcc945 : ak_C := (18, [.inl 11, .inr (false, [(-1, 60)]), .inr (false, [(9, 9)]), .inr (false, [(1, 1)]), .inr (false, [(9, 9)])], kch615, [], [([], some (.inr (false, [(-9, -9)])), kch616), ([], some (.inr (false, [(-1, 63)])), [])])
/-- MiceRegisters.readMouse -/
def kcc946 : ak_C := (19, [.inl 0, .inl 11, .inr (false, [(-1, 60)]), .inr (false, [(7, 7)])], kch514, [24, 29, 30, 31], [([], some (.inr (false, [(-1, 63)])), kch36), ([], some (.inr (false, [(-9, -9)])), kch38)])
theorem kck946 : ai_chk [kcc28, kcc944, kcc945] kcc946 (fun pc => sm_ch sm_t19 pc, sm_Kn 2 6 none, fun x => sm_lk sm_ca2 x, some .int) [24, 29, 30, 31] 6 0 [] [] 2000 [] = true := by decide +kernel
/-- MiceRegisters.readLine -/
def kcc947 : ak_C := (17, [.inl 0, .inl 11, .inr (false, [(-1, 60)]), .inr (false, [(6, 6)])], kch515, [24, 25, 26], [([[], [], [], []], some (.inr (false, [(-1, 60)])), kch40), ([[], [], [(1, 60)], []], some (.inr (false, [(-9, -9)])), kch42)])
theorem kck947 : ai_chk [kcc735] kcc947 (fun pc => sm_ch sm_t17 pc, sm_Kn 2 6 none, fun x => sm_lk sm_ca2 x, some .int) [24, 25, 26] 6 4 [29] [] 2000 [(29, [(0, .inl 0), (1, .inl 11), (2, .inr (false, [(-1, 60)])), (3, .inr (false, [(6, 6)])), (4, .inr (false, [(7, 7)]))], [], kch516),
  (29, [(0, .inl 0), (1, .inl 11), (2, .inr (false, [(1, 60)])), (3, .inr (false, [(6, 6)])), (4, .inr (false, [(8, 8)])), (5, .inr (false, [(-9, -9)]))], [], kch516),
  (29, [(0, .inl 0), (1, .inl 11), (2, .inr (false, [(1, 60)])), (3, .inr (false, [(6, 6)])), (4, .inr (false, [(9, 9)])), (5, .inr (false, [(-9, -9)]))], [], kch516),
  (29, [(0, .inl 0), (1, .inl 11), (2, .inr (false, [(1, 60)])), (3, .inr (false, [(6, 6)])), (4, .inr (false, [(10, 10)])), (5, .inr (false, [(-9, -9)]))], [], kch516)] = true := by decide +kernel
def kch617 : aw_H := [(11, kcx245)]
/-- MiceRegisters.faultOfFigure -/
def kcc948 : ak_C := (18, [.inl 11, .inr (false, [(-1, 60)]), .inr (false, [(7, 7)]), .inr (false, [(0, 0)]), .inr (false, [(0, 7)])], kch24, [], [([], some (.inr (false, [(-9, -9)])), kch617), ([], some (.inr (false, [(-1, 63)])), [])])
def kch618 : aw_H := [(11, kcx247)]
/-- MiceRegisters.faultOfFigure -/
def kcc949 : ak_C := (18, [.inl 11, .inr (false, [(-1, 60)]), .inr (false, [(8, 8)]), .inr (false, [(1, 1)]), .inr (false, [(9, 9)])], kch617, [], [([], some (.inr (false, [(-9, -9)])), kch618), ([], some (.inr (false, [(-1, 63)])), [])])
/-- MiceRegisters.readMouse -/
def kcc950 : ak_C := (19, [.inl 0, .inl 11, .inr (false, [(-1, 60)]), .inr (false, [(6, 6)])], kch514, [24, 29, 30, 31], [([], some (.inr (false, [(-1, 63)])), kch36), ([], some (.inr (false, [(-9, -9)])), kch38)])
theorem kck950 : ai_chk [kcc28, kcc948, kcc949] kcc950 (fun pc => sm_ch sm_t19 pc, sm_Kn 2 6 none, fun x => sm_lk sm_ca2 x, some .int) [24, 29, 30, 31] 6 0 [] [] 2000 [] = true := by decide +kernel
/-- MiceRegisters.readLine -/
def kcc951 : ak_C := (17, [.inl 0, .inl 11, .inr (false, [(-1, 60)]), .inr (false, [(5, 5)])], kch515, [24, 25, 26], [([[], [], [], []], some (.inr (false, [(-1, 60)])), kch40), ([[], [], [(1, 60)], []], some (.inr (false, [(-9, -9)])), kch42)])
theorem kck951 : ai_chk [kcc735] kcc951 (fun pc => sm_ch sm_t17 pc, sm_Kn 2 6 none, fun x => sm_lk sm_ca2 x, some .int) [24, 25, 26] 6 4 [29] [] 2000 [(29, [(0, .inl 0), (1, .inl 11), (2, .inr (false, [(-1, 60)])), (3, .inr (false, [(5, 5)])), (4, .inr (false, [(6, 6)]))], [], kch516),
  (29, [(0, .inl 0), (1, .inl 11), (2, .inr (false, [(1, 60)])), (3, .inr (false, [(5, 5)])), (4, .inr (false, [(7, 7)])), (5, .inr (false, [(-9, -9)]))], [], kch516),
  (29, [(0, .inl 0), (1, .inl 11), (2, .inr (false, [(1, 60)])), (3, .inr (false, [(5, 5)])), (4, .inr (false, [(8, 8)])), (5, .inr (false, [(-9, -9)]))], [], kch516),
  (29, [(0, .inl 0), (1, .inl 11), (2, .inr (false, [(1, 60)])), (3, .inr (false, [(5, 5)])), (4, .inr (false, [(9, 9)])), (5, .inr (false, [(-9, -9)]))], [], kch516)] = true := by decide +kernel
def kch619 : aw_H := [(11, kcx249)]
/-- MiceRegisters.faultOfFigure -/
def kcc952 : ak_C := (18, [.inl 11, .inr (false, [(-1, 60)]), .inr (false, [(6, 6)]), .inr (false, [(0, 0)]), .inr (false, [(0, 7)])], kch24, [], [([], some (.inr (false, [(-9, -9)])), kch619), ([], some (.inr (false, [(-1, 63)])), [])])
def kch620 : aw_H := [(11, kcx251)]
/-- MiceRegisters.faultOfFigure -/
def kcc953 : ak_C := (18, [.inl 11, .inr (false, [(-1, 60)]), .inr (false, [(7, 7)]), .inr (false, [(1, 1)]), .inr (false, [(9, 9)])], kch619, [], [([], some (.inr (false, [(-9, -9)])), kch620), ([], some (.inr (false, [(-1, 63)])), [])])
/-- MiceRegisters.readMouse -/
def kcc954 : ak_C := (19, [.inl 0, .inl 11, .inr (false, [(-1, 60)]), .inr (false, [(5, 5)])], kch514, [24, 29, 30, 31], [([], some (.inr (false, [(-1, 63)])), kch36), ([], some (.inr (false, [(-9, -9)])), kch38)])
theorem kck954 : ai_chk [kcc28, kcc952, kcc953] kcc954 (fun pc => sm_ch sm_t19 pc, sm_Kn 2 6 none, fun x => sm_lk sm_ca2 x, some .int) [24, 29, 30, 31] 6 0 [] [] 2000 [] = true := by decide +kernel
/-- MiceRegisters.readLine -/
def kcc955 : ak_C := (17, [.inl 0, .inl 11, .inr (false, [(-1, 60)]), .inr (false, [(4, 4)])], kch515, [24, 25, 26], [([[], [], [], []], some (.inr (false, [(-1, 60)])), kch40), ([[], [], [(1, 60)], []], some (.inr (false, [(-9, -9)])), kch42)])
theorem kck955 : ai_chk [kcc735] kcc955 (fun pc => sm_ch sm_t17 pc, sm_Kn 2 6 none, fun x => sm_lk sm_ca2 x, some .int) [24, 25, 26] 6 4 [29] [] 2000 [(29, [(0, .inl 0), (1, .inl 11), (2, .inr (false, [(-1, 60)])), (3, .inr (false, [(4, 4)])), (4, .inr (false, [(5, 5)]))], [], kch516),
  (29, [(0, .inl 0), (1, .inl 11), (2, .inr (false, [(1, 60)])), (3, .inr (false, [(4, 4)])), (4, .inr (false, [(6, 6)])), (5, .inr (false, [(-9, -9)]))], [], kch516),
  (29, [(0, .inl 0), (1, .inl 11), (2, .inr (false, [(1, 60)])), (3, .inr (false, [(4, 4)])), (4, .inr (false, [(7, 7)])), (5, .inr (false, [(-9, -9)]))], [], kch516),
  (29, [(0, .inl 0), (1, .inl 11), (2, .inr (false, [(1, 60)])), (3, .inr (false, [(4, 4)])), (4, .inr (false, [(8, 8)])), (5, .inr (false, [(-9, -9)]))], [], kch516)] = true := by decide +kernel
def kch621 : aw_H := [(11, kcx253)]
/-- MiceRegisters.faultOfFigure -/
def kcc956 : ak_C := (18, [.inl 11, .inr (false, [(-1, 60)]), .inr (false, [(5, 5)]), .inr (false, [(0, 0)]), .inr (false, [(0, 7)])], kch24, [], [([], some (.inr (false, [(-9, -9)])), kch621), ([], some (.inr (false, [(-1, 63)])), [])])
def kch622 : aw_H := [(11, kcx255)]
/-- MiceRegisters.faultOfFigure -/
def kcc957 : ak_C := (18, [.inl 11, .inr (false, [(-1, 60)]), .inr (false, [(6, 6)]), .inr (false, [(1, 1)]), .inr (false, [(9, 9)])], kch621, [], [([], some (.inr (false, [(-9, -9)])), kch622), ([], some (.inr (false, [(-1, 63)])), [])])
/-- MiceRegisters.readMouse -/
def kcc958 : ak_C := (19, [.inl 0, .inl 11, .inr (false, [(-1, 60)]), .inr (false, [(4, 4)])], kch514, [24, 29, 30, 31], [([], some (.inr (false, [(-1, 63)])), kch36), ([], some (.inr (false, [(-9, -9)])), kch38)])
theorem kck958 : ai_chk [kcc28, kcc956, kcc957] kcc958 (fun pc => sm_ch sm_t19 pc, sm_Kn 2 6 none, fun x => sm_lk sm_ca2 x, some .int) [24, 29, 30, 31] 6 0 [] [] 2000 [] = true := by decide +kernel
/-- MiceRegisters.readLine -/
def kcc959 : ak_C := (17, [.inl 0, .inl 11, .inr (false, [(-1, 60)]), .inr (false, [(3, 3)])], kch515, [24, 25, 26], [([[], [], [], []], some (.inr (false, [(-1, 60)])), kch40), ([[], [], [(1, 60)], []], some (.inr (false, [(-9, -9)])), kch42)])
theorem kck959 : ai_chk [kcc735] kcc959 (fun pc => sm_ch sm_t17 pc, sm_Kn 2 6 none, fun x => sm_lk sm_ca2 x, some .int) [24, 25, 26] 6 4 [29] [] 2000 [(29, [(0, .inl 0), (1, .inl 11), (2, .inr (false, [(-1, 60)])), (3, .inr (false, [(3, 3)])), (4, .inr (false, [(4, 4)]))], [], kch516),
  (29, [(0, .inl 0), (1, .inl 11), (2, .inr (false, [(1, 60)])), (3, .inr (false, [(3, 3)])), (4, .inr (false, [(5, 5)])), (5, .inr (false, [(-9, -9)]))], [], kch516),
  (29, [(0, .inl 0), (1, .inl 11), (2, .inr (false, [(1, 60)])), (3, .inr (false, [(3, 3)])), (4, .inr (false, [(6, 6)])), (5, .inr (false, [(-9, -9)]))], [], kch516),
  (29, [(0, .inl 0), (1, .inl 11), (2, .inr (false, [(1, 60)])), (3, .inr (false, [(3, 3)])), (4, .inr (false, [(7, 7)])), (5, .inr (false, [(-9, -9)]))], [], kch516)] = true := by decide +kernel
def kch623 : aw_H := [(11, kcx257)]
/-- MiceRegisters.faultOfFigure -/
def kcc960 : ak_C := (18, [.inl 11, .inr (false, [(-1, 60)]), .inr (false, [(4, 4)]), .inr (false, [(0, 0)]), .inr (false, [(0, 7)])], kch24, [], [([], some (.inr (false, [(-9, -9)])), kch623), ([], some (.inr (false, [(-1, 63)])), [])])
def kch624 : aw_H := [(11, kcx259)]
/-- MiceRegisters.faultOfFigure -/
def kcc961 : ak_C := (18, [.inl 11, .inr (false, [(-1, 60)]), .inr (false, [(5, 5)]), .inr (false, [(1, 1)]), .inr (false, [(9, 9)])], kch623, [], [([], some (.inr (false, [(-9, -9)])), kch624), ([], some (.inr (false, [(-1, 63)])), [])])
/-- MiceRegisters.readMouse -/
def kcc962 : ak_C := (19, [.inl 0, .inl 11, .inr (false, [(-1, 60)]), .inr (false, [(3, 3)])], kch514, [24, 29, 30, 31], [([], some (.inr (false, [(-1, 63)])), kch36), ([], some (.inr (false, [(-9, -9)])), kch38)])
theorem kck962 : ai_chk [kcc28, kcc960, kcc961] kcc962 (fun pc => sm_ch sm_t19 pc, sm_Kn 2 6 none, fun x => sm_lk sm_ca2 x, some .int) [24, 29, 30, 31] 6 0 [] [] 2000 [] = true := by decide +kernel
/-- MiceRegisters.readLine -/
def kcc963 : ak_C := (17, [.inl 0, .inl 11, .inr (false, [(-1, 60)]), .inr (false, [(2, 2)])], kch515, [24, 25, 26], [([[], [], [], []], some (.inr (false, [(-1, 60)])), kch40), ([[], [], [(1, 60)], []], some (.inr (false, [(-9, -9)])), kch42)])
theorem kck963 : ai_chk [kcc735] kcc963 (fun pc => sm_ch sm_t17 pc, sm_Kn 2 6 none, fun x => sm_lk sm_ca2 x, some .int) [24, 25, 26] 6 4 [29] [] 2000 [(29, [(0, .inl 0), (1, .inl 11), (2, .inr (false, [(-1, 60)])), (3, .inr (false, [(2, 2)])), (4, .inr (false, [(3, 3)]))], [], kch516),
  (29, [(0, .inl 0), (1, .inl 11), (2, .inr (false, [(1, 60)])), (3, .inr (false, [(2, 2)])), (4, .inr (false, [(4, 4)])), (5, .inr (false, [(-9, -9)]))], [], kch516),
  (29, [(0, .inl 0), (1, .inl 11), (2, .inr (false, [(1, 60)])), (3, .inr (false, [(2, 2)])), (4, .inr (false, [(5, 5)])), (5, .inr (false, [(-9, -9)]))], [], kch516),
  (29, [(0, .inl 0), (1, .inl 11), (2, .inr (false, [(1, 60)])), (3, .inr (false, [(2, 2)])), (4, .inr (false, [(6, 6)])), (5, .inr (false, [(-9, -9)]))], [], kch516)] = true := by decide +kernel
def kch625 : aw_H := [(11, kcx261)]
/-- MiceRegisters.faultOfFigure -/
def kcc964 : ak_C := (18, [.inl 11, .inr (false, [(-1, 60)]), .inr (false, [(3, 3)]), .inr (false, [(0, 0)]), .inr (false, [(0, 7)])], kch24, [], [([], some (.inr (false, [(-9, -9)])), kch625), ([], some (.inr (false, [(-1, 63)])), [])])
def kch626 : aw_H := [(11, kcx263)]
/-- MiceRegisters.faultOfFigure -/
def kcc965 : ak_C := (18, [.inl 11, .inr (false, [(-1, 60)]), .inr (false, [(4, 4)]), .inr (false, [(1, 1)]), .inr (false, [(9, 9)])], kch625, [], [([], some (.inr (false, [(-9, -9)])), kch626), ([], some (.inr (false, [(-1, 63)])), [])])
/-- MiceRegisters.readMouse -/
def kcc966 : ak_C := (19, [.inl 0, .inl 11, .inr (false, [(-1, 60)]), .inr (false, [(2, 2)])], kch514, [24, 29, 30, 31], [([], some (.inr (false, [(-1, 63)])), kch36), ([], some (.inr (false, [(-9, -9)])), kch38)])
theorem kck966 : ai_chk [kcc28, kcc964, kcc965] kcc966 (fun pc => sm_ch sm_t19 pc, sm_Kn 2 6 none, fun x => sm_lk sm_ca2 x, some .int) [24, 29, 30, 31] 6 0 [] [] 2000 [] = true := by decide +kernel
/-- MiceRegisters.readLine -/
def kcc967 : ak_C := (17, [.inl 0, .inl 11, .inr (false, [(-1, 60)]), .inr (false, [(1, 1)])], kch515, [24, 25, 26], [([[], [], [], []], some (.inr (false, [(-1, 60)])), kch40), ([[], [], [(1, 60)], []], some (.inr (false, [(-9, -9)])), kch42)])
theorem kck967 : ai_chk [kcc735] kcc967 (fun pc => sm_ch sm_t17 pc, sm_Kn 2 6 none, fun x => sm_lk sm_ca2 x, some .int) [24, 25, 26] 6 4 [29] [] 2000 [(29, [(0, .inl 0), (1, .inl 11), (2, .inr (false, [(-1, 60)])), (3, .inr (false, [(1, 1)])), (4, .inr (false, [(2, 2)]))], [], kch516),
  (29, [(0, .inl 0), (1, .inl 11), (2, .inr (false, [(1, 60)])), (3, .inr (false, [(1, 1)])), (4, .inr (false, [(3, 3)])), (5, .inr (false, [(-9, -9)]))], [], kch516),
  (29, [(0, .inl 0), (1, .inl 11), (2, .inr (false, [(1, 60)])), (3, .inr (false, [(1, 1)])), (4, .inr (false, [(4, 4)])), (5, .inr (false, [(-9, -9)]))], [], kch516),
  (29, [(0, .inl 0), (1, .inl 11), (2, .inr (false, [(1, 60)])), (3, .inr (false, [(1, 1)])), (4, .inr (false, [(5, 5)])), (5, .inr (false, [(-9, -9)]))], [], kch516)] = true := by decide +kernel
def kch627 : aw_H := [(11, kcx265)]
/-- MiceRegisters.faultOfFigure -/
def kcc968 : ak_C := (18, [.inl 11, .inr (false, [(-1, 60)]), .inr (false, [(2, 2)]), .inr (false, [(0, 0)]), .inr (false, [(0, 7)])], kch24, [], [([], some (.inr (false, [(-9, -9)])), kch627), ([], some (.inr (false, [(-1, 63)])), [])])
def kch628 : aw_H := [(11, kcx267)]
/-- MiceRegisters.faultOfFigure -/
def kcc969 : ak_C := (18, [.inl 11, .inr (false, [(-1, 60)]), .inr (false, [(3, 3)]), .inr (false, [(1, 1)]), .inr (false, [(9, 9)])], kch627, [], [([], some (.inr (false, [(-9, -9)])), kch628), ([], some (.inr (false, [(-1, 63)])), [])])
/-- MiceRegisters.readMouse -/
def kcc970 : ak_C := (19, [.inl 0, .inl 11, .inr (false, [(-1, 60)]), .inr (false, [(1, 1)])], kch514, [24, 29, 30, 31], [([], some (.inr (false, [(-1, 63)])), kch36), ([], some (.inr (false, [(-9, -9)])), kch38)])
theorem kck970 : ai_chk [kcc28, kcc968, kcc969] kcc970 (fun pc => sm_ch sm_t19 pc, sm_Kn 2 6 none, fun x => sm_lk sm_ca2 x, some .int) [24, 29, 30, 31] 6 0 [] [] 2000 [] = true := by decide +kernel
def kch629 : aw_H := [(24, kcx25), (25, .inr (.inl (0, 8, [], []))), (26, .inr (.inl (0, 8, [], []))), (29, .inr (.inl (0, 4, [], []))), (30, .inr (.inl (0, 4, [], []))), (31, kcx35)]
def kcx630 : aw_A := .inl (1, [.inr (false, [(0, 0)]), .inr (false, [(0, 0)]), .inr (false, ar_t32), .inr (false, ar_t32), .inr (false, ar_t32), .inl 25, .inl 26, .inl 27, .inl 28, .inl 29, .inl 30, .inl 31, .inl 32])
def kch631 : aw_H := [(24, kcx630), (25, .inr (.inl (0, 8, [], []))), (26, .inr (.inl (0, 8, [], []))), (29, .inr (.inl (0, 4, [], []))), (30, .inr (.inl (0, 4, [], []))), (31, kcx35)]
def kcx632 : aw_A := .inl (1, [.inr (false, [(0, 8)]), .inr (false, [(1, 4)]), .inr (false, ar_t32), .inr (false, ar_t32), .inr (false, ar_t32), .inl 25, .inl 26, .inl 27, .inl 28, .inl 29, .inl 30, .inl 31, .inl 32])
def kch633 : aw_H := [(24, kcx632), (25, .inr (.inl (0, 8, [], []))), (26, .inr (.inl (0, 8, [], []))), (29, .inr (.inl (0, 4, [], []))), (30, .inr (.inl (0, 4, [], []))), (31, kcx35)]
/-- MiceRegisters.readAside -/
def kch634 : aw_H := [(0, kcx2), (9, kcx14), (10, kcx17), (11, .inr (.inl (1, 60, [], []))), (12, .inr (.inl (1, 60, [], []))), (13, .inr (.inl (1, 60, [], []))), (14, .inr (.inl (1, 60, [], []))), (24, kcx25), (25, .inr (.inl (0, 8, [], []))), (26, .inr (.inl (0, 8, [], []))), (29, .inr (.inl (0, 4, [], []))), (30, .inr (.inl (0, 4, [], []))), (31, kcx35)]
def kcc971 : ak_C := (15, [.inl 0, .inr (false, [(0, 3)])], kch634, [24, 25, 26, 29, 30, 31], [([], some (.inr (false, [(-1, 63)])), kch629), ([], some (.inr (false, [(0, 0)])), kch631), ([], some (.inr (false, [(-9, -9)])), kch633)])
def kch635 : aw_H := [(0, kcx2), (9, kcx14), (10, kcx17), (11, .inr (.inl (1, 60, [], []))), (12, .inr (.inl (1, 60, [], []))), (13, .inr (.inl (1, 60, [], []))), (14, .inr (.inl (1, 60, [], []))), (24, kcx630), (25, .inr (.inl (0, 8, [], []))), (26, .inr (.inl (0, 8, [], []))), (29, .inr (.inl (0, 4, [], []))), (30, .inr (.inl (0, 4, [], []))), (31, kcx35)]
theorem kck971 : ai_chk [kcc22, kcc23, kcc24, kcc25, kcc27, kcc30, kcc31, kcc34, kcc35, kcc38, kcc39, kcc42, kcc43, kcc46, kcc47, kcc50, kcc51, kcc54, kcc55, kcc58, kcc59, kcc62, kcc63, kcc66, kcc67, kcc70, kcc71, kcc74, kcc75, kcc78, kcc79, kcc82, kcc83, kcc86, kcc87, kcc90, kcc91, kcc94, kcc95, kcc98, kcc99, kcc102, kcc103, kcc106, kcc107, kcc110, kcc111, kcc114, kcc115, kcc118, kcc119, kcc122, kcc123, kcc126, kcc127, kcc130, kcc131, kcc134, kcc135, kcc138, kcc139, kcc142, kcc143, kcc146, kcc147, kcc150, kcc151, kcc154, kcc155, kcc158, kcc159, kcc162, kcc163, kcc166, kcc167, kcc170, kcc171, kcc174, kcc175, kcc178, kcc179, kcc182, kcc183, kcc186, kcc187, kcc190, kcc191, kcc194, kcc195, kcc198, kcc199, kcc202, kcc203, kcc206, kcc207, kcc210, kcc211, kcc214, kcc215, kcc218, kcc219, kcc222, kcc223, kcc226, kcc227, kcc230, kcc231, kcc234, kcc235, kcc238, kcc239, kcc242, kcc243, kcc246, kcc247, kcc250, kcc251, kcc254, kcc255, kcc258, kcc259, kcc262, kcc264, kcc266, kcc267, kcc270, kcc271, kcc274, kcc275, kcc278, kcc279, kcc282, kcc283, kcc286, kcc287, kcc290, kcc291, kcc294, kcc295, kcc298, kcc299, kcc302, kcc303, kcc306, kcc307, kcc310, kcc311, kcc314, kcc315, kcc318, kcc319, kcc322, kcc323, kcc326, kcc327, kcc330, kcc331, kcc334, kcc335, kcc338, kcc339, kcc342, kcc343, kcc346, kcc347, kcc350, kcc351, kcc354, kcc355, kcc358, kcc359, kcc362, kcc363, kcc366, kcc367, kcc370, kcc371, kcc374, kcc375, kcc378, kcc379, kcc382, kcc383, kcc386, kcc387, kcc390, kcc391, kcc394, kcc395, kcc398, kcc399, kcc402, kcc403, kcc406, kcc407, kcc410, kcc411, kcc414, kcc415, kcc418, kcc419, kcc422, kcc423, kcc426, kcc427, kcc430, kcc431, kcc434, kcc435, kcc438, kcc439, kcc442, kcc443, kcc446, kcc447, kcc450, kcc451, kcc454, kcc455, kcc458, kcc459, kcc462, kcc463, kcc466, kcc467, kcc470, kcc471, kcc474, kcc475, kcc478, kcc479, kcc482, kcc483, kcc486, kcc487, kcc490, kcc491, kcc494, kcc495, kcc498, kcc500, kcc502, kcc503, kcc506, kcc507, kcc510, kcc511, kcc514, kcc515, kcc518, kcc519, kcc522, kcc523, kcc526, kcc527, kcc530, kcc531, kcc534, kcc535, kcc538, kcc539, kcc542, kcc543, kcc546, kcc547, kcc550, kcc551, kcc554, kcc555, kcc558, kcc559, kcc562, kcc563, kcc566, kcc567, kcc570, kcc571, kcc574, kcc575, kcc578, kcc579, kcc582, kcc583, kcc586, kcc587, kcc590, kcc591, kcc594, kcc595, kcc598, kcc599, kcc602, kcc603, kcc606, kcc607, kcc610, kcc611, kcc614, kcc615, kcc618, kcc619, kcc622, kcc623, kcc626, kcc627, kcc630, kcc631, kcc634, kcc635, kcc638, kcc639, kcc642, kcc643, kcc646, kcc647, kcc650, kcc651, kcc654, kcc655, kcc658, kcc659, kcc662, kcc663, kcc666, kcc667, kcc670, kcc671, kcc674, kcc675, kcc678, kcc679, kcc682, kcc683, kcc686, kcc687, kcc690, kcc691, kcc694, kcc695, kcc698, kcc699, kcc702, kcc703, kcc706, kcc707, kcc710, kcc711, kcc714, kcc715, kcc718, kcc719, kcc722, kcc723, kcc726, kcc727, kcc730, kcc731, kcc734, kcc736, kcc738, kcc739, kcc742, kcc743, kcc746, kcc747, kcc750, kcc751, kcc754, kcc755, kcc758, kcc759, kcc762, kcc763, kcc766, kcc767, kcc770, kcc771, kcc774, kcc775, kcc778, kcc779, kcc782, kcc783, kcc786, kcc787, kcc790, kcc791, kcc794, kcc795, kcc798, kcc799, kcc802, kcc803, kcc806, kcc807, kcc810, kcc811, kcc814, kcc815, kcc818, kcc819, kcc822, kcc823, kcc826, kcc827, kcc830, kcc831, kcc834, kcc835, kcc838, kcc839, kcc842, kcc843, kcc846, kcc847, kcc850, kcc851, kcc854, kcc855, kcc858, kcc859, kcc862, kcc863, kcc866, kcc867, kcc870, kcc871, kcc874, kcc875, kcc878, kcc879, kcc882, kcc883, kcc886, kcc887, kcc890, kcc891, kcc894, kcc895, kcc898, kcc899, kcc902, kcc903, kcc906, kcc907, kcc910, kcc911, kcc914, kcc915, kcc918, kcc919, kcc922, kcc923, kcc926, kcc927, kcc930, kcc931, kcc934, kcc935, kcc938, kcc939, kcc942, kcc943, kcc946, kcc947, kcc950, kcc951, kcc954, kcc955, kcc958, kcc959, kcc962, kcc963, kcc966, kcc967, kcc970] kcc971 (fun pc => sm_ch sm_t15 pc, sm_Kn 2 7 none, fun x => sm_lk sm_ca2 x, some .int) [24, 25, 26, 29, 30, 31] 7 0 [58] [(37, some (0, 4, 0), 0, 61)] 2000 [(58, [(0, .inl 0), (1, .inr (false, [(3, 3)])), (2, .inl 14), (3, .inr (false, [(1, 60)])), (4, .inr (false, [(1, 1)]))], [], kch635),
  (58, [(0, .inl 0), (1, .inr (false, [(2, 2)])), (2, .inl 13), (3, .inr (false, [(1, 60)])), (4, .inr (false, [(1, 1)]))], [], kch635),
  (58, [(0, .inl 0), (1, .inr (false, [(2, 2)])), (2, .inl 13), (3, .inr (false, [(2, 60)])), (4, .inr (false, [(2, 2)]))], [], kch635),
  (58, [(0, .inl 0), (1, .inr (false, [(1, 1)])), (2, .inl 12), (3, .inr (false, [(1, 60)])), (4, .inr (false, [(1, 1)]))], [], kch635),
  (58, [(0, .inl 0), (1, .inr (false, [(1, 1)])), (2, .inl 12), (3, .inr (false, [(2, 60)])), (4, .inr (false, [(2, 2)]))], [], kch635),
  (58, [(0, .inl 0), (1, .inr (false, [(1, 1)])), (2, .inl 12), (3, .inr (false, [(3, 60)])), (4, .inr (false, [(3, 3)]))], [], kch635),
  (58, [(0, .inl 0), (1, .inr (false, [(1, 1)])), (2, .inl 12), (3, .inr (false, [(2, 60)])), (4, .inr (false, [(4, 4)]))], [], kch634),
  (58, [(0, .inl 0), (1, .inr (false, [(1, 1)])), (2, .inl 12), (3, .inr (false, [(2, 60)])), (4, .inr (false, [(5, 5)]))], [], kch634),
  (58, [(0, .inl 0), (1, .inr (false, [(1, 1)])), (2, .inl 12), (3, .inr (false, [(3, 60)])), (4, .inr (false, [(6, 6)]))], [], kch634),
  (58, [(0, .inl 0), (1, .inr (false, [(2, 2)])), (2, .inl 13), (3, .inr (false, [(3, 60)])), (4, .inr (false, [(3, 3)]))], [], kch635),
  (58, [(0, .inl 0), (1, .inr (false, [(2, 2)])), (2, .inl 13), (3, .inr (false, [(2, 60)])), (4, .inr (false, [(4, 4)]))], [], kch634),
  (58, [(0, .inl 0), (1, .inr (false, [(2, 2)])), (2, .inl 13), (3, .inr (false, [(2, 60)])), (4, .inr (false, [(5, 5)]))], [], kch634),
  (58, [(0, .inl 0), (1, .inr (false, [(2, 2)])), (2, .inl 13), (3, .inr (false, [(3, 60)])), (4, .inr (false, [(6, 6)]))], [], kch634),
  (58, [(0, .inl 0), (1, .inr (false, [(0, 0)])), (2, .inl 11), (3, .inr (false, [(1, 60)])), (4, .inr (false, [(1, 1)]))], [], kch635),
  (58, [(0, .inl 0), (1, .inr (false, [(0, 0)])), (2, .inl 11), (3, .inr (false, [(2, 60)])), (4, .inr (false, [(2, 2)]))], [], kch635),
  (58, [(0, .inl 0), (1, .inr (false, [(0, 0)])), (2, .inl 11), (3, .inr (false, [(3, 60)])), (4, .inr (false, [(3, 3)]))], [], kch635),
  (58, [(0, .inl 0), (1, .inr (false, [(0, 0)])), (2, .inl 11), (3, .inr (false, [(2, 60)])), (4, .inr (false, [(4, 4)]))], [], kch634),
  (58, [(0, .inl 0), (1, .inr (false, [(0, 0)])), (2, .inl 11), (3, .inr (false, [(2, 60)])), (4, .inr (false, [(5, 5)]))], [], kch634),
  (58, [(0, .inl 0), (1, .inr (false, [(0, 0)])), (2, .inl 11), (3, .inr (false, [(3, 60)])), (4, .inr (false, [(6, 6)]))], [], kch634),
  (58, [(0, .inl 0), (1, .inr (false, [(0, 0)])), (2, .inl 11), (3, .inr (false, [(4, 60)])), (4, .inr (false, [(7, 7)]))], [], kch634),
  (58, [(0, .inl 0), (1, .inr (false, [(0, 0)])), (2, .inl 11), (3, .inr (false, [(5, 60)])), (4, .inr (false, [(8, 8)]))], [], kch634),
  (58, [(0, .inl 0), (1, .inr (false, [(0, 0)])), (2, .inl 11), (3, .inr (false, [(6, 60)])), (4, .inr (false, [(9, 9)]))], [], kch634),
  (58, [(0, .inl 0), (1, .inr (false, [(0, 0)])), (2, .inl 11), (3, .inr (false, [(7, 60)])), (4, .inr (false, [(10, 10)]))], [], kch634),
  (58, [(0, .inl 0), (1, .inr (false, [(0, 0)])), (2, .inl 11), (3, .inr (false, [(8, 60)])), (4, .inr (false, [(11, 11)]))], [], kch634),
  (58, [(0, .inl 0), (1, .inr (false, [(0, 0)])), (2, .inl 11), (3, .inr (false, [(9, 60)])), (4, .inr (false, [(12, 12)]))], [], kch634),
  (58, [(0, .inl 0), (1, .inr (false, [(0, 0)])), (2, .inl 11), (3, .inr (false, [(10, 60)])), (4, .inr (false, [(13, 13)]))], [], kch634),
  (58, [(0, .inl 0), (1, .inr (false, [(0, 0)])), (2, .inl 11), (3, .inr (false, [(11, 60)])), (4, .inr (false, [(14, 14)]))], [], kch634),
  (58, [(0, .inl 0), (1, .inr (false, [(0, 0)])), (2, .inl 11), (3, .inr (false, [(12, 60)])), (4, .inr (false, [(15, 15)]))], [], kch634),
  (58, [(0, .inl 0), (1, .inr (false, [(0, 0)])), (2, .inl 11), (3, .inr (false, [(13, 60)])), (4, .inr (false, [(16, 16)]))], [], kch634),
  (58, [(0, .inl 0), (1, .inr (false, [(0, 0)])), (2, .inl 11), (3, .inr (false, [(14, 60)])), (4, .inr (false, [(17, 17)]))], [], kch634),
  (58, [(0, .inl 0), (1, .inr (false, [(0, 0)])), (2, .inl 11), (3, .inr (false, [(15, 60)])), (4, .inr (false, [(18, 18)]))], [], kch634),
  (58, [(0, .inl 0), (1, .inr (false, [(0, 0)])), (2, .inl 11), (3, .inr (false, [(16, 60)])), (4, .inr (false, [(19, 19)]))], [], kch634),
  (58, [(0, .inl 0), (1, .inr (false, [(0, 0)])), (2, .inl 11), (3, .inr (false, [(17, 60)])), (4, .inr (false, [(20, 20)]))], [], kch634),
  (58, [(0, .inl 0), (1, .inr (false, [(0, 0)])), (2, .inl 11), (3, .inr (false, [(18, 60)])), (4, .inr (false, [(21, 21)]))], [], kch634),
  (58, [(0, .inl 0), (1, .inr (false, [(0, 0)])), (2, .inl 11), (3, .inr (false, [(19, 60)])), (4, .inr (false, [(22, 22)]))], [], kch634),
  (58, [(0, .inl 0), (1, .inr (false, [(0, 0)])), (2, .inl 11), (3, .inr (false, [(20, 60)])), (4, .inr (false, [(23, 23)]))], [], kch634),
  (58, [(0, .inl 0), (1, .inr (false, [(0, 0)])), (2, .inl 11), (3, .inr (false, [(21, 60)])), (4, .inr (false, [(24, 24)]))], [], kch634),
  (58, [(0, .inl 0), (1, .inr (false, [(0, 0)])), (2, .inl 11), (3, .inr (false, [(22, 60)])), (4, .inr (false, [(25, 25)]))], [], kch634),
  (58, [(0, .inl 0), (1, .inr (false, [(0, 0)])), (2, .inl 11), (3, .inr (false, [(23, 60)])), (4, .inr (false, [(26, 26)]))], [], kch634),
  (58, [(0, .inl 0), (1, .inr (false, [(0, 0)])), (2, .inl 11), (3, .inr (false, [(24, 60)])), (4, .inr (false, [(27, 27)]))], [], kch634),
  (58, [(0, .inl 0), (1, .inr (false, [(0, 0)])), (2, .inl 11), (3, .inr (false, [(25, 60)])), (4, .inr (false, [(28, 28)]))], [], kch634),
  (58, [(0, .inl 0), (1, .inr (false, [(0, 0)])), (2, .inl 11), (3, .inr (false, [(26, 60)])), (4, .inr (false, [(29, 29)]))], [], kch634),
  (58, [(0, .inl 0), (1, .inr (false, [(0, 0)])), (2, .inl 11), (3, .inr (false, [(27, 60)])), (4, .inr (false, [(30, 30)]))], [], kch634),
  (58, [(0, .inl 0), (1, .inr (false, [(0, 0)])), (2, .inl 11), (3, .inr (false, [(28, 60)])), (4, .inr (false, [(31, 31)]))], [], kch634),
  (58, [(0, .inl 0), (1, .inr (false, [(0, 0)])), (2, .inl 11), (3, .inr (false, [(29, 60)])), (4, .inr (false, [(32, 32)]))], [], kch634),
  (58, [(0, .inl 0), (1, .inr (false, [(0, 0)])), (2, .inl 11), (3, .inr (false, [(30, 60)])), (4, .inr (false, [(33, 33)]))], [], kch634),
  (58, [(0, .inl 0), (1, .inr (false, [(2, 2)])), (2, .inl 13), (3, .inr (false, [(4, 60)])), (4, .inr (false, [(7, 7)]))], [], kch634),
  (58, [(0, .inl 0), (1, .inr (false, [(2, 2)])), (2, .inl 13), (3, .inr (false, [(5, 60)])), (4, .inr (false, [(8, 8)]))], [], kch634),
  (58, [(0, .inl 0), (1, .inr (false, [(2, 2)])), (2, .inl 13), (3, .inr (false, [(6, 60)])), (4, .inr (false, [(9, 9)]))], [], kch634),
  (58, [(0, .inl 0), (1, .inr (false, [(2, 2)])), (2, .inl 13), (3, .inr (false, [(7, 60)])), (4, .inr (false, [(10, 10)]))], [], kch634),
  (58, [(0, .inl 0), (1, .inr (false, [(2, 2)])), (2, .inl 13), (3, .inr (false, [(8, 60)])), (4, .inr (false, [(11, 11)]))], [], kch634),
  (58, [(0, .inl 0), (1, .inr (false, [(0, 0)])), (2, .inl 11), (3, .inr (false, [(31, 60)])), (4, .inr (false, [(34, 34)]))], [], kch634),
  (58, [(0, .inl 0), (1, .inr (false, [(0, 0)])), (2, .inl 11), (3, .inr (false, [(32, 60)])), (4, .inr (false, [(35, 35)]))], [], kch634),
  (58, [(0, .inl 0), (1, .inr (false, [(0, 0)])), (2, .inl 11), (3, .inr (false, [(33, 60)])), (4, .inr (false, [(36, 36)]))], [], kch634),
  (58, [(0, .inl 0), (1, .inr (false, [(0, 0)])), (2, .inl 11), (3, .inr (false, [(34, 60)])), (4, .inr (false, [(37, 37)]))], [], kch634),
  (58, [(0, .inl 0), (1, .inr (false, [(0, 0)])), (2, .inl 11), (3, .inr (false, [(35, 60)])), (4, .inr (false, [(38, 38)]))], [], kch634),
  (58, [(0, .inl 0), (1, .inr (false, [(0, 0)])), (2, .inl 11), (3, .inr (false, [(36, 60)])), (4, .inr (false, [(39, 39)]))], [], kch634),
  (58, [(0, .inl 0), (1, .inr (false, [(0, 0)])), (2, .inl 11), (3, .inr (false, [(37, 60)])), (4, .inr (false, [(40, 40)]))], [], kch634),
  (58, [(0, .inl 0), (1, .inr (false, [(0, 0)])), (2, .inl 11), (3, .inr (false, [(38, 60)])), (4, .inr (false, [(41, 41)]))], [], kch634),
  (58, [(0, .inl 0), (1, .inr (false, [(0, 0)])), (2, .inl 11), (3, .inr (false, [(39, 60)])), (4, .inr (false, [(42, 42)]))], [], kch634),
  (58, [(0, .inl 0), (1, .inr (false, [(0, 0)])), (2, .inl 11), (3, .inr (false, [(40, 60)])), (4, .inr (false, [(43, 43)]))], [], kch634),
  (58, [(0, .inl 0), (1, .inr (false, [(0, 0)])), (2, .inl 11), (3, .inr (false, [(41, 60)])), (4, .inr (false, [(44, 44)]))], [], kch634),
  (58, [(0, .inl 0), (1, .inr (false, [(0, 0)])), (2, .inl 11), (3, .inr (false, [(42, 60)])), (4, .inr (false, [(45, 45)]))], [], kch634),
  (58, [(0, .inl 0), (1, .inr (false, [(0, 0)])), (2, .inl 11), (3, .inr (false, [(43, 60)])), (4, .inr (false, [(46, 46)]))], [], kch634),
  (58, [(0, .inl 0), (1, .inr (false, [(0, 0)])), (2, .inl 11), (3, .inr (false, [(44, 60)])), (4, .inr (false, [(47, 47)]))], [], kch634),
  (58, [(0, .inl 0), (1, .inr (false, [(0, 0)])), (2, .inl 11), (3, .inr (false, [(45, 60)])), (4, .inr (false, [(48, 48)]))], [], kch634),
  (58, [(0, .inl 0), (1, .inr (false, [(0, 0)])), (2, .inl 11), (3, .inr (false, [(46, 60)])), (4, .inr (false, [(49, 49)]))], [], kch634),
  (58, [(0, .inl 0), (1, .inr (false, [(0, 0)])), (2, .inl 11), (3, .inr (false, [(47, 60)])), (4, .inr (false, [(50, 50)]))], [], kch634),
  (58, [(0, .inl 0), (1, .inr (false, [(0, 0)])), (2, .inl 11), (3, .inr (false, [(48, 60)])), (4, .inr (false, [(51, 51)]))], [], kch634),
  (58, [(0, .inl 0), (1, .inr (false, [(0, 0)])), (2, .inl 11), (3, .inr (false, [(49, 60)])), (4, .inr (false, [(52, 52)]))], [], kch634),
  (58, [(0, .inl 0), (1, .inr (false, [(0, 0)])), (2, .inl 11), (3, .inr (false, [(50, 60)])), (4, .inr (false, [(53, 53)]))], [], kch634),
  (58, [(0, .inl 0), (1, .inr (false, [(0, 0)])), (2, .inl 11), (3, .inr (false, [(51, 60)])), (4, .inr (false, [(54, 54)]))], [], kch634),
  (58, [(0, .inl 0), (1, .inr (false, [(0, 0)])), (2, .inl 11), (3, .inr (false, [(52, 60)])), (4, .inr (false, [(55, 55)]))], [], kch634),
  (58, [(0, .inl 0), (1, .inr (false, [(0, 0)])), (2, .inl 11), (3, .inr (false, [(53, 60)])), (4, .inr (false, [(56, 56)]))], [], kch634),
  (58, [(0, .inl 0), (1, .inr (false, [(0, 0)])), (2, .inl 11), (3, .inr (false, [(54, 60)])), (4, .inr (false, [(57, 57)]))], [], kch634),
  (58, [(0, .inl 0), (1, .inr (false, [(0, 0)])), (2, .inl 11), (3, .inr (false, [(55, 60)])), (4, .inr (false, [(58, 58)]))], [], kch634),
  (58, [(0, .inl 0), (1, .inr (false, [(0, 0)])), (2, .inl 11), (3, .inr (false, [(56, 60)])), (4, .inr (false, [(59, 59)]))], [], kch634),
  (58, [(0, .inl 0), (1, .inr (false, [(0, 0)])), (2, .inl 11), (3, .inr (false, [(57, 60)])), (4, .inr (false, [(60, 60)]))], [], kch634),
  (58, [(0, .inl 0), (1, .inr (false, [(1, 1)])), (2, .inl 12), (3, .inr (false, [(4, 60)])), (4, .inr (false, [(7, 7)]))], [], kch634),
  (58, [(0, .inl 0), (1, .inr (false, [(1, 1)])), (2, .inl 12), (3, .inr (false, [(5, 60)])), (4, .inr (false, [(8, 8)]))], [], kch634),
  (58, [(0, .inl 0), (1, .inr (false, [(1, 1)])), (2, .inl 12), (3, .inr (false, [(6, 60)])), (4, .inr (false, [(9, 9)]))], [], kch634),
  (58, [(0, .inl 0), (1, .inr (false, [(1, 1)])), (2, .inl 12), (3, .inr (false, [(7, 60)])), (4, .inr (false, [(10, 10)]))], [], kch634),
  (58, [(0, .inl 0), (1, .inr (false, [(1, 1)])), (2, .inl 12), (3, .inr (false, [(8, 60)])), (4, .inr (false, [(11, 11)]))], [], kch634),
  (58, [(0, .inl 0), (1, .inr (false, [(1, 1)])), (2, .inl 12), (3, .inr (false, [(9, 60)])), (4, .inr (false, [(12, 12)]))], [], kch634),
  (58, [(0, .inl 0), (1, .inr (false, [(1, 1)])), (2, .inl 12), (3, .inr (false, [(10, 60)])), (4, .inr (false, [(13, 13)]))], [], kch634),
  (58, [(0, .inl 0), (1, .inr (false, [(1, 1)])), (2, .inl 12), (3, .inr (false, [(11, 60)])), (4, .inr (false, [(14, 14)]))], [], kch634),
  (58, [(0, .inl 0), (1, .inr (false, [(1, 1)])), (2, .inl 12), (3, .inr (false, [(12, 60)])), (4, .inr (false, [(15, 15)]))], [], kch634),
  (58, [(0, .inl 0), (1, .inr (false, [(1, 1)])), (2, .inl 12), (3, .inr (false, [(13, 60)])), (4, .inr (false, [(16, 16)]))], [], kch634),
  (58, [(0, .inl 0), (1, .inr (false, [(1, 1)])), (2, .inl 12), (3, .inr (false, [(14, 60)])), (4, .inr (false, [(17, 17)]))], [], kch634),
  (58, [(0, .inl 0), (1, .inr (false, [(1, 1)])), (2, .inl 12), (3, .inr (false, [(15, 60)])), (4, .inr (false, [(18, 18)]))], [], kch634),
  (58, [(0, .inl 0), (1, .inr (false, [(1, 1)])), (2, .inl 12), (3, .inr (false, [(16, 60)])), (4, .inr (false, [(19, 19)]))], [], kch634),
  (58, [(0, .inl 0), (1, .inr (false, [(1, 1)])), (2, .inl 12), (3, .inr (false, [(17, 60)])), (4, .inr (false, [(20, 20)]))], [], kch634),
  (58, [(0, .inl 0), (1, .inr (false, [(1, 1)])), (2, .inl 12), (3, .inr (false, [(18, 60)])), (4, .inr (false, [(21, 21)]))], [], kch634),
  (58, [(0, .inl 0), (1, .inr (false, [(1, 1)])), (2, .inl 12), (3, .inr (false, [(19, 60)])), (4, .inr (false, [(22, 22)]))], [], kch634),
  (58, [(0, .inl 0), (1, .inr (false, [(1, 1)])), (2, .inl 12), (3, .inr (false, [(20, 60)])), (4, .inr (false, [(23, 23)]))], [], kch634),
  (58, [(0, .inl 0), (1, .inr (false, [(2, 2)])), (2, .inl 13), (3, .inr (false, [(9, 60)])), (4, .inr (false, [(12, 12)]))], [], kch634),
  (58, [(0, .inl 0), (1, .inr (false, [(2, 2)])), (2, .inl 13), (3, .inr (false, [(10, 60)])), (4, .inr (false, [(13, 13)]))], [], kch634),
  (58, [(0, .inl 0), (1, .inr (false, [(2, 2)])), (2, .inl 13), (3, .inr (false, [(11, 60)])), (4, .inr (false, [(14, 14)]))], [], kch634),
  (58, [(0, .inl 0), (1, .inr (false, [(2, 2)])), (2, .inl 13), (3, .inr (false, [(12, 60)])), (4, .inr (false, [(15, 15)]))], [], kch634),
  (58, [(0, .inl 0), (1, .inr (false, [(2, 2)])), (2, .inl 13), (3, .inr (false, [(13, 60)])), (4, .inr (false, [(16, 16)]))], [], kch634),
  (58, [(0, .inl 0), (1, .inr (false, [(2, 2)])), (2, .inl 13), (3, .inr (false, [(14, 60)])), (4, .inr (false, [(17, 17)]))], [], kch634),
  (58, [(0, .inl 0), (1, .inr (false, [(2, 2)])), (2, .inl 13), (3, .inr (false, [(15, 60)])), (4, .inr (false, [(18, 18)]))], [], kch634),
  (58, [(0, .inl 0), (1, .inr (false, [(2, 2)])), (2, .inl 13), (3, .inr (false, [(16, 60)])), (4, .inr (false, [(19, 19)]))], [], kch634),
  (58, [(0, .inl 0), (1, .inr (false, [(2, 2)])), (2, .inl 13), (3, .inr (false, [(17, 60)])), (4, .inr (false, [(20, 20)]))], [], kch634),
  (58, [(0, .inl 0), (1, .inr (false, [(2, 2)])), (2, .inl 13), (3, .inr (false, [(18, 60)])), (4, .inr (false, [(21, 21)]))], [], kch634),
  (58, [(0, .inl 0), (1, .inr (false, [(2, 2)])), (2, .inl 13), (3, .inr (false, [(19, 60)])), (4, .inr (false, [(22, 22)]))], [], kch634),
  (58, [(0, .inl 0), (1, .inr (false, [(2, 2)])), (2, .inl 13), (3, .inr (false, [(20, 60)])), (4, .inr (false, [(23, 23)]))], [], kch634),
  (58, [(0, .inl 0), (1, .inr (false, [(2, 2)])), (2, .inl 13), (3, .inr (false, [(21, 60)])), (4, .inr (false, [(24, 24)]))], [], kch634),
  (58, [(0, .inl 0), (1, .inr (false, [(2, 2)])), (2, .inl 13), (3, .inr (false, [(22, 60)])), (4, .inr (false, [(25, 25)]))], [], kch634),
  (58, [(0, .inl 0), (1, .inr (false, [(2, 2)])), (2, .inl 13), (3, .inr (false, [(23, 60)])), (4, .inr (false, [(26, 26)]))], [], kch634),
  (58, [(0, .inl 0), (1, .inr (false, [(2, 2)])), (2, .inl 13), (3, .inr (false, [(24, 60)])), (4, .inr (false, [(27, 27)]))], [], kch634),
  (58, [(0, .inl 0), (1, .inr (false, [(2, 2)])), (2, .inl 13), (3, .inr (false, [(25, 60)])), (4, .inr (false, [(28, 28)]))], [], kch634),
  (58, [(0, .inl 0), (1, .inr (false, [(2, 2)])), (2, .inl 13), (3, .inr (false, [(26, 60)])), (4, .inr (false, [(29, 29)]))], [], kch634),
  (58, [(0, .inl 0), (1, .inr (false, [(1, 1)])), (2, .inl 12), (3, .inr (false, [(21, 60)])), (4, .inr (false, [(24, 24)]))], [], kch634),
  (58, [(0, .inl 0), (1, .inr (false, [(1, 1)])), (2, .inl 12), (3, .inr (false, [(22, 60)])), (4, .inr (false, [(25, 25)]))], [], kch634),
  (58, [(0, .inl 0), (1, .inr (false, [(1, 1)])), (2, .inl 12), (3, .inr (false, [(23, 60)])), (4, .inr (false, [(26, 26)]))], [], kch634),
  (58, [(0, .inl 0), (1, .inr (false, [(1, 1)])), (2, .inl 12), (3, .inr (false, [(24, 60)])), (4, .inr (false, [(27, 27)]))], [], kch634),
  (58, [(0, .inl 0), (1, .inr (false, [(1, 1)])), (2, .inl 12), (3, .inr (false, [(25, 60)])), (4, .inr (false, [(28, 28)]))], [], kch634),
  (58, [(0, .inl 0), (1, .inr (false, [(1, 1)])), (2, .inl 12), (3, .inr (false, [(26, 60)])), (4, .inr (false, [(29, 29)]))], [], kch634),
  (58, [(0, .inl 0), (1, .inr (false, [(1, 1)])), (2, .inl 12), (3, .inr (false, [(27, 60)])), (4, .inr (false, [(30, 30)]))], [], kch634),
  (58, [(0, .inl 0), (1, .inr (false, [(1, 1)])), (2, .inl 12), (3, .inr (false, [(28, 60)])), (4, .inr (false, [(31, 31)]))], [], kch634),
  (58, [(0, .inl 0), (1, .inr (false, [(1, 1)])), (2, .inl 12), (3, .inr (false, [(29, 60)])), (4, .inr (false, [(32, 32)]))], [], kch634),
  (58, [(0, .inl 0), (1, .inr (false, [(1, 1)])), (2, .inl 12), (3, .inr (false, [(30, 60)])), (4, .inr (false, [(33, 33)]))], [], kch634),
  (58, [(0, .inl 0), (1, .inr (false, [(1, 1)])), (2, .inl 12), (3, .inr (false, [(31, 60)])), (4, .inr (false, [(34, 34)]))], [], kch634),
  (58, [(0, .inl 0), (1, .inr (false, [(1, 1)])), (2, .inl 12), (3, .inr (false, [(32, 60)])), (4, .inr (false, [(35, 35)]))], [], kch634),
  (58, [(0, .inl 0), (1, .inr (false, [(1, 1)])), (2, .inl 12), (3, .inr (false, [(33, 60)])), (4, .inr (false, [(36, 36)]))], [], kch634),
  (58, [(0, .inl 0), (1, .inr (false, [(1, 1)])), (2, .inl 12), (3, .inr (false, [(34, 60)])), (4, .inr (false, [(37, 37)]))], [], kch634),
  (58, [(0, .inl 0), (1, .inr (false, [(1, 1)])), (2, .inl 12), (3, .inr (false, [(35, 60)])), (4, .inr (false, [(38, 38)]))], [], kch634),
  (58, [(0, .inl 0), (1, .inr (false, [(1, 1)])), (2, .inl 12), (3, .inr (false, [(36, 60)])), (4, .inr (false, [(39, 39)]))], [], kch634),
  (58, [(0, .inl 0), (1, .inr (false, [(1, 1)])), (2, .inl 12), (3, .inr (false, [(37, 60)])), (4, .inr (false, [(40, 40)]))], [], kch634),
  (58, [(0, .inl 0), (1, .inr (false, [(1, 1)])), (2, .inl 12), (3, .inr (false, [(38, 60)])), (4, .inr (false, [(41, 41)]))], [], kch634),
  (58, [(0, .inl 0), (1, .inr (false, [(1, 1)])), (2, .inl 12), (3, .inr (false, [(39, 60)])), (4, .inr (false, [(42, 42)]))], [], kch634),
  (58, [(0, .inl 0), (1, .inr (false, [(1, 1)])), (2, .inl 12), (3, .inr (false, [(40, 60)])), (4, .inr (false, [(43, 43)]))], [], kch634),
  (58, [(0, .inl 0), (1, .inr (false, [(1, 1)])), (2, .inl 12), (3, .inr (false, [(41, 60)])), (4, .inr (false, [(44, 44)]))], [], kch634),
  (58, [(0, .inl 0), (1, .inr (false, [(1, 1)])), (2, .inl 12), (3, .inr (false, [(42, 60)])), (4, .inr (false, [(45, 45)]))], [], kch634),
  (58, [(0, .inl 0), (1, .inr (false, [(1, 1)])), (2, .inl 12), (3, .inr (false, [(43, 60)])), (4, .inr (false, [(46, 46)]))], [], kch634),
  (58, [(0, .inl 0), (1, .inr (false, [(1, 1)])), (2, .inl 12), (3, .inr (false, [(44, 60)])), (4, .inr (false, [(47, 47)]))], [], kch634),
  (58, [(0, .inl 0), (1, .inr (false, [(1, 1)])), (2, .inl 12), (3, .inr (false, [(45, 60)])), (4, .inr (false, [(48, 48)]))], [], kch634),
  (58, [(0, .inl 0), (1, .inr (false, [(1, 1)])), (2, .inl 12), (3, .inr (false, [(46, 60)])), (4, .inr (false, [(49, 49)]))], [], kch634),
  (58, [(0, .inl 0), (1, .inr (false, [(1, 1)])), (2, .inl 12), (3, .inr (false, [(47, 60)])), (4, .inr (false, [(50, 50)]))], [], kch634),
  (58, [(0, .inl 0), (1, .inr (false, [(1, 1)])), (2, .inl 12), (3, .inr (false, [(48, 60)])), (4, .inr (false, [(51, 51)]))], [], kch634),
  (58, [(0, .inl 0), (1, .inr (false, [(1, 1)])), (2, .inl 12), (3, .inr (false, [(49, 60)])), (4, .inr (false, [(52, 52)]))], [], kch634),
  (58, [(0, .inl 0), (1, .inr (false, [(1, 1)])), (2, .inl 12), (3, .inr (false, [(50, 60)])), (4, .inr (false, [(53, 53)]))], [], kch634),
  (58, [(0, .inl 0), (1, .inr (false, [(1, 1)])), (2, .inl 12), (3, .inr (false, [(51, 60)])), (4, .inr (false, [(54, 54)]))], [], kch634),
  (58, [(0, .inl 0), (1, .inr (false, [(1, 1)])), (2, .inl 12), (3, .inr (false, [(52, 60)])), (4, .inr (false, [(55, 55)]))], [], kch634),
  (58, [(0, .inl 0), (1, .inr (false, [(1, 1)])), (2, .inl 12), (3, .inr (false, [(53, 60)])), (4, .inr (false, [(56, 56)]))], [], kch634),
  (58, [(0, .inl 0), (1, .inr (false, [(1, 1)])), (2, .inl 12), (3, .inr (false, [(54, 60)])), (4, .inr (false, [(57, 57)]))], [], kch634),
  (58, [(0, .inl 0), (1, .inr (false, [(1, 1)])), (2, .inl 12), (3, .inr (false, [(55, 60)])), (4, .inr (false, [(58, 58)]))], [], kch634),
  (58, [(0, .inl 0), (1, .inr (false, [(1, 1)])), (2, .inl 12), (3, .inr (false, [(56, 60)])), (4, .inr (false, [(59, 59)]))], [], kch634),
  (58, [(0, .inl 0), (1, .inr (false, [(1, 1)])), (2, .inl 12), (3, .inr (false, [(57, 60)])), (4, .inr (false, [(60, 60)]))], [], kch634),
  (58, [(0, .inl 0), (1, .inr (false, [(3, 3)])), (2, .inl 14), (3, .inr (false, [(2, 60)])), (4, .inr (false, [(2, 2)]))], [], kch635),
  (58, [(0, .inl 0), (1, .inr (false, [(3, 3)])), (2, .inl 14), (3, .inr (false, [(3, 60)])), (4, .inr (false, [(3, 3)]))], [], kch635),
  (58, [(0, .inl 0), (1, .inr (false, [(3, 3)])), (2, .inl 14), (3, .inr (false, [(2, 60)])), (4, .inr (false, [(4, 4)]))], [], kch634),
  (58, [(0, .inl 0), (1, .inr (false, [(3, 3)])), (2, .inl 14), (3, .inr (false, [(2, 60)])), (4, .inr (false, [(5, 5)]))], [], kch634),
  (58, [(0, .inl 0), (1, .inr (false, [(3, 3)])), (2, .inl 14), (3, .inr (false, [(3, 60)])), (4, .inr (false, [(6, 6)]))], [], kch634),
  (58, [(0, .inl 0), (1, .inr (false, [(3, 3)])), (2, .inl 14), (3, .inr (false, [(4, 60)])), (4, .inr (false, [(7, 7)]))], [], kch634),
  (58, [(0, .inl 0), (1, .inr (false, [(3, 3)])), (2, .inl 14), (3, .inr (false, [(5, 60)])), (4, .inr (false, [(8, 8)]))], [], kch634),
  (58, [(0, .inl 0), (1, .inr (false, [(3, 3)])), (2, .inl 14), (3, .inr (false, [(6, 60)])), (4, .inr (false, [(9, 9)]))], [], kch634),
  (58, [(0, .inl 0), (1, .inr (false, [(3, 3)])), (2, .inl 14), (3, .inr (false, [(7, 60)])), (4, .inr (false, [(10, 10)]))], [], kch634),
  (58, [(0, .inl 0), (1, .inr (false, [(3, 3)])), (2, .inl 14), (3, .inr (false, [(8, 60)])), (4, .inr (false, [(11, 11)]))], [], kch634),
  (58, [(0, .inl 0), (1, .inr (false, [(3, 3)])), (2, .inl 14), (3, .inr (false, [(9, 60)])), (4, .inr (false, [(12, 12)]))], [], kch634),
  (58, [(0, .inl 0), (1, .inr (false, [(3, 3)])), (2, .inl 14), (3, .inr (false, [(10, 60)])), (4, .inr (false, [(13, 13)]))], [], kch634),
  (58, [(0, .inl 0), (1, .inr (false, [(3, 3)])), (2, .inl 14), (3, .inr (false, [(11, 60)])), (4, .inr (false, [(14, 14)]))], [], kch634),
  (58, [(0, .inl 0), (1, .inr (false, [(3, 3)])), (2, .inl 14), (3, .inr (false, [(12, 60)])), (4, .inr (false, [(15, 15)]))], [], kch634),
  (58, [(0, .inl 0), (1, .inr (false, [(3, 3)])), (2, .inl 14), (3, .inr (false, [(13, 60)])), (4, .inr (false, [(16, 16)]))], [], kch634),
  (58, [(0, .inl 0), (1, .inr (false, [(3, 3)])), (2, .inl 14), (3, .inr (false, [(14, 60)])), (4, .inr (false, [(17, 17)]))], [], kch634),
  (58, [(0, .inl 0), (1, .inr (false, [(3, 3)])), (2, .inl 14), (3, .inr (false, [(15, 60)])), (4, .inr (false, [(18, 18)]))], [], kch634),
  (58, [(0, .inl 0), (1, .inr (false, [(3, 3)])), (2, .inl 14), (3, .inr (false, [(16, 60)])), (4, .inr (false, [(19, 19)]))], [], kch634),
  (58, [(0, .inl 0), (1, .inr (false, [(3, 3)])), (2, .inl 14), (3, .inr (false, [(17, 60)])), (4, .inr (false, [(20, 20)]))], [], kch634),
  (58, [(0, .inl 0), (1, .inr (false, [(3, 3)])), (2, .inl 14), (3, .inr (false, [(18, 60)])), (4, .inr (false, [(21, 21)]))], [], kch634),
  (58, [(0, .inl 0), (1, .inr (false, [(3, 3)])), (2, .inl 14), (3, .inr (false, [(19, 60)])), (4, .inr (false, [(22, 22)]))], [], kch634),
  (58, [(0, .inl 0), (1, .inr (false, [(3, 3)])), (2, .inl 14), (3, .inr (false, [(20, 60)])), (4, .inr (false, [(23, 23)]))], [], kch634),
  (58, [(0, .inl 0), (1, .inr (false, [(3, 3)])), (2, .inl 14), (3, .inr (false, [(21, 60)])), (4, .inr (false, [(24, 24)]))], [], kch634),
  (58, [(0, .inl 0), (1, .inr (false, [(3, 3)])), (2, .inl 14), (3, .inr (false, [(22, 60)])), (4, .inr (false, [(25, 25)]))], [], kch634),
  (58, [(0, .inl 0), (1, .inr (false, [(3, 3)])), (2, .inl 14), (3, .inr (false, [(23, 60)])), (4, .inr (false, [(26, 26)]))], [], kch634),
  (58, [(0, .inl 0), (1, .inr (false, [(3, 3)])), (2, .inl 14), (3, .inr (false, [(24, 60)])), (4, .inr (false, [(27, 27)]))], [], kch634),
  (58, [(0, .inl 0), (1, .inr (false, [(3, 3)])), (2, .inl 14), (3, .inr (false, [(25, 60)])), (4, .inr (false, [(28, 28)]))], [], kch634),
  (58, [(0, .inl 0), (1, .inr (false, [(3, 3)])), (2, .inl 14), (3, .inr (false, [(26, 60)])), (4, .inr (false, [(29, 29)]))], [], kch634),
  (58, [(0, .inl 0), (1, .inr (false, [(3, 3)])), (2, .inl 14), (3, .inr (false, [(27, 60)])), (4, .inr (false, [(30, 30)]))], [], kch634),
  (58, [(0, .inl 0), (1, .inr (false, [(3, 3)])), (2, .inl 14), (3, .inr (false, [(28, 60)])), (4, .inr (false, [(31, 31)]))], [], kch634),
  (58, [(0, .inl 0), (1, .inr (false, [(3, 3)])), (2, .inl 14), (3, .inr (false, [(29, 60)])), (4, .inr (false, [(32, 32)]))], [], kch634),
  (58, [(0, .inl 0), (1, .inr (false, [(3, 3)])), (2, .inl 14), (3, .inr (false, [(30, 60)])), (4, .inr (false, [(33, 33)]))], [], kch634),
  (58, [(0, .inl 0), (1, .inr (false, [(3, 3)])), (2, .inl 14), (3, .inr (false, [(31, 60)])), (4, .inr (false, [(34, 34)]))], [], kch634),
  (58, [(0, .inl 0), (1, .inr (false, [(3, 3)])), (2, .inl 14), (3, .inr (false, [(32, 60)])), (4, .inr (false, [(35, 35)]))], [], kch634),
  (58, [(0, .inl 0), (1, .inr (false, [(3, 3)])), (2, .inl 14), (3, .inr (false, [(33, 60)])), (4, .inr (false, [(36, 36)]))], [], kch634),
  (58, [(0, .inl 0), (1, .inr (false, [(3, 3)])), (2, .inl 14), (3, .inr (false, [(34, 60)])), (4, .inr (false, [(37, 37)]))], [], kch634),
  (58, [(0, .inl 0), (1, .inr (false, [(3, 3)])), (2, .inl 14), (3, .inr (false, [(35, 60)])), (4, .inr (false, [(38, 38)]))], [], kch634),
  (58, [(0, .inl 0), (1, .inr (false, [(3, 3)])), (2, .inl 14), (3, .inr (false, [(36, 60)])), (4, .inr (false, [(39, 39)]))], [], kch634),
  (58, [(0, .inl 0), (1, .inr (false, [(3, 3)])), (2, .inl 14), (3, .inr (false, [(37, 60)])), (4, .inr (false, [(40, 40)]))], [], kch634),
  (58, [(0, .inl 0), (1, .inr (false, [(3, 3)])), (2, .inl 14), (3, .inr (false, [(38, 60)])), (4, .inr (false, [(41, 41)]))], [], kch634),
  (58, [(0, .inl 0), (1, .inr (false, [(3, 3)])), (2, .inl 14), (3, .inr (false, [(39, 60)])), (4, .inr (false, [(42, 42)]))], [], kch634),
  (58, [(0, .inl 0), (1, .inr (false, [(3, 3)])), (2, .inl 14), (3, .inr (false, [(40, 60)])), (4, .inr (false, [(43, 43)]))], [], kch634),
  (58, [(0, .inl 0), (1, .inr (false, [(3, 3)])), (2, .inl 14), (3, .inr (false, [(41, 60)])), (4, .inr (false, [(44, 44)]))], [], kch634),
  (58, [(0, .inl 0), (1, .inr (false, [(3, 3)])), (2, .inl 14), (3, .inr (false, [(42, 60)])), (4, .inr (false, [(45, 45)]))], [], kch634),
  (58, [(0, .inl 0), (1, .inr (false, [(3, 3)])), (2, .inl 14), (3, .inr (false, [(43, 60)])), (4, .inr (false, [(46, 46)]))], [], kch634),
  (58, [(0, .inl 0), (1, .inr (false, [(3, 3)])), (2, .inl 14), (3, .inr (false, [(44, 60)])), (4, .inr (false, [(47, 47)]))], [], kch634),
  (58, [(0, .inl 0), (1, .inr (false, [(3, 3)])), (2, .inl 14), (3, .inr (false, [(45, 60)])), (4, .inr (false, [(48, 48)]))], [], kch634),
  (58, [(0, .inl 0), (1, .inr (false, [(3, 3)])), (2, .inl 14), (3, .inr (false, [(46, 60)])), (4, .inr (false, [(49, 49)]))], [], kch634),
  (58, [(0, .inl 0), (1, .inr (false, [(3, 3)])), (2, .inl 14), (3, .inr (false, [(47, 60)])), (4, .inr (false, [(50, 50)]))], [], kch634),
  (58, [(0, .inl 0), (1, .inr (false, [(3, 3)])), (2, .inl 14), (3, .inr (false, [(48, 60)])), (4, .inr (false, [(51, 51)]))], [], kch634),
  (58, [(0, .inl 0), (1, .inr (false, [(3, 3)])), (2, .inl 14), (3, .inr (false, [(49, 60)])), (4, .inr (false, [(52, 52)]))], [], kch634),
  (58, [(0, .inl 0), (1, .inr (false, [(3, 3)])), (2, .inl 14), (3, .inr (false, [(50, 60)])), (4, .inr (false, [(53, 53)]))], [], kch634),
  (58, [(0, .inl 0), (1, .inr (false, [(3, 3)])), (2, .inl 14), (3, .inr (false, [(51, 60)])), (4, .inr (false, [(54, 54)]))], [], kch634),
  (58, [(0, .inl 0), (1, .inr (false, [(3, 3)])), (2, .inl 14), (3, .inr (false, [(52, 60)])), (4, .inr (false, [(55, 55)]))], [], kch634),
  (58, [(0, .inl 0), (1, .inr (false, [(3, 3)])), (2, .inl 14), (3, .inr (false, [(53, 60)])), (4, .inr (false, [(56, 56)]))], [], kch634),
  (58, [(0, .inl 0), (1, .inr (false, [(3, 3)])), (2, .inl 14), (3, .inr (false, [(54, 60)])), (4, .inr (false, [(57, 57)]))], [], kch634),
  (58, [(0, .inl 0), (1, .inr (false, [(3, 3)])), (2, .inl 14), (3, .inr (false, [(55, 60)])), (4, .inr (false, [(58, 58)]))], [], kch634),
  (58, [(0, .inl 0), (1, .inr (false, [(3, 3)])), (2, .inl 14), (3, .inr (false, [(56, 60)])), (4, .inr (false, [(59, 59)]))], [], kch634),
  (58, [(0, .inl 0), (1, .inr (false, [(3, 3)])), (2, .inl 14), (3, .inr (false, [(57, 60)])), (4, .inr (false, [(60, 60)]))], [], kch634),
  (58, [(0, .inl 0), (1, .inr (false, [(2, 2)])), (2, .inl 13), (3, .inr (false, [(27, 60)])), (4, .inr (false, [(30, 30)]))], [], kch634),
  (58, [(0, .inl 0), (1, .inr (false, [(2, 2)])), (2, .inl 13), (3, .inr (false, [(28, 60)])), (4, .inr (false, [(31, 31)]))], [], kch634),
  (58, [(0, .inl 0), (1, .inr (false, [(2, 2)])), (2, .inl 13), (3, .inr (false, [(29, 60)])), (4, .inr (false, [(32, 32)]))], [], kch634),
  (58, [(0, .inl 0), (1, .inr (false, [(2, 2)])), (2, .inl 13), (3, .inr (false, [(30, 60)])), (4, .inr (false, [(33, 33)]))], [], kch634),
  (58, [(0, .inl 0), (1, .inr (false, [(2, 2)])), (2, .inl 13), (3, .inr (false, [(31, 60)])), (4, .inr (false, [(34, 34)]))], [], kch634),
  (58, [(0, .inl 0), (1, .inr (false, [(2, 2)])), (2, .inl 13), (3, .inr (false, [(32, 60)])), (4, .inr (false, [(35, 35)]))], [], kch634),
  (58, [(0, .inl 0), (1, .inr (false, [(2, 2)])), (2, .inl 13), (3, .inr (false, [(33, 60)])), (4, .inr (false, [(36, 36)]))], [], kch634),
  (58, [(0, .inl 0), (1, .inr (false, [(2, 2)])), (2, .inl 13), (3, .inr (false, [(34, 60)])), (4, .inr (false, [(37, 37)]))], [], kch634),
  (58, [(0, .inl 0), (1, .inr (false, [(2, 2)])), (2, .inl 13), (3, .inr (false, [(35, 60)])), (4, .inr (false, [(38, 38)]))], [], kch634),
  (58, [(0, .inl 0), (1, .inr (false, [(2, 2)])), (2, .inl 13), (3, .inr (false, [(36, 60)])), (4, .inr (false, [(39, 39)]))], [], kch634),
  (58, [(0, .inl 0), (1, .inr (false, [(2, 2)])), (2, .inl 13), (3, .inr (false, [(37, 60)])), (4, .inr (false, [(40, 40)]))], [], kch634),
  (58, [(0, .inl 0), (1, .inr (false, [(2, 2)])), (2, .inl 13), (3, .inr (false, [(38, 60)])), (4, .inr (false, [(41, 41)]))], [], kch634),
  (58, [(0, .inl 0), (1, .inr (false, [(2, 2)])), (2, .inl 13), (3, .inr (false, [(39, 60)])), (4, .inr (false, [(42, 42)]))], [], kch634),
  (58, [(0, .inl 0), (1, .inr (false, [(2, 2)])), (2, .inl 13), (3, .inr (false, [(40, 60)])), (4, .inr (false, [(43, 43)]))], [], kch634),
  (58, [(0, .inl 0), (1, .inr (false, [(2, 2)])), (2, .inl 13), (3, .inr (false, [(41, 60)])), (4, .inr (false, [(44, 44)]))], [], kch634),
  (58, [(0, .inl 0), (1, .inr (false, [(2, 2)])), (2, .inl 13), (3, .inr (false, [(42, 60)])), (4, .inr (false, [(45, 45)]))], [], kch634),
  (58, [(0, .inl 0), (1, .inr (false, [(2, 2)])), (2, .inl 13), (3, .inr (false, [(43, 60)])), (4, .inr (false, [(46, 46)]))], [], kch634),
  (58, [(0, .inl 0), (1, .inr (false, [(2, 2)])), (2, .inl 13), (3, .inr (false, [(44, 60)])), (4, .inr (false, [(47, 47)]))], [], kch634),
  (58, [(0, .inl 0), (1, .inr (false, [(2, 2)])), (2, .inl 13), (3, .inr (false, [(45, 60)])), (4, .inr (false, [(48, 48)]))], [], kch634),
  (58, [(0, .inl 0), (1, .inr (false, [(2, 2)])), (2, .inl 13), (3, .inr (false, [(46, 60)])), (4, .inr (false, [(49, 49)]))], [], kch634),
  (58, [(0, .inl 0), (1, .inr (false, [(2, 2)])), (2, .inl 13), (3, .inr (false, [(47, 60)])), (4, .inr (false, [(50, 50)]))], [], kch634),
  (58, [(0, .inl 0), (1, .inr (false, [(2, 2)])), (2, .inl 13), (3, .inr (false, [(48, 60)])), (4, .inr (false, [(51, 51)]))], [], kch634),
  (58, [(0, .inl 0), (1, .inr (false, [(2, 2)])), (2, .inl 13), (3, .inr (false, [(49, 60)])), (4, .inr (false, [(52, 52)]))], [], kch634),
  (58, [(0, .inl 0), (1, .inr (false, [(2, 2)])), (2, .inl 13), (3, .inr (false, [(50, 60)])), (4, .inr (false, [(53, 53)]))], [], kch634),
  (58, [(0, .inl 0), (1, .inr (false, [(2, 2)])), (2, .inl 13), (3, .inr (false, [(51, 60)])), (4, .inr (false, [(54, 54)]))], [], kch634),
  (58, [(0, .inl 0), (1, .inr (false, [(2, 2)])), (2, .inl 13), (3, .inr (false, [(52, 60)])), (4, .inr (false, [(55, 55)]))], [], kch634),
  (58, [(0, .inl 0), (1, .inr (false, [(2, 2)])), (2, .inl 13), (3, .inr (false, [(53, 60)])), (4, .inr (false, [(56, 56)]))], [], kch634),
  (58, [(0, .inl 0), (1, .inr (false, [(2, 2)])), (2, .inl 13), (3, .inr (false, [(54, 60)])), (4, .inr (false, [(57, 57)]))], [], kch634),
  (58, [(0, .inl 0), (1, .inr (false, [(2, 2)])), (2, .inl 13), (3, .inr (false, [(55, 60)])), (4, .inr (false, [(58, 58)]))], [], kch634),
  (58, [(0, .inl 0), (1, .inr (false, [(2, 2)])), (2, .inl 13), (3, .inr (false, [(56, 60)])), (4, .inr (false, [(59, 59)]))], [], kch634),
  (58, [(0, .inl 0), (1, .inr (false, [(2, 2)])), (2, .inl 13), (3, .inr (false, [(57, 60)])), (4, .inr (false, [(60, 60)]))], [], kch634)] = true := by decide +kernel
