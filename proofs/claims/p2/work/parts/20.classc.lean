/-! Contracts over ranges of the class, and their checks; printed by a program of mine. -/
def kcx85 : aw_A := .inr (.inl (1, 60, [], [(47, [(48, 55)])]))
def kch86 : aw_H := [(14, kcx85)]
/-- MiceRegisters.faultOfFigure -/
def kcc80 : ak_C := (18, [.inl 14, .inr (false, [(-1, 60)]), .inr (false, [(47, 47)]), .inr (false, [(0, 0)]), .inr (false, [(0, 7)])], kch21, [], [([], some (.inr (false, [(-9, -9)])), kch86), ([], some (.inr (false, [(-1, 63)])), [])])
def kcx87 : aw_A := .inr (.inl (1, 60, [], [(48, [(49, 57)]), (47, [(48, 55)])]))
def kch88 : aw_H := [(14, kcx87)]
/-- MiceRegisters.faultOfFigure -/
def kcc81 : ak_C := (18, [.inl 14, .inr (false, [(-1, 60)]), .inr (false, [(48, 48)]), .inr (false, [(1, 1)]), .inr (false, [(9, 9)])], kch86, [], [([], some (.inr (false, [(-9, -9)])), kch88), ([], some (.inr (false, [(-1, 63)])), [])])
/-- MiceRegisters.readMouse -/
def kcc82 : ak_C := (19, [.inl 0, .inl 14, .inr (false, [(-1, 60)]), .inr (false, [(46, 46)])], kch39, [24, 29, 30, 31], [([], some (.inr (false, [(-1, 63)])), kch36), ([], some (.inr (false, [(-9, -9)])), kch38)])
theorem kck82 : ai_chk [kcc28, kcc80, kcc81] kcc82 (fun pc => sm_ch sm_t19 pc, sm_Kn 2 6 none, fun x => sm_lk sm_ca2 x, some .int) [24, 29, 30, 31] 6 0 [] [] 2000 [] = true := by decide +kernel
/-- MiceRegisters.readLine -/
def kcc83 : ak_C := (17, [.inl 0, .inl 14, .inr (false, [(-1, 60)]), .inr (false, [(45, 45)])], kch43, [24, 25, 26], [([[], [], [], []], some (.inr (false, [(-1, 60)])), kch40), ([[], [], [(1, 60)], []], some (.inr (false, [(-9, -9)])), kch42)])
theorem kck83 : ai_chk [kcc26] kcc83 (fun pc => sm_ch sm_t17 pc, sm_Kn 2 6 none, fun x => sm_lk sm_ca2 x, some .int) [24, 25, 26] 6 4 [29] [] 2000 [(29, [(0, .inl 0), (1, .inl 14), (2, .inr (false, [(-1, 60)])), (3, .inr (false, [(45, 45)])), (4, .inr (false, [(46, 46)]))], [], kch44),
  (29, [(0, .inl 0), (1, .inl 14), (2, .inr (false, [(1, 60)])), (3, .inr (false, [(45, 45)])), (4, .inr (false, [(47, 47)])), (5, .inr (false, [(-9, -9)]))], [], kch44),
  (29, [(0, .inl 0), (1, .inl 14), (2, .inr (false, [(1, 60)])), (3, .inr (false, [(45, 45)])), (4, .inr (false, [(48, 48)])), (5, .inr (false, [(-9, -9)]))], [], kch44),
  (29, [(0, .inl 0), (1, .inl 14), (2, .inr (false, [(1, 60)])), (3, .inr (false, [(45, 45)])), (4, .inr (false, [(49, 49)])), (5, .inr (false, [(-9, -9)]))], [], kch44)] = true := by decide +kernel
def kcx89 : aw_A := .inr (.inl (1, 60, [], [(46, [(48, 55)])]))
def kch90 : aw_H := [(14, kcx89)]
/-- MiceRegisters.faultOfFigure -/
def kcc84 : ak_C := (18, [.inl 14, .inr (false, [(-1, 60)]), .inr (false, [(46, 46)]), .inr (false, [(0, 0)]), .inr (false, [(0, 7)])], kch21, [], [([], some (.inr (false, [(-9, -9)])), kch90), ([], some (.inr (false, [(-1, 63)])), [])])
def kcx91 : aw_A := .inr (.inl (1, 60, [], [(47, [(49, 57)]), (46, [(48, 55)])]))
def kch92 : aw_H := [(14, kcx91)]
/-- MiceRegisters.faultOfFigure -/
def kcc85 : ak_C := (18, [.inl 14, .inr (false, [(-1, 60)]), .inr (false, [(47, 47)]), .inr (false, [(1, 1)]), .inr (false, [(9, 9)])], kch90, [], [([], some (.inr (false, [(-9, -9)])), kch92), ([], some (.inr (false, [(-1, 63)])), [])])
/-- MiceRegisters.readMouse -/
def kcc86 : ak_C := (19, [.inl 0, .inl 14, .inr (false, [(-1, 60)]), .inr (false, [(45, 45)])], kch39, [24, 29, 30, 31], [([], some (.inr (false, [(-1, 63)])), kch36), ([], some (.inr (false, [(-9, -9)])), kch38)])
theorem kck86 : ai_chk [kcc28, kcc84, kcc85] kcc86 (fun pc => sm_ch sm_t19 pc, sm_Kn 2 6 none, fun x => sm_lk sm_ca2 x, some .int) [24, 29, 30, 31] 6 0 [] [] 2000 [] = true := by decide +kernel
/-- MiceRegisters.readLine -/
def kcc87 : ak_C := (17, [.inl 0, .inl 14, .inr (false, [(-1, 60)]), .inr (false, [(44, 44)])], kch43, [24, 25, 26], [([[], [], [], []], some (.inr (false, [(-1, 60)])), kch40), ([[], [], [(1, 60)], []], some (.inr (false, [(-9, -9)])), kch42)])
theorem kck87 : ai_chk [kcc26] kcc87 (fun pc => sm_ch sm_t17 pc, sm_Kn 2 6 none, fun x => sm_lk sm_ca2 x, some .int) [24, 25, 26] 6 4 [29] [] 2000 [(29, [(0, .inl 0), (1, .inl 14), (2, .inr (false, [(-1, 60)])), (3, .inr (false, [(44, 44)])), (4, .inr (false, [(45, 45)]))], [], kch44),
  (29, [(0, .inl 0), (1, .inl 14), (2, .inr (false, [(1, 60)])), (3, .inr (false, [(44, 44)])), (4, .inr (false, [(46, 46)])), (5, .inr (false, [(-9, -9)]))], [], kch44),
  (29, [(0, .inl 0), (1, .inl 14), (2, .inr (false, [(1, 60)])), (3, .inr (false, [(44, 44)])), (4, .inr (false, [(47, 47)])), (5, .inr (false, [(-9, -9)]))], [], kch44),
  (29, [(0, .inl 0), (1, .inl 14), (2, .inr (false, [(1, 60)])), (3, .inr (false, [(44, 44)])), (4, .inr (false, [(48, 48)])), (5, .inr (false, [(-9, -9)]))], [], kch44)] = true := by decide +kernel
def kcx93 : aw_A := .inr (.inl (1, 60, [], [(45, [(48, 55)])]))
def kch94 : aw_H := [(14, kcx93)]
/-- MiceRegisters.faultOfFigure -/
def kcc88 : ak_C := (18, [.inl 14, .inr (false, [(-1, 60)]), .inr (false, [(45, 45)]), .inr (false, [(0, 0)]), .inr (false, [(0, 7)])], kch21, [], [([], some (.inr (false, [(-9, -9)])), kch94), ([], some (.inr (false, [(-1, 63)])), [])])
def kcx95 : aw_A := .inr (.inl (1, 60, [], [(46, [(49, 57)]), (45, [(48, 55)])]))
def kch96 : aw_H := [(14, kcx95)]
/-- MiceRegisters.faultOfFigure -/
def kcc89 : ak_C := (18, [.inl 14, .inr (false, [(-1, 60)]), .inr (false, [(46, 46)]), .inr (false, [(1, 1)]), .inr (false, [(9, 9)])], kch94, [], [([], some (.inr (false, [(-9, -9)])), kch96), ([], some (.inr (false, [(-1, 63)])), [])])
/-- MiceRegisters.readMouse -/
def kcc90 : ak_C := (19, [.inl 0, .inl 14, .inr (false, [(-1, 60)]), .inr (false, [(44, 44)])], kch39, [24, 29, 30, 31], [([], some (.inr (false, [(-1, 63)])), kch36), ([], some (.inr (false, [(-9, -9)])), kch38)])
theorem kck90 : ai_chk [kcc28, kcc88, kcc89] kcc90 (fun pc => sm_ch sm_t19 pc, sm_Kn 2 6 none, fun x => sm_lk sm_ca2 x, some .int) [24, 29, 30, 31] 6 0 [] [] 2000 [] = true := by decide +kernel
/-- MiceRegisters.readLine -/
def kcc91 : ak_C := (17, [.inl 0, .inl 14, .inr (false, [(-1, 60)]), .inr (false, [(43, 43)])], kch43, [24, 25, 26], [([[], [], [], []], some (.inr (false, [(-1, 60)])), kch40), ([[], [], [(1, 60)], []], some (.inr (false, [(-9, -9)])), kch42)])
theorem kck91 : ai_chk [kcc26] kcc91 (fun pc => sm_ch sm_t17 pc, sm_Kn 2 6 none, fun x => sm_lk sm_ca2 x, some .int) [24, 25, 26] 6 4 [29] [] 2000 [(29, [(0, .inl 0), (1, .inl 14), (2, .inr (false, [(-1, 60)])), (3, .inr (false, [(43, 43)])), (4, .inr (false, [(44, 44)]))], [], kch44),
  (29, [(0, .inl 0), (1, .inl 14), (2, .inr (false, [(1, 60)])), (3, .inr (false, [(43, 43)])), (4, .inr (false, [(45, 45)])), (5, .inr (false, [(-9, -9)]))], [], kch44),
  (29, [(0, .inl 0), (1, .inl 14), (2, .inr (false, [(1, 60)])), (3, .inr (false, [(43, 43)])), (4, .inr (false, [(46, 46)])), (5, .inr (false, [(-9, -9)]))], [], kch44),
  (29, [(0, .inl 0), (1, .inl 14), (2, .inr (false, [(1, 60)])), (3, .inr (false, [(43, 43)])), (4, .inr (false, [(47, 47)])), (5, .inr (false, [(-9, -9)]))], [], kch44)] = true := by decide +kernel
def kcx97 : aw_A := .inr (.inl (1, 60, [], [(44, [(48, 55)])]))
def kch98 : aw_H := [(14, kcx97)]
/-- MiceRegisters.faultOfFigure -/
def kcc92 : ak_C := (18, [.inl 14, .inr (false, [(-1, 60)]), .inr (false, [(44, 44)]), .inr (false, [(0, 0)]), .inr (false, [(0, 7)])], kch21, [], [([], some (.inr (false, [(-9, -9)])), kch98), ([], some (.inr (false, [(-1, 63)])), [])])
def kcx99 : aw_A := .inr (.inl (1, 60, [], [(45, [(49, 57)]), (44, [(48, 55)])]))
def kch100 : aw_H := [(14, kcx99)]
/-- MiceRegisters.faultOfFigure -/
def kcc93 : ak_C := (18, [.inl 14, .inr (false, [(-1, 60)]), .inr (false, [(45, 45)]), .inr (false, [(1, 1)]), .inr (false, [(9, 9)])], kch98, [], [([], some (.inr (false, [(-9, -9)])), kch100), ([], some (.inr (false, [(-1, 63)])), [])])
/-- MiceRegisters.readMouse -/
def kcc94 : ak_C := (19, [.inl 0, .inl 14, .inr (false, [(-1, 60)]), .inr (false, [(43, 43)])], kch39, [24, 29, 30, 31], [([], some (.inr (false, [(-1, 63)])), kch36), ([], some (.inr (false, [(-9, -9)])), kch38)])
theorem kck94 : ai_chk [kcc28, kcc92, kcc93] kcc94 (fun pc => sm_ch sm_t19 pc, sm_Kn 2 6 none, fun x => sm_lk sm_ca2 x, some .int) [24, 29, 30, 31] 6 0 [] [] 2000 [] = true := by decide +kernel
/-- MiceRegisters.readLine -/
def kcc95 : ak_C := (17, [.inl 0, .inl 14, .inr (false, [(-1, 60)]), .inr (false, [(42, 42)])], kch43, [24, 25, 26], [([[], [], [], []], some (.inr (false, [(-1, 60)])), kch40), ([[], [], [(1, 60)], []], some (.inr (false, [(-9, -9)])), kch42)])
theorem kck95 : ai_chk [kcc26] kcc95 (fun pc => sm_ch sm_t17 pc, sm_Kn 2 6 none, fun x => sm_lk sm_ca2 x, some .int) [24, 25, 26] 6 4 [29] [] 2000 [(29, [(0, .inl 0), (1, .inl 14), (2, .inr (false, [(-1, 60)])), (3, .inr (false, [(42, 42)])), (4, .inr (false, [(43, 43)]))], [], kch44),
  (29, [(0, .inl 0), (1, .inl 14), (2, .inr (false, [(1, 60)])), (3, .inr (false, [(42, 42)])), (4, .inr (false, [(44, 44)])), (5, .inr (false, [(-9, -9)]))], [], kch44),
  (29, [(0, .inl 0), (1, .inl 14), (2, .inr (false, [(1, 60)])), (3, .inr (false, [(42, 42)])), (4, .inr (false, [(45, 45)])), (5, .inr (false, [(-9, -9)]))], [], kch44),
  (29, [(0, .inl 0), (1, .inl 14), (2, .inr (false, [(1, 60)])), (3, .inr (false, [(42, 42)])), (4, .inr (false, [(46, 46)])), (5, .inr (false, [(-9, -9)]))], [], kch44)] = true := by decide +kernel
def kcx101 : aw_A := .inr (.inl (1, 60, [], [(43, [(48, 55)])]))
def kch102 : aw_H := [(14, kcx101)]
/-- MiceRegisters.faultOfFigure -/
def kcc96 : ak_C := (18, [.inl 14, .inr (false, [(-1, 60)]), .inr (false, [(43, 43)]), .inr (false, [(0, 0)]), .inr (false, [(0, 7)])], kch21, [], [([], some (.inr (false, [(-9, -9)])), kch102), ([], some (.inr (false, [(-1, 63)])), [])])
def kcx103 : aw_A := .inr (.inl (1, 60, [], [(44, [(49, 57)]), (43, [(48, 55)])]))
def kch104 : aw_H := [(14, kcx103)]
/-- MiceRegisters.faultOfFigure -/
def kcc97 : ak_C := (18, [.inl 14, .inr (false, [(-1, 60)]), .inr (false, [(44, 44)]), .inr (false, [(1, 1)]), .inr (false, [(9, 9)])], kch102, [], [([], some (.inr (false, [(-9, -9)])), kch104), ([], some (.inr (false, [(-1, 63)])), [])])
/-- MiceRegisters.readMouse -/
def kcc98 : ak_C := (19, [.inl 0, .inl 14, .inr (false, [(-1, 60)]), .inr (false, [(42, 42)])], kch39, [24, 29, 30, 31], [([], some (.inr (false, [(-1, 63)])), kch36), ([], some (.inr (false, [(-9, -9)])), kch38)])
theorem kck98 : ai_chk [kcc28, kcc96, kcc97] kcc98 (fun pc => sm_ch sm_t19 pc, sm_Kn 2 6 none, fun x => sm_lk sm_ca2 x, some .int) [24, 29, 30, 31] 6 0 [] [] 2000 [] = true := by decide +kernel
/-- MiceRegisters.readLine -/
def kcc99 : ak_C := (17, [.inl 0, .inl 14, .inr (false, [(-1, 60)]), .inr (false, [(41, 41)])], kch43, [24, 25, 26], [([[], [], [], []], some (.inr (false, [(-1, 60)])), kch40), ([[], [], [(1, 60)], []], some (.inr (false, [(-9, -9)])), kch42)])
theorem kck99 : ai_chk [kcc26] kcc99 (fun pc => sm_ch sm_t17 pc, sm_Kn 2 6 none, fun x => sm_lk sm_ca2 x, some .int) [24, 25, 26] 6 4 [29] [] 2000 [(29, [(0, .inl 0), (1, .inl 14), (2, .inr (false, [(-1, 60)])), (3, .inr (false, [(41, 41)])), (4, .inr (false, [(42, 42)]))], [], kch44),
  (29, [(0, .inl 0), (1, .inl 14), (2, .inr (false, [(1, 60)])), (3, .inr (false, [(41, 41)])), (4, .inr (false, [(43, 43)])), (5, .inr (false, [(-9, -9)]))], [], kch44),
  (29, [(0, .inl 0), (1, .inl 14), (2, .inr (false, [(1, 60)])), (3, .inr (false, [(41, 41)])), (4, .inr (false, [(44, 44)])), (5, .inr (false, [(-9, -9)]))], [], kch44),
  (29, [(0, .inl 0), (1, .inl 14), (2, .inr (false, [(1, 60)])), (3, .inr (false, [(41, 41)])), (4, .inr (false, [(45, 45)])), (5, .inr (false, [(-9, -9)]))], [], kch44)] = true := by decide +kernel
def kcx105 : aw_A := .inr (.inl (1, 60, [], [(42, [(48, 55)])]))
def kch106 : aw_H := [(14, kcx105)]
/-- MiceRegisters.faultOfFigure -/
def kcc100 : ak_C := (18, [.inl 14, .inr (false, [(-1, 60)]), .inr (false, [(42, 42)]), .inr (false, [(0, 0)]), .inr (false, [(0, 7)])], kch21, [], [([], some (.inr (false, [(-9, -9)])), kch106), ([], some (.inr (false, [(-1, 63)])), [])])
def kcx107 : aw_A := .inr (.inl (1, 60, [], [(43, [(49, 57)]), (42, [(48, 55)])]))
def kch108 : aw_H := [(14, kcx107)]
/-- MiceRegisters.faultOfFigure -/
def kcc101 : ak_C := (18, [.inl 14, .inr (false, [(-1, 60)]), .inr (false, [(43, 43)]), .inr (false, [(1, 1)]), .inr (false, [(9, 9)])], kch106, [], [([], some (.inr (false, [(-9, -9)])), kch108), ([], some (.inr (false, [(-1, 63)])), [])])
/-- MiceRegisters.readMouse -/
def kcc102 : ak_C := (19, [.inl 0, .inl 14, .inr (false, [(-1, 60)]), .inr (false, [(41, 41)])], kch39, [24, 29, 30, 31], [([], some (.inr (false, [(-1, 63)])), kch36), ([], some (.inr (false, [(-9, -9)])), kch38)])
theorem kck102 : ai_chk [kcc28, kcc100, kcc101] kcc102 (fun pc => sm_ch sm_t19 pc, sm_Kn 2 6 none, fun x => sm_lk sm_ca2 x, some .int) [24, 29, 30, 31] 6 0 [] [] 2000 [] = true := by decide +kernel
/-- MiceRegisters.readLine -/
def kcc103 : ak_C := (17, [.inl 0, .inl 14, .inr (false, [(-1, 60)]), .inr (false, [(40, 40)])], kch43, [24, 25, 26], [([[], [], [], []], some (.inr (false, [(-1, 60)])), kch40), ([[], [], [(1, 60)], []], some (.inr (false, [(-9, -9)])), kch42)])
theorem kck103 : ai_chk [kcc26] kcc103 (fun pc => sm_ch sm_t17 pc, sm_Kn 2 6 none, fun x => sm_lk sm_ca2 x, some .int) [24, 25, 26] 6 4 [29] [] 2000 [(29, [(0, .inl 0), (1, .inl 14), (2, .inr (false, [(-1, 60)])), (3, .inr (false, [(40, 40)])), (4, .inr (false, [(41, 41)]))], [], kch44),
  (29, [(0, .inl 0), (1, .inl 14), (2, .inr (false, [(1, 60)])), (3, .inr (false, [(40, 40)])), (4, .inr (false, [(42, 42)])), (5, .inr (false, [(-9, -9)]))], [], kch44),
  (29, [(0, .inl 0), (1, .inl 14), (2, .inr (false, [(1, 60)])), (3, .inr (false, [(40, 40)])), (4, .inr (false, [(43, 43)])), (5, .inr (false, [(-9, -9)]))], [], kch44),
  (29, [(0, .inl 0), (1, .inl 14), (2, .inr (false, [(1, 60)])), (3, .inr (false, [(40, 40)])), (4, .inr (false, [(44, 44)])), (5, .inr (false, [(-9, -9)]))], [], kch44)] = true := by decide +kernel
def kcx109 : aw_A := .inr (.inl (1, 60, [], [(41, [(48, 55)])]))
def kch110 : aw_H := [(14, kcx109)]
/-- MiceRegisters.faultOfFigure -/
def kcc104 : ak_C := (18, [.inl 14, .inr (false, [(-1, 60)]), .inr (false, [(41, 41)]), .inr (false, [(0, 0)]), .inr (false, [(0, 7)])], kch21, [], [([], some (.inr (false, [(-9, -9)])), kch110), ([], some (.inr (false, [(-1, 63)])), [])])
def kcx111 : aw_A := .inr (.inl (1, 60, [], [(42, [(49, 57)]), (41, [(48, 55)])]))
def kch112 : aw_H := [(14, kcx111)]
/-- MiceRegisters.faultOfFigure -/
def kcc105 : ak_C := (18, [.inl 14, .inr (false, [(-1, 60)]), .inr (false, [(42, 42)]), .inr (false, [(1, 1)]), .inr (false, [(9, 9)])], kch110, [], [([], some (.inr (false, [(-9, -9)])), kch112), ([], some (.inr (false, [(-1, 63)])), [])])
/-- MiceRegisters.readMouse -/
def kcc106 : ak_C := (19, [.inl 0, .inl 14, .inr (false, [(-1, 60)]), .inr (false, [(40, 40)])], kch39, [24, 29, 30, 31], [([], some (.inr (false, [(-1, 63)])), kch36), ([], some (.inr (false, [(-9, -9)])), kch38)])
theorem kck106 : ai_chk [kcc28, kcc104, kcc105] kcc106 (fun pc => sm_ch sm_t19 pc, sm_Kn 2 6 none, fun x => sm_lk sm_ca2 x, some .int) [24, 29, 30, 31] 6 0 [] [] 2000 [] = true := by decide +kernel
/-- MiceRegisters.readLine -/
def kcc107 : ak_C := (17, [.inl 0, .inl 14, .inr (false, [(-1, 60)]), .inr (false, [(39, 39)])], kch43, [24, 25, 26], [([[], [], [], []], some (.inr (false, [(-1, 60)])), kch40), ([[], [], [(1, 60)], []], some (.inr (false, [(-9, -9)])), kch42)])
theorem kck107 : ai_chk [kcc26] kcc107 (fun pc => sm_ch sm_t17 pc, sm_Kn 2 6 none, fun x => sm_lk sm_ca2 x, some .int) [24, 25, 26] 6 4 [29] [] 2000 [(29, [(0, .inl 0), (1, .inl 14), (2, .inr (false, [(-1, 60)])), (3, .inr (false, [(39, 39)])), (4, .inr (false, [(40, 40)]))], [], kch44),
  (29, [(0, .inl 0), (1, .inl 14), (2, .inr (false, [(1, 60)])), (3, .inr (false, [(39, 39)])), (4, .inr (false, [(41, 41)])), (5, .inr (false, [(-9, -9)]))], [], kch44),
  (29, [(0, .inl 0), (1, .inl 14), (2, .inr (false, [(1, 60)])), (3, .inr (false, [(39, 39)])), (4, .inr (false, [(42, 42)])), (5, .inr (false, [(-9, -9)]))], [], kch44),
  (29, [(0, .inl 0), (1, .inl 14), (2, .inr (false, [(1, 60)])), (3, .inr (false, [(39, 39)])), (4, .inr (false, [(43, 43)])), (5, .inr (false, [(-9, -9)]))], [], kch44)] = true := by decide +kernel
def kcx113 : aw_A := .inr (.inl (1, 60, [], [(40, [(48, 55)])]))
def kch114 : aw_H := [(14, kcx113)]
/-- MiceRegisters.faultOfFigure -/
def kcc108 : ak_C := (18, [.inl 14, .inr (false, [(-1, 60)]), .inr (false, [(40, 40)]), .inr (false, [(0, 0)]), .inr (false, [(0, 7)])], kch21, [], [([], some (.inr (false, [(-9, -9)])), kch114), ([], some (.inr (false, [(-1, 63)])), [])])
def kcx115 : aw_A := .inr (.inl (1, 60, [], [(41, [(49, 57)]), (40, [(48, 55)])]))
def kch116 : aw_H := [(14, kcx115)]
/-- MiceRegisters.faultOfFigure -/
def kcc109 : ak_C := (18, [.inl 14, .inr (false, [(-1, 60)]), .inr (false, [(41, 41)]), .inr (false, [(1, 1)]), .inr (false, [(9, 9)])], kch114, [], [([], some (.inr (false, [(-9, -9)])), kch116), ([], some (.inr (false, [(-1, 63)])), [])])
/-- MiceRegisters.readMouse -/
def kcc110 : ak_C := (19, [.inl 0, .inl 14, .inr (false, [(-1, 60)]), .inr (false, [(39, 39)])], kch39, [24, 29, 30, 31], [([], some (.inr (false, [(-1, 63)])), kch36), ([], some (.inr (false, [(-9, -9)])), kch38)])
theorem kck110 : ai_chk [kcc28, kcc108, kcc109] kcc110 (fun pc => sm_ch sm_t19 pc, sm_Kn 2 6 none, fun x => sm_lk sm_ca2 x, some .int) [24, 29, 30, 31] 6 0 [] [] 2000 [] = true := by decide +kernel
/-- MiceRegisters.readLine -/
def kcc111 : ak_C := (17, [.inl 0, .inl 14, .inr (false, [(-1, 60)]), .inr (false, [(38, 38)])], kch43, [24, 25, 26], [([[], [], [], []], some (.inr (false, [(-1, 60)])), kch40), ([[], [], [(1, 60)], []], some (.inr (false, [(-9, -9)])), kch42)])
theorem kck111 : ai_chk [kcc26] kcc111 (fun pc => sm_ch sm_t17 pc, sm_Kn 2 6 none, fun x => sm_lk sm_ca2 x, some .int) [24, 25, 26] 6 4 [29] [] 2000 [(29, [(0, .inl 0), (1, .inl 14), (2, .inr (false, [(-1, 60)])), (3, .inr (false, [(38, 38)])), (4, .inr (false, [(39, 39)]))], [], kch44),
  (29, [(0, .inl 0), (1, .inl 14), (2, .inr (false, [(1, 60)])), (3, .inr (false, [(38, 38)])), (4, .inr (false, [(40, 40)])), (5, .inr (false, [(-9, -9)]))], [], kch44),
  (29, [(0, .inl 0), (1, .inl 14), (2, .inr (false, [(1, 60)])), (3, .inr (false, [(38, 38)])), (4, .inr (false, [(41, 41)])), (5, .inr (false, [(-9, -9)]))], [], kch44),
  (29, [(0, .inl 0), (1, .inl 14), (2, .inr (false, [(1, 60)])), (3, .inr (false, [(38, 38)])), (4, .inr (false, [(42, 42)])), (5, .inr (false, [(-9, -9)]))], [], kch44)] = true := by decide +kernel
def kcx117 : aw_A := .inr (.inl (1, 60, [], [(39, [(48, 55)])]))
def kch118 : aw_H := [(14, kcx117)]
/-- MiceRegisters.faultOfFigure -/
def kcc112 : ak_C := (18, [.inl 14, .inr (false, [(-1, 60)]), .inr (false, [(39, 39)]), .inr (false, [(0, 0)]), .inr (false, [(0, 7)])], kch21, [], [([], some (.inr (false, [(-9, -9)])), kch118), ([], some (.inr (false, [(-1, 63)])), [])])
def kcx119 : aw_A := .inr (.inl (1, 60, [], [(40, [(49, 57)]), (39, [(48, 55)])]))
def kch120 : aw_H := [(14, kcx119)]
/-- MiceRegisters.faultOfFigure -/
def kcc113 : ak_C := (18, [.inl 14, .inr (false, [(-1, 60)]), .inr (false, [(40, 40)]), .inr (false, [(1, 1)]), .inr (false, [(9, 9)])], kch118, [], [([], some (.inr (false, [(-9, -9)])), kch120), ([], some (.inr (false, [(-1, 63)])), [])])
/-- MiceRegisters.readMouse -/
def kcc114 : ak_C := (19, [.inl 0, .inl 14, .inr (false, [(-1, 60)]), .inr (false, [(38, 38)])], kch39, [24, 29, 30, 31], [([], some (.inr (false, [(-1, 63)])), kch36), ([], some (.inr (false, [(-9, -9)])), kch38)])
theorem kck114 : ai_chk [kcc28, kcc112, kcc113] kcc114 (fun pc => sm_ch sm_t19 pc, sm_Kn 2 6 none, fun x => sm_lk sm_ca2 x, some .int) [24, 29, 30, 31] 6 0 [] [] 2000 [] = true := by decide +kernel
/-- MiceRegisters.readLine -/
def kcc115 : ak_C := (17, [.inl 0, .inl 14, .inr (false, [(-1, 60)]), .inr (false, [(37, 37)])], kch43, [24, 25, 26], [([[], [], [], []], some (.inr (false, [(-1, 60)])), kch40), ([[], [], [(1, 60)], []], some (.inr (false, [(-9, -9)])), kch42)])
theorem kck115 : ai_chk [kcc26] kcc115 (fun pc => sm_ch sm_t17 pc, sm_Kn 2 6 none, fun x => sm_lk sm_ca2 x, some .int) [24, 25, 26] 6 4 [29] [] 2000 [(29, [(0, .inl 0), (1, .inl 14), (2, .inr (false, [(-1, 60)])), (3, .inr (false, [(37, 37)])), (4, .inr (false, [(38, 38)]))], [], kch44),
  (29, [(0, .inl 0), (1, .inl 14), (2, .inr (false, [(1, 60)])), (3, .inr (false, [(37, 37)])), (4, .inr (false, [(39, 39)])), (5, .inr (false, [(-9, -9)]))], [], kch44),
  (29, [(0, .inl 0), (1, .inl 14), (2, .inr (false, [(1, 60)])), (3, .inr (false, [(37, 37)])), (4, .inr (false, [(40, 40)])), (5, .inr (false, [(-9, -9)]))], [], kch44),
  (29, [(0, .inl 0), (1, .inl 14), (2, .inr (false, [(1, 60)])), (3, .inr (false, [(37, 37)])), (4, .inr (false, [(41, 41)])), (5, .inr (false, [(-9, -9)]))], [], kch44)] = true := by decide +kernel
def kcx121 : aw_A := .inr (.inl (1, 60, [], [(38, [(48, 55)])]))
def kch122 : aw_H := [(14, kcx121)]
/-- MiceRegisters.faultOfFigure -/
def kcc116 : ak_C := (18, [.inl 14, .inr (false, [(-1, 60)]), .inr (false, [(38, 38)]), .inr (false, [(0, 0)]), .inr (false, [(0, 7)])], kch21, [], [([], some (.inr (false, [(-9, -9)])), kch122), ([], some (.inr (false, [(-1, 63)])), [])])
def kcx123 : aw_A := .inr (.inl (1, 60, [], [(39, [(49, 57)]), (38, [(48, 55)])]))
def kch124 : aw_H := [(14, kcx123)]
/-- MiceRegisters.faultOfFigure -/
def kcc117 : ak_C := (18, [.inl 14, .inr (false, [(-1, 60)]), .inr (false, [(39, 39)]), .inr (false, [(1, 1)]), .inr (false, [(9, 9)])], kch122, [], [([], some (.inr (false, [(-9, -9)])), kch124), ([], some (.inr (false, [(-1, 63)])), [])])
/-- MiceRegisters.readMouse -/
def kcc118 : ak_C := (19, [.inl 0, .inl 14, .inr (false, [(-1, 60)]), .inr (false, [(37, 37)])], kch39, [24, 29, 30, 31], [([], some (.inr (false, [(-1, 63)])), kch36), ([], some (.inr (false, [(-9, -9)])), kch38)])
theorem kck118 : ai_chk [kcc28, kcc116, kcc117] kcc118 (fun pc => sm_ch sm_t19 pc, sm_Kn 2 6 none, fun x => sm_lk sm_ca2 x, some .int) [24, 29, 30, 31] 6 0 [] [] 2000 [] = true := by decide +kernel
/-- MiceRegisters.readLine -/
def kcc119 : ak_C := (17, [.inl 0, .inl 14, .inr (false, [(-1, 60)]), .inr (false, [(36, 36)])], kch43, [24, 25, 26], [([[], [], [], []], some (.inr (false, [(-1, 60)])), kch40), ([[], [], [(1, 60)], []], some (.inr (false, [(-9, -9)])), kch42)])
theorem kck119 : ai_chk [kcc26] kcc119 (fun pc => sm_ch sm_t17 pc, sm_Kn 2 6 none, fun x => sm_lk sm_ca2 x, some .int) [24, 25, 26] 6 4 [29] [] 2000 [(29, [(0, .inl 0), (1, .inl 14), (2, .inr (false, [(-1, 60)])), (3, .inr (false, [(36, 36)])), (4, .inr (false, [(37, 37)]))], [], kch44),
  (29, [(0, .inl 0), (1, .inl 14), (2, .inr (false, [(1, 60)])), (3, .inr (false, [(36, 36)])), (4, .inr (false, [(38, 38)])), (5, .inr (false, [(-9, -9)]))], [], kch44),
  (29, [(0, .inl 0), (1, .inl 14), (2, .inr (false, [(1, 60)])), (3, .inr (false, [(36, 36)])), (4, .inr (false, [(39, 39)])), (5, .inr (false, [(-9, -9)]))], [], kch44),
  (29, [(0, .inl 0), (1, .inl 14), (2, .inr (false, [(1, 60)])), (3, .inr (false, [(36, 36)])), (4, .inr (false, [(40, 40)])), (5, .inr (false, [(-9, -9)]))], [], kch44)] = true := by decide +kernel
def kcx125 : aw_A := .inr (.inl (1, 60, [], [(37, [(48, 55)])]))
def kch126 : aw_H := [(14, kcx125)]
/-- MiceRegisters.faultOfFigure -/
def kcc120 : ak_C := (18, [.inl 14, .inr (false, [(-1, 60)]), .inr (false, [(37, 37)]), .inr (false, [(0, 0)]), .inr (false, [(0, 7)])], kch21, [], [([], some (.inr (false, [(-9, -9)])), kch126), ([], some (.inr (false, [(-1, 63)])), [])])
def kcx127 : aw_A := .inr (.inl (1, 60, [], [(38, [(49, 57)]), (37, [(48, 55)])]))
def kch128 : aw_H := [(14, kcx127)]
/-- MiceRegisters.faultOfFigure -/
def kcc121 : ak_C := (18, [.inl 14, .inr (false, [(-1, 60)]), .inr (false, [(38, 38)]), .inr (false, [(1, 1)]), .inr (false, [(9, 9)])], kch126, [], [([], some (.inr (false, [(-9, -9)])), kch128), ([], some (.inr (false, [(-1, 63)])), [])])
/-- MiceRegisters.readMouse -/
def kcc122 : ak_C := (19, [.inl 0, .inl 14, .inr (false, [(-1, 60)]), .inr (false, [(36, 36)])], kch39, [24, 29, 30, 31], [([], some (.inr (false, [(-1, 63)])), kch36), ([], some (.inr (false, [(-9, -9)])), kch38)])
theorem kck122 : ai_chk [kcc28, kcc120, kcc121] kcc122 (fun pc => sm_ch sm_t19 pc, sm_Kn 2 6 none, fun x => sm_lk sm_ca2 x, some .int) [24, 29, 30, 31] 6 0 [] [] 2000 [] = true := by decide +kernel
/-- MiceRegisters.readLine -/
def kcc123 : ak_C := (17, [.inl 0, .inl 14, .inr (false, [(-1, 60)]), .inr (false, [(35, 35)])], kch43, [24, 25, 26], [([[], [], [], []], some (.inr (false, [(-1, 60)])), kch40), ([[], [], [(1, 60)], []], some (.inr (false, [(-9, -9)])), kch42)])
theorem kck123 : ai_chk [kcc26] kcc123 (fun pc => sm_ch sm_t17 pc, sm_Kn 2 6 none, fun x => sm_lk sm_ca2 x, some .int) [24, 25, 26] 6 4 [29] [] 2000 [(29, [(0, .inl 0), (1, .inl 14), (2, .inr (false, [(-1, 60)])), (3, .inr (false, [(35, 35)])), (4, .inr (false, [(36, 36)]))], [], kch44),
  (29, [(0, .inl 0), (1, .inl 14), (2, .inr (false, [(1, 60)])), (3, .inr (false, [(35, 35)])), (4, .inr (false, [(37, 37)])), (5, .inr (false, [(-9, -9)]))], [], kch44),
  (29, [(0, .inl 0), (1, .inl 14), (2, .inr (false, [(1, 60)])), (3, .inr (false, [(35, 35)])), (4, .inr (false, [(38, 38)])), (5, .inr (false, [(-9, -9)]))], [], kch44),
  (29, [(0, .inl 0), (1, .inl 14), (2, .inr (false, [(1, 60)])), (3, .inr (false, [(35, 35)])), (4, .inr (false, [(39, 39)])), (5, .inr (false, [(-9, -9)]))], [], kch44)] = true := by decide +kernel
def kcx129 : aw_A := .inr (.inl (1, 60, [], [(36, [(48, 55)])]))
def kch130 : aw_H := [(14, kcx129)]
/-- MiceRegisters.faultOfFigure -/
def kcc124 : ak_C := (18, [.inl 14, .inr (false, [(-1, 60)]), .inr (false, [(36, 36)]), .inr (false, [(0, 0)]), .inr (false, [(0, 7)])], kch21, [], [([], some (.inr (false, [(-9, -9)])), kch130), ([], some (.inr (false, [(-1, 63)])), [])])
def kcx131 : aw_A := .inr (.inl (1, 60, [], [(37, [(49, 57)]), (36, [(48, 55)])]))
def kch132 : aw_H := [(14, kcx131)]
/-- MiceRegisters.faultOfFigure -/
def kcc125 : ak_C := (18, [.inl 14, .inr (false, [(-1, 60)]), .inr (false, [(37, 37)]), .inr (false, [(1, 1)]), .inr (false, [(9, 9)])], kch130, [], [([], some (.inr (false, [(-9, -9)])), kch132), ([], some (.inr (false, [(-1, 63)])), [])])
/-- MiceRegisters.readMouse -/
def kcc126 : ak_C := (19, [.inl 0, .inl 14, .inr (false, [(-1, 60)]), .inr (false, [(35, 35)])], kch39, [24, 29, 30, 31], [([], some (.inr (false, [(-1, 63)])), kch36), ([], some (.inr (false, [(-9, -9)])), kch38)])
theorem kck126 : ai_chk [kcc28, kcc124, kcc125] kcc126 (fun pc => sm_ch sm_t19 pc, sm_Kn 2 6 none, fun x => sm_lk sm_ca2 x, some .int) [24, 29, 30, 31] 6 0 [] [] 2000 [] = true := by decide +kernel
/-- MiceRegisters.readLine -/
def kcc127 : ak_C := (17, [.inl 0, .inl 14, .inr (false, [(-1, 60)]), .inr (false, [(34, 34)])], kch43, [24, 25, 26], [([[], [], [], []], some (.inr (false, [(-1, 60)])), kch40), ([[], [], [(1, 60)], []], some (.inr (false, [(-9, -9)])), kch42)])
theorem kck127 : ai_chk [kcc26] kcc127 (fun pc => sm_ch sm_t17 pc, sm_Kn 2 6 none, fun x => sm_lk sm_ca2 x, some .int) [24, 25, 26] 6 4 [29] [] 2000 [(29, [(0, .inl 0), (1, .inl 14), (2, .inr (false, [(-1, 60)])), (3, .inr (false, [(34, 34)])), (4, .inr (false, [(35, 35)]))], [], kch44),
  (29, [(0, .inl 0), (1, .inl 14), (2, .inr (false, [(1, 60)])), (3, .inr (false, [(34, 34)])), (4, .inr (false, [(36, 36)])), (5, .inr (false, [(-9, -9)]))], [], kch44),
  (29, [(0, .inl 0), (1, .inl 14), (2, .inr (false, [(1, 60)])), (3, .inr (false, [(34, 34)])), (4, .inr (false, [(37, 37)])), (5, .inr (false, [(-9, -9)]))], [], kch44),
  (29, [(0, .inl 0), (1, .inl 14), (2, .inr (false, [(1, 60)])), (3, .inr (false, [(34, 34)])), (4, .inr (false, [(38, 38)])), (5, .inr (false, [(-9, -9)]))], [], kch44)] = true := by decide +kernel
def kcx133 : aw_A := .inr (.inl (1, 60, [], [(35, [(48, 55)])]))
def kch134 : aw_H := [(14, kcx133)]
/-- MiceRegisters.faultOfFigure -/
def kcc128 : ak_C := (18, [.inl 14, .inr (false, [(-1, 60)]), .inr (false, [(35, 35)]), .inr (false, [(0, 0)]), .inr (false, [(0, 7)])], kch21, [], [([], some (.inr (false, [(-9, -9)])), kch134), ([], some (.inr (false, [(-1, 63)])), [])])
def kcx135 : aw_A := .inr (.inl (1, 60, [], [(36, [(49, 57)]), (35, [(48, 55)])]))
def kch136 : aw_H := [(14, kcx135)]
/-- MiceRegisters.faultOfFigure -/
def kcc129 : ak_C := (18, [.inl 14, .inr (false, [(-1, 60)]), .inr (false, [(36, 36)]), .inr (false, [(1, 1)]), .inr (false, [(9, 9)])], kch134, [], [([], some (.inr (false, [(-9, -9)])), kch136), ([], some (.inr (false, [(-1, 63)])), [])])
/-- MiceRegisters.readMouse -/
def kcc130 : ak_C := (19, [.inl 0, .inl 14, .inr (false, [(-1, 60)]), .inr (false, [(34, 34)])], kch39, [24, 29, 30, 31], [([], some (.inr (false, [(-1, 63)])), kch36), ([], some (.inr (false, [(-9, -9)])), kch38)])
theorem kck130 : ai_chk [kcc28, kcc128, kcc129] kcc130 (fun pc => sm_ch sm_t19 pc, sm_Kn 2 6 none, fun x => sm_lk sm_ca2 x, some .int) [24, 29, 30, 31] 6 0 [] [] 2000 [] = true := by decide +kernel
/-- MiceRegisters.readLine -/
def kcc131 : ak_C := (17, [.inl 0, .inl 14, .inr (false, [(-1, 60)]), .inr (false, [(33, 33)])], kch43, [24, 25, 26], [([[], [], [], []], some (.inr (false, [(-1, 60)])), kch40), ([[], [], [(1, 60)], []], some (.inr (false, [(-9, -9)])), kch42)])
theorem kck131 : ai_chk [kcc26] kcc131 (fun pc => sm_ch sm_t17 pc, sm_Kn 2 6 none, fun x => sm_lk sm_ca2 x, some .int) [24, 25, 26] 6 4 [29] [] 2000 [(29, [(0, .inl 0), (1, .inl 14), (2, .inr (false, [(-1, 60)])), (3, .inr (false, [(33, 33)])), (4, .inr (false, [(34, 34)]))], [], kch44),
  (29, [(0, .inl 0), (1, .inl 14), (2, .inr (false, [(1, 60)])), (3, .inr (false, [(33, 33)])), (4, .inr (false, [(35, 35)])), (5, .inr (false, [(-9, -9)]))], [], kch44),
  (29, [(0, .inl 0), (1, .inl 14), (2, .inr (false, [(1, 60)])), (3, .inr (false, [(33, 33)])), (4, .inr (false, [(36, 36)])), (5, .inr (false, [(-9, -9)]))], [], kch44),
  (29, [(0, .inl 0), (1, .inl 14), (2, .inr (false, [(1, 60)])), (3, .inr (false, [(33, 33)])), (4, .inr (false, [(37, 37)])), (5, .inr (false, [(-9, -9)]))], [], kch44)] = true := by decide +kernel
def kcx137 : aw_A := .inr (.inl (1, 60, [], [(34, [(48, 55)])]))
def kch138 : aw_H := [(14, kcx137)]
/-- MiceRegisters.faultOfFigure -/
def kcc132 : ak_C := (18, [.inl 14, .inr (false, [(-1, 60)]), .inr (false, [(34, 34)]), .inr (false, [(0, 0)]), .inr (false, [(0, 7)])], kch21, [], [([], some (.inr (false, [(-9, -9)])), kch138), ([], some (.inr (false, [(-1, 63)])), [])])
def kcx139 : aw_A := .inr (.inl (1, 60, [], [(35, [(49, 57)]), (34, [(48, 55)])]))
def kch140 : aw_H := [(14, kcx139)]
/-- MiceRegisters.faultOfFigure -/
def kcc133 : ak_C := (18, [.inl 14, .inr (false, [(-1, 60)]), .inr (false, [(35, 35)]), .inr (false, [(1, 1)]), .inr (false, [(9, 9)])], kch138, [], [([], some (.inr (false, [(-9, -9)])), kch140), ([], some (.inr (false, [(-1, 63)])), [])])
/-- MiceRegisters.readMouse -/
def kcc134 : ak_C := (19, [.inl 0, .inl 14, .inr (false, [(-1, 60)]), .inr (false, [(33, 33)])], kch39, [24, 29, 30, 31], [([], some (.inr (false, [(-1, 63)])), kch36), ([], some (.inr (false, [(-9, -9)])), kch38)])
theorem kck134 : ai_chk [kcc28, kcc132, kcc133] kcc134 (fun pc => sm_ch sm_t19 pc, sm_Kn 2 6 none, fun x => sm_lk sm_ca2 x, some .int) [24, 29, 30, 31] 6 0 [] [] 2000 [] = true := by decide +kernel
/-- MiceRegisters.readLine -/
def kcc135 : ak_C := (17, [.inl 0, .inl 14, .inr (false, [(-1, 60)]), .inr (false, [(32, 32)])], kch43, [24, 25, 26], [([[], [], [], []], some (.inr (false, [(-1, 60)])), kch40), ([[], [], [(1, 60)], []], some (.inr (false, [(-9, -9)])), kch42)])
theorem kck135 : ai_chk [kcc26] kcc135 (fun pc => sm_ch sm_t17 pc, sm_Kn 2 6 none, fun x => sm_lk sm_ca2 x, some .int) [24, 25, 26] 6 4 [29] [] 2000 [(29, [(0, .inl 0), (1, .inl 14), (2, .inr (false, [(-1, 60)])), (3, .inr (false, [(32, 32)])), (4, .inr (false, [(33, 33)]))], [], kch44),
  (29, [(0, .inl 0), (1, .inl 14), (2, .inr (false, [(1, 60)])), (3, .inr (false, [(32, 32)])), (4, .inr (false, [(34, 34)])), (5, .inr (false, [(-9, -9)]))], [], kch44),
  (29, [(0, .inl 0), (1, .inl 14), (2, .inr (false, [(1, 60)])), (3, .inr (false, [(32, 32)])), (4, .inr (false, [(35, 35)])), (5, .inr (false, [(-9, -9)]))], [], kch44),
  (29, [(0, .inl 0), (1, .inl 14), (2, .inr (false, [(1, 60)])), (3, .inr (false, [(32, 32)])), (4, .inr (false, [(36, 36)])), (5, .inr (false, [(-9, -9)]))], [], kch44)] = true := by decide +kernel
def kcx141 : aw_A := .inr (.inl (1, 60, [], [(33, [(48, 55)])]))
def kch142 : aw_H := [(14, kcx141)]
/-- MiceRegisters.faultOfFigure -/
def kcc136 : ak_C := (18, [.inl 14, .inr (false, [(-1, 60)]), .inr (false, [(33, 33)]), .inr (false, [(0, 0)]), .inr (false, [(0, 7)])], kch21, [], [([], some (.inr (false, [(-9, -9)])), kch142), ([], some (.inr (false, [(-1, 63)])), [])])
def kcx143 : aw_A := .inr (.inl (1, 60, [], [(34, [(49, 57)]), (33, [(48, 55)])]))
def kch144 : aw_H := [(14, kcx143)]
/-- MiceRegisters.faultOfFigure -/
def kcc137 : ak_C := (18, [.inl 14, .inr (false, [(-1, 60)]), .inr (false, [(34, 34)]), .inr (false, [(1, 1)]), .inr (false, [(9, 9)])], kch142, [], [([], some (.inr (false, [(-9, -9)])), kch144), ([], some (.inr (false, [(-1, 63)])), [])])
/-- MiceRegisters.readMouse -/
def kcc138 : ak_C := (19, [.inl 0, .inl 14, .inr (false, [(-1, 60)]), .inr (false, [(32, 32)])], kch39, [24, 29, 30, 31], [([], some (.inr (false, [(-1, 63)])), kch36), ([], some (.inr (false, [(-9, -9)])), kch38)])
theorem kck138 : ai_chk [kcc28, kcc136, kcc137] kcc138 (fun pc => sm_ch sm_t19 pc, sm_Kn 2 6 none, fun x => sm_lk sm_ca2 x, some .int) [24, 29, 30, 31] 6 0 [] [] 2000 [] = true := by decide +kernel
/-- MiceRegisters.readLine -/
def kcc139 : ak_C := (17, [.inl 0, .inl 14, .inr (false, [(-1, 60)]), .inr (false, [(31, 31)])], kch43, [24, 25, 26], [([[], [], [], []], some (.inr (false, [(-1, 60)])), kch40), ([[], [], [(1, 60)], []], some (.inr (false, [(-9, -9)])), kch42)])
theorem kck139 : ai_chk [kcc26] kcc139 (fun pc => sm_ch sm_t17 pc, sm_Kn 2 6 none, fun x => sm_lk sm_ca2 x, some .int) [24, 25, 26] 6 4 [29] [] 2000 [(29, [(0, .inl 0), (1, .inl 14), (2, .inr (false, [(-1, 60)])), (3, .inr (false, [(31, 31)])), (4, .inr (false, [(32, 32)]))], [], kch44),
  (29, [(0, .inl 0), (1, .inl 14), (2, .inr (false, [(1, 60)])), (3, .inr (false, [(31, 31)])), (4, .inr (false, [(33, 33)])), (5, .inr (false, [(-9, -9)]))], [], kch44),
  (29, [(0, .inl 0), (1, .inl 14), (2, .inr (false, [(1, 60)])), (3, .inr (false, [(31, 31)])), (4, .inr (false, [(34, 34)])), (5, .inr (false, [(-9, -9)]))], [], kch44),
  (29, [(0, .inl 0), (1, .inl 14), (2, .inr (false, [(1, 60)])), (3, .inr (false, [(31, 31)])), (4, .inr (false, [(35, 35)])), (5, .inr (false, [(-9, -9)]))], [], kch44)] = true := by decide +kernel
def kcx145 : aw_A := .inr (.inl (1, 60, [], [(32, [(48, 55)])]))
def kch146 : aw_H := [(14, kcx145)]
/-- MiceRegisters.faultOfFigure -/
def kcc140 : ak_C := (18, [.inl 14, .inr (false, [(-1, 60)]), .inr (false, [(32, 32)]), .inr (false, [(0, 0)]), .inr (false, [(0, 7)])], kch21, [], [([], some (.inr (false, [(-9, -9)])), kch146), ([], some (.inr (false, [(-1, 63)])), [])])
def kcx147 : aw_A := .inr (.inl (1, 60, [], [(33, [(49, 57)]), (32, [(48, 55)])]))
def kch148 : aw_H := [(14, kcx147)]
/-- MiceRegisters.faultOfFigure -/
def kcc141 : ak_C := (18, [.inl 14, .inr (false, [(-1, 60)]), .inr (false, [(33, 33)]), .inr (false, [(1, 1)]), .inr (false, [(9, 9)])], kch146, [], [([], some (.inr (false, [(-9, -9)])), kch148), ([], some (.inr (false, [(-1, 63)])), [])])
/-- MiceRegisters.readMouse -/
def kcc142 : ak_C := (19, [.inl 0, .inl 14, .inr (false, [(-1, 60)]), .inr (false, [(31, 31)])], kch39, [24, 29, 30, 31], [([], some (.inr (false, [(-1, 63)])), kch36), ([], some (.inr (false, [(-9, -9)])), kch38)])
theorem kck142 : ai_chk [kcc28, kcc140, kcc141] kcc142 (fun pc => sm_ch sm_t19 pc, sm_Kn 2 6 none, fun x => sm_lk sm_ca2 x, some .int) [24, 29, 30, 31] 6 0 [] [] 2000 [] = true := by decide +kernel
/-- MiceRegisters.readLine -/
def kcc143 : ak_C := (17, [.inl 0, .inl 14, .inr (false, [(-1, 60)]), .inr (false, [(30, 30)])], kch43, [24, 25, 26], [([[], [], [], []], some (.inr (false, [(-1, 60)])), kch40), ([[], [], [(1, 60)], []], some (.inr (false, [(-9, -9)])), kch42)])
theorem kck143 : ai_chk [kcc26] kcc143 (fun pc => sm_ch sm_t17 pc, sm_Kn 2 6 none, fun x => sm_lk sm_ca2 x, some .int) [24, 25, 26] 6 4 [29] [] 2000 [(29, [(0, .inl 0), (1, .inl 14), (2, .inr (false, [(-1, 60)])), (3, .inr (false, [(30, 30)])), (4, .inr (false, [(31, 31)]))], [], kch44),
  (29, [(0, .inl 0), (1, .inl 14), (2, .inr (false, [(1, 60)])), (3, .inr (false, [(30, 30)])), (4, .inr (false, [(32, 32)])), (5, .inr (false, [(-9, -9)]))], [], kch44),
  (29, [(0, .inl 0), (1, .inl 14), (2, .inr (false, [(1, 60)])), (3, .inr (false, [(30, 30)])), (4, .inr (false, [(33, 33)])), (5, .inr (false, [(-9, -9)]))], [], kch44),
  (29, [(0, .inl 0), (1, .inl 14), (2, .inr (false, [(1, 60)])), (3, .inr (false, [(30, 30)])), (4, .inr (false, [(34, 34)])), (5, .inr (false, [(-9, -9)]))], [], kch44)] = true := by decide +kernel
def kcx149 : aw_A := .inr (.inl (1, 60, [], [(31, [(48, 55)])]))
def kch150 : aw_H := [(14, kcx149)]
/-- MiceRegisters.faultOfFigure -/
def kcc144 : ak_C := (18, [.inl 14, .inr (false, [(-1, 60)]), .inr (false, [(31, 31)]), .inr (false, [(0, 0)]), .inr (false, [(0, 7)])], kch21, [], [([], some (.inr (false, [(-9, -9)])), kch150), ([], some (.inr (false, [(-1, 63)])), [])])
def kcx151 : aw_A := .inr (.inl (1, 60, [], [(32, [(49, 57)]), (31, [(48, 55)])]))
def kch152 : aw_H := [(14, kcx151)]
/-- MiceRegisters.faultOfFigure -/
def kcc145 : ak_C := (18, [.inl 14, .inr (false, [(-1, 60)]), .inr (false, [(32, 32)]), .inr (false, [(1, 1)]), .inr (false, [(9, 9)])], kch150, [], [([], some (.inr (false, [(-9, -9)])), kch152), ([], some (.inr (false, [(-1, 63)])), [])])
/-- MiceRegisters.readMouse -/
def kcc146 : ak_C := (19, [.inl 0, .inl 14, .inr (false, [(-1, 60)]), .inr (false, [(30, 30)])], kch39, [24, 29, 30, 31], [([], some (.inr (false, [(-1, 63)])), kch36), ([], some (.inr (false, [(-9, -9)])), kch38)])
theorem kck146 : ai_chk [kcc28, kcc144, kcc145] kcc146 (fun pc => sm_ch sm_t19 pc, sm_Kn 2 6 none, fun x => sm_lk sm_ca2 x, some .int) [24, 29, 30, 31] 6 0 [] [] 2000 [] = true := by decide +kernel
/-- MiceRegisters.readLine -/
def kcc147 : ak_C := (17, [.inl 0, .inl 14, .inr (false, [(-1, 60)]), .inr (false, [(29, 29)])], kch43, [24, 25, 26], [([[], [], [], []], some (.inr (false, [(-1, 60)])), kch40), ([[], [], [(1, 60)], []], some (.inr (false, [(-9, -9)])), kch42)])
theorem kck147 : ai_chk [kcc26] kcc147 (fun pc => sm_ch sm_t17 pc, sm_Kn 2 6 none, fun x => sm_lk sm_ca2 x, some .int) [24, 25, 26] 6 4 [29] [] 2000 [(29, [(0, .inl 0), (1, .inl 14), (2, .inr (false, [(-1, 60)])), (3, .inr (false, [(29, 29)])), (4, .inr (false, [(30, 30)]))], [], kch44),
  (29, [(0, .inl 0), (1, .inl 14), (2, .inr (false, [(1, 60)])), (3, .inr (false, [(29, 29)])), (4, .inr (false, [(31, 31)])), (5, .inr (false, [(-9, -9)]))], [], kch44),
  (29, [(0, .inl 0), (1, .inl 14), (2, .inr (false, [(1, 60)])), (3, .inr (false, [(29, 29)])), (4, .inr (false, [(32, 32)])), (5, .inr (false, [(-9, -9)]))], [], kch44),
  (29, [(0, .inl 0), (1, .inl 14), (2, .inr (false, [(1, 60)])), (3, .inr (false, [(29, 29)])), (4, .inr (false, [(33, 33)])), (5, .inr (false, [(-9, -9)]))], [], kch44)] = true := by decide +kernel
def kcx153 : aw_A := .inr (.inl (1, 60, [], [(30, [(48, 55)])]))
def kch154 : aw_H := [(14, kcx153)]
/-- MiceRegisters.faultOfFigure -/
def kcc148 : ak_C := (18, [.inl 14, .inr (false, [(-1, 60)]), .inr (false, [(30, 30)]), .inr (false, [(0, 0)]), .inr (false, [(0, 7)])], kch21, [], [([], some (.inr (false, [(-9, -9)])), kch154), ([], some (.inr (false, [(-1, 63)])), [])])
def kcx155 : aw_A := .inr (.inl (1, 60, [], [(31, [(49, 57)]), (30, [(48, 55)])]))
def kch156 : aw_H := [(14, kcx155)]
/-- MiceRegisters.faultOfFigure -/
def kcc149 : ak_C := (18, [.inl 14, .inr (false, [(-1, 60)]), .inr (false, [(31, 31)]), .inr (false, [(1, 1)]), .inr (false, [(9, 9)])], kch154, [], [([], some (.inr (false, [(-9, -9)])), kch156), ([], some (.inr (false, [(-1, 63)])), [])])
/-- MiceRegisters.readMouse -/
def kcc150 : ak_C := (19, [.inl 0, .inl 14, .inr (false, [(-1, 60)]), .inr (false, [(29, 29)])], kch39, [24, 29, 30, 31], [([], some (.inr (false, [(-1, 63)])), kch36), ([], some (.inr (false, [(-9, -9)])), kch38)])
theorem kck150 : ai_chk [kcc28, kcc148, kcc149] kcc150 (fun pc => sm_ch sm_t19 pc, sm_Kn 2 6 none, fun x => sm_lk sm_ca2 x, some .int) [24, 29, 30, 31] 6 0 [] [] 2000 [] = true := by decide +kernel
/-- MiceRegisters.readLine -/
def kcc151 : ak_C := (17, [.inl 0, .inl 14, .inr (false, [(-1, 60)]), .inr (false, [(28, 28)])], kch43, [24, 25, 26], [([[], [], [], []], some (.inr (false, [(-1, 60)])), kch40), ([[], [], [(1, 60)], []], some (.inr (false, [(-9, -9)])), kch42)])
theorem kck151 : ai_chk [kcc26] kcc151 (fun pc => sm_ch sm_t17 pc, sm_Kn 2 6 none, fun x => sm_lk sm_ca2 x, some .int) [24, 25, 26] 6 4 [29] [] 2000 [(29, [(0, .inl 0), (1, .inl 14), (2, .inr (false, [(-1, 60)])), (3, .inr (false, [(28, 28)])), (4, .inr (false, [(29, 29)]))], [], kch44),
  (29, [(0, .inl 0), (1, .inl 14), (2, .inr (false, [(1, 60)])), (3, .inr (false, [(28, 28)])), (4, .inr (false, [(30, 30)])), (5, .inr (false, [(-9, -9)]))], [], kch44),
  (29, [(0, .inl 0), (1, .inl 14), (2, .inr (false, [(1, 60)])), (3, .inr (false, [(28, 28)])), (4, .inr (false, [(31, 31)])), (5, .inr (false, [(-9, -9)]))], [], kch44),
  (29, [(0, .inl 0), (1, .inl 14), (2, .inr (false, [(1, 60)])), (3, .inr (false, [(28, 28)])), (4, .inr (false, [(32, 32)])), (5, .inr (false, [(-9, -9)]))], [], kch44)] = true := by decide +kernel
def kcx157 : aw_A := .inr (.inl (1, 60, [], [(29, [(48, 55)])]))
def kch158 : aw_H := [(14, kcx157)]
/-- MiceRegisters.faultOfFigure -/
def kcc152 : ak_C := (18, [.inl 14, .inr (false, [(-1, 60)]), .inr (false, [(29, 29)]), .inr (false, [(0, 0)]), .inr (false, [(0, 7)])], kch21, [], [([], some (.inr (false, [(-9, -9)])), kch158), ([], some (.inr (false, [(-1, 63)])), [])])
def kcx159 : aw_A := .inr (.inl (1, 60, [], [(30, [(49, 57)]), (29, [(48, 55)])]))
def kch160 : aw_H := [(14, kcx159)]
/-- MiceRegisters.faultOfFigure -/
def kcc153 : ak_C := (18, [.inl 14, .inr (false, [(-1, 60)]), .inr (false, [(30, 30)]), .inr (false, [(1, 1)]), .inr (false, [(9, 9)])], kch158, [], [([], some (.inr (false, [(-9, -9)])), kch160), ([], some (.inr (false, [(-1, 63)])), [])])
/-- MiceRegisters.readMouse -/
def kcc154 : ak_C := (19, [.inl 0, .inl 14, .inr (false, [(-1, 60)]), .inr (false, [(28, 28)])], kch39, [24, 29, 30, 31], [([], some (.inr (false, [(-1, 63)])), kch36), ([], some (.inr (false, [(-9, -9)])), kch38)])
theorem kck154 : ai_chk [kcc28, kcc152, kcc153] kcc154 (fun pc => sm_ch sm_t19 pc, sm_Kn 2 6 none, fun x => sm_lk sm_ca2 x, some .int) [24, 29, 30, 31] 6 0 [] [] 2000 [] = true := by decide +kernel
/-- MiceRegisters.readLine -/
def kcc155 : ak_C := (17, [.inl 0, .inl 14, .inr (false, [(-1, 60)]), .inr (false, [(27, 27)])], kch43, [24, 25, 26], [([[], [], [], []], some (.inr (false, [(-1, 60)])), kch40), ([[], [], [(1, 60)], []], some (.inr (false, [(-9, -9)])), kch42)])
theorem kck155 : ai_chk [kcc26] kcc155 (fun pc => sm_ch sm_t17 pc, sm_Kn 2 6 none, fun x => sm_lk sm_ca2 x, some .int) [24, 25, 26] 6 4 [29] [] 2000 [(29, [(0, .inl 0), (1, .inl 14), (2, .inr (false, [(-1, 60)])), (3, .inr (false, [(27, 27)])), (4, .inr (false, [(28, 28)]))], [], kch44),
  (29, [(0, .inl 0), (1, .inl 14), (2, .inr (false, [(1, 60)])), (3, .inr (false, [(27, 27)])), (4, .inr (false, [(29, 29)])), (5, .inr (false, [(-9, -9)]))], [], kch44),
  (29, [(0, .inl 0), (1, .inl 14), (2, .inr (false, [(1, 60)])), (3, .inr (false, [(27, 27)])), (4, .inr (false, [(30, 30)])), (5, .inr (false, [(-9, -9)]))], [], kch44),
  (29, [(0, .inl 0), (1, .inl 14), (2, .inr (false, [(1, 60)])), (3, .inr (false, [(27, 27)])), (4, .inr (false, [(31, 31)])), (5, .inr (false, [(-9, -9)]))], [], kch44)] = true := by decide +kernel
def kcx161 : aw_A := .inr (.inl (1, 60, [], [(28, [(48, 55)])]))
def kch162 : aw_H := [(14, kcx161)]
/-- MiceRegisters.faultOfFigure -/
def kcc156 : ak_C := (18, [.inl 14, .inr (false, [(-1, 60)]), .inr (false, [(28, 28)]), .inr (false, [(0, 0)]), .inr (false, [(0, 7)])], kch21, [], [([], some (.inr (false, [(-9, -9)])), kch162), ([], some (.inr (false, [(-1, 63)])), [])])
def kcx163 : aw_A := .inr (.inl (1, 60, [], [(29, [(49, 57)]), (28, [(48, 55)])]))
def kch164 : aw_H := [(14, kcx163)]
/-- MiceRegisters.faultOfFigure -/
def kcc157 : ak_C := (18, [.inl 14, .inr (false, [(-1, 60)]), .inr (false, [(29, 29)]), .inr (false, [(1, 1)]), .inr (false, [(9, 9)])], kch162, [], [([], some (.inr (false, [(-9, -9)])), kch164), ([], some (.inr (false, [(-1, 63)])), [])])
/-- MiceRegisters.readMouse -/
def kcc158 : ak_C := (19, [.inl 0, .inl 14, .inr (false, [(-1, 60)]), .inr (false, [(27, 27)])], kch39, [24, 29, 30, 31], [([], some (.inr (false, [(-1, 63)])), kch36), ([], some (.inr (false, [(-9, -9)])), kch38)])
theorem kck158 : ai_chk [kcc28, kcc156, kcc157] kcc158 (fun pc => sm_ch sm_t19 pc, sm_Kn 2 6 none, fun x => sm_lk sm_ca2 x, some .int) [24, 29, 30, 31] 6 0 [] [] 2000 [] = true := by decide +kernel
/-- MiceRegisters.readLine -/
def kcc159 : ak_C := (17, [.inl 0, .inl 14, .inr (false, [(-1, 60)]), .inr (false, [(26, 26)])], kch43, [24, 25, 26], [([[], [], [], []], some (.inr (false, [(-1, 60)])), kch40), ([[], [], [(1, 60)], []], some (.inr (false, [(-9, -9)])), kch42)])
theorem kck159 : ai_chk [kcc26] kcc159 (fun pc => sm_ch sm_t17 pc, sm_Kn 2 6 none, fun x => sm_lk sm_ca2 x, some .int) [24, 25, 26] 6 4 [29] [] 2000 [(29, [(0, .inl 0), (1, .inl 14), (2, .inr (false, [(-1, 60)])), (3, .inr (false, [(26, 26)])), (4, .inr (false, [(27, 27)]))], [], kch44),
  (29, [(0, .inl 0), (1, .inl 14), (2, .inr (false, [(1, 60)])), (3, .inr (false, [(26, 26)])), (4, .inr (false, [(28, 28)])), (5, .inr (false, [(-9, -9)]))], [], kch44),
  (29, [(0, .inl 0), (1, .inl 14), (2, .inr (false, [(1, 60)])), (3, .inr (false, [(26, 26)])), (4, .inr (false, [(29, 29)])), (5, .inr (false, [(-9, -9)]))], [], kch44),
  (29, [(0, .inl 0), (1, .inl 14), (2, .inr (false, [(1, 60)])), (3, .inr (false, [(26, 26)])), (4, .inr (false, [(30, 30)])), (5, .inr (false, [(-9, -9)]))], [], kch44)] = true := by decide +kernel
def kcx165 : aw_A := .inr (.inl (1, 60, [], [(27, [(48, 55)])]))
def kch166 : aw_H := [(14, kcx165)]
/-- MiceRegisters.faultOfFigure -/
def kcc160 : ak_C := (18, [.inl 14, .inr (false, [(-1, 60)]), .inr (false, [(27, 27)]), .inr (false, [(0, 0)]), .inr (false, [(0, 7)])], kch21, [], [([], some (.inr (false, [(-9, -9)])), kch166), ([], some (.inr (false, [(-1, 63)])), [])])
def kcx167 : aw_A := .inr (.inl (1, 60, [], [(28, [(49, 57)]), (27, [(48, 55)])]))
def kch168 : aw_H := [(14, kcx167)]
/-- MiceRegisters.faultOfFigure -/
def kcc161 : ak_C := (18, [.inl 14, .inr (false, [(-1, 60)]), .inr (false, [(28, 28)]), .inr (false, [(1, 1)]), .inr (false, [(9, 9)])], kch166, [], [([], some (.inr (false, [(-9, -9)])), kch168), ([], some (.inr (false, [(-1, 63)])), [])])
/-- MiceRegisters.readMouse -/
def kcc162 : ak_C := (19, [.inl 0, .inl 14, .inr (false, [(-1, 60)]), .inr (false, [(26, 26)])], kch39, [24, 29, 30, 31], [([], some (.inr (false, [(-1, 63)])), kch36), ([], some (.inr (false, [(-9, -9)])), kch38)])
theorem kck162 : ai_chk [kcc28, kcc160, kcc161] kcc162 (fun pc => sm_ch sm_t19 pc, sm_Kn 2 6 none, fun x => sm_lk sm_ca2 x, some .int) [24, 29, 30, 31] 6 0 [] [] 2000 [] = true := by decide +kernel
/-- MiceRegisters.readLine -/
def kcc163 : ak_C := (17, [.inl 0, .inl 14, .inr (false, [(-1, 60)]), .inr (false, [(25, 25)])], kch43, [24, 25, 26], [([[], [], [], []], some (.inr (false, [(-1, 60)])), kch40), ([[], [], [(1, 60)], []], some (.inr (false, [(-9, -9)])), kch42)])
theorem kck163 : ai_chk [kcc26] kcc163 (fun pc => sm_ch sm_t17 pc, sm_Kn 2 6 none, fun x => sm_lk sm_ca2 x, some .int) [24, 25, 26] 6 4 [29] [] 2000 [(29, [(0, .inl 0), (1, .inl 14), (2, .inr (false, [(-1, 60)])), (3, .inr (false, [(25, 25)])), (4, .inr (false, [(26, 26)]))], [], kch44),
  (29, [(0, .inl 0), (1, .inl 14), (2, .inr (false, [(1, 60)])), (3, .inr (false, [(25, 25)])), (4, .inr (false, [(27, 27)])), (5, .inr (false, [(-9, -9)]))], [], kch44),
  (29, [(0, .inl 0), (1, .inl 14), (2, .inr (false, [(1, 60)])), (3, .inr (false, [(25, 25)])), (4, .inr (false, [(28, 28)])), (5, .inr (false, [(-9, -9)]))], [], kch44),
  (29, [(0, .inl 0), (1, .inl 14), (2, .inr (false, [(1, 60)])), (3, .inr (false, [(25, 25)])), (4, .inr (false, [(29, 29)])), (5, .inr (false, [(-9, -9)]))], [], kch44)] = true := by decide +kernel
def kcx169 : aw_A := .inr (.inl (1, 60, [], [(26, [(48, 55)])]))
def kch170 : aw_H := [(14, kcx169)]
/-- MiceRegisters.faultOfFigure -/
def kcc164 : ak_C := (18, [.inl 14, .inr (false, [(-1, 60)]), .inr (false, [(26, 26)]), .inr (false, [(0, 0)]), .inr (false, [(0, 7)])], kch21, [], [([], some (.inr (false, [(-9, -9)])), kch170), ([], some (.inr (false, [(-1, 63)])), [])])
def kcx171 : aw_A := .inr (.inl (1, 60, [], [(27, [(49, 57)]), (26, [(48, 55)])]))
def kch172 : aw_H := [(14, kcx171)]
/-- MiceRegisters.faultOfFigure -/
def kcc165 : ak_C := (18, [.inl 14, .inr (false, [(-1, 60)]), .inr (false, [(27, 27)]), .inr (false, [(1, 1)]), .inr (false, [(9, 9)])], kch170, [], [([], some (.inr (false, [(-9, -9)])), kch172), ([], some (.inr (false, [(-1, 63)])), [])])
/-- MiceRegisters.readMouse -/
def kcc166 : ak_C := (19, [.inl 0, .inl 14, .inr (false, [(-1, 60)]), .inr (false, [(25, 25)])], kch39, [24, 29, 30, 31], [([], some (.inr (false, [(-1, 63)])), kch36), ([], some (.inr (false, [(-9, -9)])), kch38)])
theorem kck166 : ai_chk [kcc28, kcc164, kcc165] kcc166 (fun pc => sm_ch sm_t19 pc, sm_Kn 2 6 none, fun x => sm_lk sm_ca2 x, some .int) [24, 29, 30, 31] 6 0 [] [] 2000 [] = true := by decide +kernel
/-- MiceRegisters.readLine -/
def kcc167 : ak_C := (17, [.inl 0, .inl 14, .inr (false, [(-1, 60)]), .inr (false, [(24, 24)])], kch43, [24, 25, 26], [([[], [], [], []], some (.inr (false, [(-1, 60)])), kch40), ([[], [], [(1, 60)], []], some (.inr (false, [(-9, -9)])), kch42)])
theorem kck167 : ai_chk [kcc26] kcc167 (fun pc => sm_ch sm_t17 pc, sm_Kn 2 6 none, fun x => sm_lk sm_ca2 x, some .int) [24, 25, 26] 6 4 [29] [] 2000 [(29, [(0, .inl 0), (1, .inl 14), (2, .inr (false, [(-1, 60)])), (3, .inr (false, [(24, 24)])), (4, .inr (false, [(25, 25)]))], [], kch44),
  (29, [(0, .inl 0), (1, .inl 14), (2, .inr (false, [(1, 60)])), (3, .inr (false, [(24, 24)])), (4, .inr (false, [(26, 26)])), (5, .inr (false, [(-9, -9)]))], [], kch44),
  (29, [(0, .inl 0), (1, .inl 14), (2, .inr (false, [(1, 60)])), (3, .inr (false, [(24, 24)])), (4, .inr (false, [(27, 27)])), (5, .inr (false, [(-9, -9)]))], [], kch44),
  (29, [(0, .inl 0), (1, .inl 14), (2, .inr (false, [(1, 60)])), (3, .inr (false, [(24, 24)])), (4, .inr (false, [(28, 28)])), (5, .inr (false, [(-9, -9)]))], [], kch44)] = true := by decide +kernel
def kcx173 : aw_A := .inr (.inl (1, 60, [], [(25, [(48, 55)])]))
def kch174 : aw_H := [(14, kcx173)]
/-- MiceRegisters.faultOfFigure -/
def kcc168 : ak_C := (18, [.inl 14, .inr (false, [(-1, 60)]), .inr (false, [(25, 25)]), .inr (false, [(0, 0)]), .inr (false, [(0, 7)])], kch21, [], [([], some (.inr (false, [(-9, -9)])), kch174), ([], some (.inr (false, [(-1, 63)])), [])])
def kcx175 : aw_A := .inr (.inl (1, 60, [], [(26, [(49, 57)]), (25, [(48, 55)])]))
def kch176 : aw_H := [(14, kcx175)]
/-- MiceRegisters.faultOfFigure -/
def kcc169 : ak_C := (18, [.inl 14, .inr (false, [(-1, 60)]), .inr (false, [(26, 26)]), .inr (false, [(1, 1)]), .inr (false, [(9, 9)])], kch174, [], [([], some (.inr (false, [(-9, -9)])), kch176), ([], some (.inr (false, [(-1, 63)])), [])])
/-- MiceRegisters.readMouse -/
def kcc170 : ak_C := (19, [.inl 0, .inl 14, .inr (false, [(-1, 60)]), .inr (false, [(24, 24)])], kch39, [24, 29, 30, 31], [([], some (.inr (false, [(-1, 63)])), kch36), ([], some (.inr (false, [(-9, -9)])), kch38)])
theorem kck170 : ai_chk [kcc28, kcc168, kcc169] kcc170 (fun pc => sm_ch sm_t19 pc, sm_Kn 2 6 none, fun x => sm_lk sm_ca2 x, some .int) [24, 29, 30, 31] 6 0 [] [] 2000 [] = true := by decide +kernel
/-- MiceRegisters.readLine -/
def kcc171 : ak_C := (17, [.inl 0, .inl 14, .inr (false, [(-1, 60)]), .inr (false, [(23, 23)])], kch43, [24, 25, 26], [([[], [], [], []], some (.inr (false, [(-1, 60)])), kch40), ([[], [], [(1, 60)], []], some (.inr (false, [(-9, -9)])), kch42)])
theorem kck171 : ai_chk [kcc26] kcc171 (fun pc => sm_ch sm_t17 pc, sm_Kn 2 6 none, fun x => sm_lk sm_ca2 x, some .int) [24, 25, 26] 6 4 [29] [] 2000 [(29, [(0, .inl 0), (1, .inl 14), (2, .inr (false, [(-1, 60)])), (3, .inr (false, [(23, 23)])), (4, .inr (false, [(24, 24)]))], [], kch44),
  (29, [(0, .inl 0), (1, .inl 14), (2, .inr (false, [(1, 60)])), (3, .inr (false, [(23, 23)])), (4, .inr (false, [(25, 25)])), (5, .inr (false, [(-9, -9)]))], [], kch44),
  (29, [(0, .inl 0), (1, .inl 14), (2, .inr (false, [(1, 60)])), (3, .inr (false, [(23, 23)])), (4, .inr (false, [(26, 26)])), (5, .inr (false, [(-9, -9)]))], [], kch44),
  (29, [(0, .inl 0), (1, .inl 14), (2, .inr (false, [(1, 60)])), (3, .inr (false, [(23, 23)])), (4, .inr (false, [(27, 27)])), (5, .inr (false, [(-9, -9)]))], [], kch44)] = true := by decide +kernel
def kcx177 : aw_A := .inr (.inl (1, 60, [], [(24, [(48, 55)])]))
def kch178 : aw_H := [(14, kcx177)]
/-- MiceRegisters.faultOfFigure -/
def kcc172 : ak_C := (18, [.inl 14, .inr (false, [(-1, 60)]), .inr (false, [(24, 24)]), .inr (false, [(0, 0)]), .inr (false, [(0, 7)])], kch21, [], [([], some (.inr (false, [(-9, -9)])), kch178), ([], some (.inr (false, [(-1, 63)])), [])])
def kcx179 : aw_A := .inr (.inl (1, 60, [], [(25, [(49, 57)]), (24, [(48, 55)])]))
def kch180 : aw_H := [(14, kcx179)]
/-- MiceRegisters.faultOfFigure -/
def kcc173 : ak_C := (18, [.inl 14, .inr (false, [(-1, 60)]), .inr (false, [(25, 25)]), .inr (false, [(1, 1)]), .inr (false, [(9, 9)])], kch178, [], [([], some (.inr (false, [(-9, -9)])), kch180), ([], some (.inr (false, [(-1, 63)])), [])])
/-- MiceRegisters.readMouse -/
def kcc174 : ak_C := (19, [.inl 0, .inl 14, .inr (false, [(-1, 60)]), .inr (false, [(23, 23)])], kch39, [24, 29, 30, 31], [([], some (.inr (false, [(-1, 63)])), kch36), ([], some (.inr (false, [(-9, -9)])), kch38)])
theorem kck174 : ai_chk [kcc28, kcc172, kcc173] kcc174 (fun pc => sm_ch sm_t19 pc, sm_Kn 2 6 none, fun x => sm_lk sm_ca2 x, some .int) [24, 29, 30, 31] 6 0 [] [] 2000 [] = true := by decide +kernel
/-- MiceRegisters.readLine -/
def kcc175 : ak_C := (17, [.inl 0, .inl 14, .inr (false, [(-1, 60)]), .inr (false, [(22, 22)])], kch43, [24, 25, 26], [([[], [], [], []], some (.inr (false, [(-1, 60)])), kch40), ([[], [], [(1, 60)], []], some (.inr (false, [(-9, -9)])), kch42)])
theorem kck175 : ai_chk [kcc26] kcc175 (fun pc => sm_ch sm_t17 pc, sm_Kn 2 6 none, fun x => sm_lk sm_ca2 x, some .int) [24, 25, 26] 6 4 [29] [] 2000 [(29, [(0, .inl 0), (1, .inl 14), (2, .inr (false, [(-1, 60)])), (3, .inr (false, [(22, 22)])), (4, .inr (false, [(23, 23)]))], [], kch44),
  (29, [(0, .inl 0), (1, .inl 14), (2, .inr (false, [(1, 60)])), (3, .inr (false, [(22, 22)])), (4, .inr (false, [(24, 24)])), (5, .inr (false, [(-9, -9)]))], [], kch44),
  (29, [(0, .inl 0), (1, .inl 14), (2, .inr (false, [(1, 60)])), (3, .inr (false, [(22, 22)])), (4, .inr (false, [(25, 25)])), (5, .inr (false, [(-9, -9)]))], [], kch44),
  (29, [(0, .inl 0), (1, .inl 14), (2, .inr (false, [(1, 60)])), (3, .inr (false, [(22, 22)])), (4, .inr (false, [(26, 26)])), (5, .inr (false, [(-9, -9)]))], [], kch44)] = true := by decide +kernel
def kcx181 : aw_A := .inr (.inl (1, 60, [], [(23, [(48, 55)])]))
def kch182 : aw_H := [(14, kcx181)]
/-- MiceRegisters.faultOfFigure -/
def kcc176 : ak_C := (18, [.inl 14, .inr (false, [(-1, 60)]), .inr (false, [(23, 23)]), .inr (false, [(0, 0)]), .inr (false, [(0, 7)])], kch21, [], [([], some (.inr (false, [(-9, -9)])), kch182), ([], some (.inr (false, [(-1, 63)])), [])])
def kcx183 : aw_A := .inr (.inl (1, 60, [], [(24, [(49, 57)]), (23, [(48, 55)])]))
def kch184 : aw_H := [(14, kcx183)]
/-- MiceRegisters.faultOfFigure -/
def kcc177 : ak_C := (18, [.inl 14, .inr (false, [(-1, 60)]), .inr (false, [(24, 24)]), .inr (false, [(1, 1)]), .inr (false, [(9, 9)])], kch182, [], [([], some (.inr (false, [(-9, -9)])), kch184), ([], some (.inr (false, [(-1, 63)])), [])])
/-- MiceRegisters.readMouse -/
def kcc178 : ak_C := (19, [.inl 0, .inl 14, .inr (false, [(-1, 60)]), .inr (false, [(22, 22)])], kch39, [24, 29, 30, 31], [([], some (.inr (false, [(-1, 63)])), kch36), ([], some (.inr (false, [(-9, -9)])), kch38)])
theorem kck178 : ai_chk [kcc28, kcc176, kcc177] kcc178 (fun pc => sm_ch sm_t19 pc, sm_Kn 2 6 none, fun x => sm_lk sm_ca2 x, some .int) [24, 29, 30, 31] 6 0 [] [] 2000 [] = true := by decide +kernel
/-- MiceRegisters.readLine -/
def kcc179 : ak_C := (17, [.inl 0, .inl 14, .inr (false, [(-1, 60)]), .inr (false, [(21, 21)])], kch43, [24, 25, 26], [([[], [], [], []], some (.inr (false, [(-1, 60)])), kch40), ([[], [], [(1, 60)], []], some (.inr (false, [(-9, -9)])), kch42)])
theorem kck179 : ai_chk [kcc26] kcc179 (fun pc => sm_ch sm_t17 pc, sm_Kn 2 6 none, fun x => sm_lk sm_ca2 x, some .int) [24, 25, 26] 6 4 [29] [] 2000 [(29, [(0, .inl 0), (1, .inl 14), (2, .inr (false, [(-1, 60)])), (3, .inr (false, [(21, 21)])), (4, .inr (false, [(22, 22)]))], [], kch44),
  (29, [(0, .inl 0), (1, .inl 14), (2, .inr (false, [(1, 60)])), (3, .inr (false, [(21, 21)])), (4, .inr (false, [(23, 23)])), (5, .inr (false, [(-9, -9)]))], [], kch44),
  (29, [(0, .inl 0), (1, .inl 14), (2, .inr (false, [(1, 60)])), (3, .inr (false, [(21, 21)])), (4, .inr (false, [(24, 24)])), (5, .inr (false, [(-9, -9)]))], [], kch44),
  (29, [(0, .inl 0), (1, .inl 14), (2, .inr (false, [(1, 60)])), (3, .inr (false, [(21, 21)])), (4, .inr (false, [(25, 25)])), (5, .inr (false, [(-9, -9)]))], [], kch44)] = true := by decide +kernel
def kcx185 : aw_A := .inr (.inl (1, 60, [], [(22, [(48, 55)])]))
def kch186 : aw_H := [(14, kcx185)]
/-- MiceRegisters.faultOfFigure -/
def kcc180 : ak_C := (18, [.inl 14, .inr (false, [(-1, 60)]), .inr (false, [(22, 22)]), .inr (false, [(0, 0)]), .inr (false, [(0, 7)])], kch21, [], [([], some (.inr (false, [(-9, -9)])), kch186), ([], some (.inr (false, [(-1, 63)])), [])])
def kcx187 : aw_A := .inr (.inl (1, 60, [], [(23, [(49, 57)]), (22, [(48, 55)])]))
def kch188 : aw_H := [(14, kcx187)]
/-- MiceRegisters.faultOfFigure -/
def kcc181 : ak_C := (18, [.inl 14, .inr (false, [(-1, 60)]), .inr (false, [(23, 23)]), .inr (false, [(1, 1)]), .inr (false, [(9, 9)])], kch186, [], [([], some (.inr (false, [(-9, -9)])), kch188), ([], some (.inr (false, [(-1, 63)])), [])])
/-- MiceRegisters.readMouse -/
def kcc182 : ak_C := (19, [.inl 0, .inl 14, .inr (false, [(-1, 60)]), .inr (false, [(21, 21)])], kch39, [24, 29, 30, 31], [([], some (.inr (false, [(-1, 63)])), kch36), ([], some (.inr (false, [(-9, -9)])), kch38)])
theorem kck182 : ai_chk [kcc28, kcc180, kcc181] kcc182 (fun pc => sm_ch sm_t19 pc, sm_Kn 2 6 none, fun x => sm_lk sm_ca2 x, some .int) [24, 29, 30, 31] 6 0 [] [] 2000 [] = true := by decide +kernel
/-- MiceRegisters.readLine -/
def kcc183 : ak_C := (17, [.inl 0, .inl 14, .inr (false, [(-1, 60)]), .inr (false, [(20, 20)])], kch43, [24, 25, 26], [([[], [], [], []], some (.inr (false, [(-1, 60)])), kch40), ([[], [], [(1, 60)], []], some (.inr (false, [(-9, -9)])), kch42)])
theorem kck183 : ai_chk [kcc26] kcc183 (fun pc => sm_ch sm_t17 pc, sm_Kn 2 6 none, fun x => sm_lk sm_ca2 x, some .int) [24, 25, 26] 6 4 [29] [] 2000 [(29, [(0, .inl 0), (1, .inl 14), (2, .inr (false, [(-1, 60)])), (3, .inr (false, [(20, 20)])), (4, .inr (false, [(21, 21)]))], [], kch44),
  (29, [(0, .inl 0), (1, .inl 14), (2, .inr (false, [(1, 60)])), (3, .inr (false, [(20, 20)])), (4, .inr (false, [(22, 22)])), (5, .inr (false, [(-9, -9)]))], [], kch44),
  (29, [(0, .inl 0), (1, .inl 14), (2, .inr (false, [(1, 60)])), (3, .inr (false, [(20, 20)])), (4, .inr (false, [(23, 23)])), (5, .inr (false, [(-9, -9)]))], [], kch44),
  (29, [(0, .inl 0), (1, .inl 14), (2, .inr (false, [(1, 60)])), (3, .inr (false, [(20, 20)])), (4, .inr (false, [(24, 24)])), (5, .inr (false, [(-9, -9)]))], [], kch44)] = true := by decide +kernel
