/-! Contracts over ranges of the class, and their checks; printed by a program of mine. -/
/-- MiceRegisters.readLine -/
def kcc295 : ak_C := (17, [.inl 0, .inl 13, .inr (false, [(-1, 60)]), .inr (false, [(51, 51)])], kch275, [24, 25, 26], [([[], [], [], []], some (.inr (false, [(-1, 60)])), kch40), ([[], [], [(1, 60)], []], some (.inr (false, [(-9, -9)])), kch42)])
theorem kck295 : ai_chk [kcc263] kcc295 (fun pc => sm_ch sm_t17 pc, sm_Kn 2 6 none, fun x => sm_lk sm_ca2 x, some .int) [24, 25, 26] 6 4 [29] [] 2000 [(29, [(0, .inl 0), (1, .inl 13), (2, .inr (false, [(-1, 60)])), (3, .inr (false, [(51, 51)])), (4, .inr (false, [(52, 52)]))], [], kch276),
  (29, [(0, .inl 0), (1, .inl 13), (2, .inr (false, [(1, 60)])), (3, .inr (false, [(51, 51)])), (4, .inr (false, [(53, 53)])), (5, .inr (false, [(-9, -9)]))], [], kch276),
  (29, [(0, .inl 0), (1, .inl 13), (2, .inr (false, [(1, 60)])), (3, .inr (false, [(51, 51)])), (4, .inr (false, [(54, 54)])), (5, .inr (false, [(-9, -9)]))], [], kch276),
  (29, [(0, .inl 0), (1, .inl 13), (2, .inr (false, [(1, 60)])), (3, .inr (false, [(51, 51)])), (4, .inr (false, [(55, 55)])), (5, .inr (false, [(-9, -9)]))], [], kch276)] = true := by decide +kernel
def kch287 : aw_H := [(13, kcx65)]
/-- MiceRegisters.faultOfFigure -/
def kcc296 : ak_C := (18, [.inl 13, .inr (false, [(-1, 60)]), .inr (false, [(52, 52)]), .inr (false, [(0, 0)]), .inr (false, [(0, 7)])], kch22, [], [([], some (.inr (false, [(-9, -9)])), kch287), ([], some (.inr (false, [(-1, 63)])), [])])
def kch288 : aw_H := [(13, kcx67)]
/-- MiceRegisters.faultOfFigure -/
def kcc297 : ak_C := (18, [.inl 13, .inr (false, [(-1, 60)]), .inr (false, [(53, 53)]), .inr (false, [(1, 1)]), .inr (false, [(9, 9)])], kch287, [], [([], some (.inr (false, [(-9, -9)])), kch288), ([], some (.inr (false, [(-1, 63)])), [])])
/-- MiceRegisters.readMouse -/
def kcc298 : ak_C := (19, [.inl 0, .inl 13, .inr (false, [(-1, 60)]), .inr (false, [(51, 51)])], kch274, [24, 29, 30, 31], [([], some (.inr (false, [(-1, 63)])), kch36), ([], some (.inr (false, [(-9, -9)])), kch38)])
theorem kck298 : ai_chk [kcc28, kcc296, kcc297] kcc298 (fun pc => sm_ch sm_t19 pc, sm_Kn 2 6 none, fun x => sm_lk sm_ca2 x, some .int) [24, 29, 30, 31] 6 0 [] [] 2000 [] = true := by decide +kernel
/-- MiceRegisters.readLine -/
def kcc299 : ak_C := (17, [.inl 0, .inl 13, .inr (false, [(-1, 60)]), .inr (false, [(50, 50)])], kch275, [24, 25, 26], [([[], [], [], []], some (.inr (false, [(-1, 60)])), kch40), ([[], [], [(1, 60)], []], some (.inr (false, [(-9, -9)])), kch42)])
theorem kck299 : ai_chk [kcc263] kcc299 (fun pc => sm_ch sm_t17 pc, sm_Kn 2 6 none, fun x => sm_lk sm_ca2 x, some .int) [24, 25, 26] 6 4 [29] [] 2000 [(29, [(0, .inl 0), (1, .inl 13), (2, .inr (false, [(-1, 60)])), (3, .inr (false, [(50, 50)])), (4, .inr (false, [(51, 51)]))], [], kch276),
  (29, [(0, .inl 0), (1, .inl 13), (2, .inr (false, [(1, 60)])), (3, .inr (false, [(50, 50)])), (4, .inr (false, [(52, 52)])), (5, .inr (false, [(-9, -9)]))], [], kch276),
  (29, [(0, .inl 0), (1, .inl 13), (2, .inr (false, [(1, 60)])), (3, .inr (false, [(50, 50)])), (4, .inr (false, [(53, 53)])), (5, .inr (false, [(-9, -9)]))], [], kch276),
  (29, [(0, .inl 0), (1, .inl 13), (2, .inr (false, [(1, 60)])), (3, .inr (false, [(50, 50)])), (4, .inr (false, [(54, 54)])), (5, .inr (false, [(-9, -9)]))], [], kch276)] = true := by decide +kernel
def kch289 : aw_H := [(13, kcx69)]
/-- MiceRegisters.faultOfFigure -/
def kcc300 : ak_C := (18, [.inl 13, .inr (false, [(-1, 60)]), .inr (false, [(51, 51)]), .inr (false, [(0, 0)]), .inr (false, [(0, 7)])], kch22, [], [([], some (.inr (false, [(-9, -9)])), kch289), ([], some (.inr (false, [(-1, 63)])), [])])
def kch290 : aw_H := [(13, kcx71)]
/-- MiceRegisters.faultOfFigure -/
def kcc301 : ak_C := (18, [.inl 13, .inr (false, [(-1, 60)]), .inr (false, [(52, 52)]), .inr (false, [(1, 1)]), .inr (false, [(9, 9)])], kch289, [], [([], some (.inr (false, [(-9, -9)])), kch290), ([], some (.inr (false, [(-1, 63)])), [])])
/-- MiceRegisters.readMouse -/
def kcc302 : ak_C := (19, [.inl 0, .inl 13, .inr (false, [(-1, 60)]), .inr (false, [(50, 50)])], kch274, [24, 29, 30, 31], [([], some (.inr (false, [(-1, 63)])), kch36), ([], some (.inr (false, [(-9, -9)])), kch38)])
theorem kck302 : ai_chk [kcc28, kcc300, kcc301] kcc302 (fun pc => sm_ch sm_t19 pc, sm_Kn 2 6 none, fun x => sm_lk sm_ca2 x, some .int) [24, 29, 30, 31] 6 0 [] [] 2000 [] = true := by decide +kernel
/-- MiceRegisters.readLine -/
def kcc303 : ak_C := (17, [.inl 0, .inl 13, .inr (false, [(-1, 60)]), .inr (false, [(49, 49)])], kch275, [24, 25, 26], [([[], [], [], []], some (.inr (false, [(-1, 60)])), kch40), ([[], [], [(1, 60)], []], some (.inr (false, [(-9, -9)])), kch42)])
theorem kck303 : ai_chk [kcc263] kcc303 (fun pc => sm_ch sm_t17 pc, sm_Kn 2 6 none, fun x => sm_lk sm_ca2 x, some .int) [24, 25, 26] 6 4 [29] [] 2000 [(29, [(0, .inl 0), (1, .inl 13), (2, .inr (false, [(-1, 60)])), (3, .inr (false, [(49, 49)])), (4, .inr (false, [(50, 50)]))], [], kch276),
  (29, [(0, .inl 0), (1, .inl 13), (2, .inr (false, [(1, 60)])), (3, .inr (false, [(49, 49)])), (4, .inr (false, [(51, 51)])), (5, .inr (false, [(-9, -9)]))], [], kch276),
  (29, [(0, .inl 0), (1, .inl 13), (2, .inr (false, [(1, 60)])), (3, .inr (false, [(49, 49)])), (4, .inr (false, [(52, 52)])), (5, .inr (false, [(-9, -9)]))], [], kch276),
  (29, [(0, .inl 0), (1, .inl 13), (2, .inr (false, [(1, 60)])), (3, .inr (false, [(49, 49)])), (4, .inr (false, [(53, 53)])), (5, .inr (false, [(-9, -9)]))], [], kch276)] = true := by decide +kernel
def kch291 : aw_H := [(13, kcx73)]
/-- MiceRegisters.faultOfFigure -/
def kcc304 : ak_C := (18, [.inl 13, .inr (false, [(-1, 60)]), .inr (false, [(50, 50)]), .inr (false, [(0, 0)]), .inr (false, [(0, 7)])], kch22, [], [([], some (.inr (false, [(-9, -9)])), kch291), ([], some (.inr (false, [(-1, 63)])), [])])
def kch292 : aw_H := [(13, kcx75)]
/-- MiceRegisters.faultOfFigure -/
def kcc305 : ak_C := (18, [.inl 13, .inr (false, [(-1, 60)]), .inr (false, [(51, 51)]), .inr (false, [(1, 1)]), .inr (false, [(9, 9)])], kch291, [], [([], some (.inr (false, [(-9, -9)])), kch292), ([], some (.inr (false, [(-1, 63)])), [])])
/-- MiceRegisters.readMouse -/
def kcc306 : ak_C := (19, [.inl 0, .inl 13, .inr (false, [(-1, 60)]), .inr (false, [(49, 49)])], kch274, [24, 29, 30, 31], [([], some (.inr (false, [(-1, 63)])), kch36), ([], some (.inr (false, [(-9, -9)])), kch38)])
theorem kck306 : ai_chk [kcc28, kcc304, kcc305] kcc306 (fun pc => sm_ch sm_t19 pc, sm_Kn 2 6 none, fun x => sm_lk sm_ca2 x, some .int) [24, 29, 30, 31] 6 0 [] [] 2000 [] = true := by decide +kernel
/-- MiceRegisters.readLine -/
def kcc307 : ak_C := (17, [.inl 0, .inl 13, .inr (false, [(-1, 60)]), .inr (false, [(48, 48)])], kch275, [24, 25, 26], [([[], [], [], []], some (.inr (false, [(-1, 60)])), kch40), ([[], [], [(1, 60)], []], some (.inr (false, [(-9, -9)])), kch42)])
theorem kck307 : ai_chk [kcc263] kcc307 (fun pc => sm_ch sm_t17 pc, sm_Kn 2 6 none, fun x => sm_lk sm_ca2 x, some .int) [24, 25, 26] 6 4 [29] [] 2000 [(29, [(0, .inl 0), (1, .inl 13), (2, .inr (false, [(-1, 60)])), (3, .inr (false, [(48, 48)])), (4, .inr (false, [(49, 49)]))], [], kch276),
  (29, [(0, .inl 0), (1, .inl 13), (2, .inr (false, [(1, 60)])), (3, .inr (false, [(48, 48)])), (4, .inr (false, [(50, 50)])), (5, .inr (false, [(-9, -9)]))], [], kch276),
  (29, [(0, .inl 0), (1, .inl 13), (2, .inr (false, [(1, 60)])), (3, .inr (false, [(48, 48)])), (4, .inr (false, [(51, 51)])), (5, .inr (false, [(-9, -9)]))], [], kch276),
  (29, [(0, .inl 0), (1, .inl 13), (2, .inr (false, [(1, 60)])), (3, .inr (false, [(48, 48)])), (4, .inr (false, [(52, 52)])), (5, .inr (false, [(-9, -9)]))], [], kch276)] = true := by decide +kernel
def kch293 : aw_H := [(13, kcx77)]
/-- MiceRegisters.faultOfFigure -/
def kcc308 : ak_C := (18, [.inl 13, .inr (false, [(-1, 60)]), .inr (false, [(49, 49)]), .inr (false, [(0, 0)]), .inr (false, [(0, 7)])], kch22, [], [([], some (.inr (false, [(-9, -9)])), kch293), ([], some (.inr (false, [(-1, 63)])), [])])
def kch294 : aw_H := [(13, kcx79)]
/-- MiceRegisters.faultOfFigure -/
def kcc309 : ak_C := (18, [.inl 13, .inr (false, [(-1, 60)]), .inr (false, [(50, 50)]), .inr (false, [(1, 1)]), .inr (false, [(9, 9)])], kch293, [], [([], some (.inr (false, [(-9, -9)])), kch294), ([], some (.inr (false, [(-1, 63)])), [])])
/-- MiceRegisters.readMouse -/
def kcc310 : ak_C := (19, [.inl 0, .inl 13, .inr (false, [(-1, 60)]), .inr (false, [(48, 48)])], kch274, [24, 29, 30, 31], [([], some (.inr (false, [(-1, 63)])), kch36), ([], some (.inr (false, [(-9, -9)])), kch38)])
theorem kck310 : ai_chk [kcc28, kcc308, kcc309] kcc310 (fun pc => sm_ch sm_t19 pc, sm_Kn 2 6 none, fun x => sm_lk sm_ca2 x, some .int) [24, 29, 30, 31] 6 0 [] [] 2000 [] = true := by decide +kernel
/-- MiceRegisters.readLine -/
def kcc311 : ak_C := (17, [.inl 0, .inl 13, .inr (false, [(-1, 60)]), .inr (false, [(47, 47)])], kch275, [24, 25, 26], [([[], [], [], []], some (.inr (false, [(-1, 60)])), kch40), ([[], [], [(1, 60)], []], some (.inr (false, [(-9, -9)])), kch42)])
theorem kck311 : ai_chk [kcc263] kcc311 (fun pc => sm_ch sm_t17 pc, sm_Kn 2 6 none, fun x => sm_lk sm_ca2 x, some .int) [24, 25, 26] 6 4 [29] [] 2000 [(29, [(0, .inl 0), (1, .inl 13), (2, .inr (false, [(-1, 60)])), (3, .inr (false, [(47, 47)])), (4, .inr (false, [(48, 48)]))], [], kch276),
  (29, [(0, .inl 0), (1, .inl 13), (2, .inr (false, [(1, 60)])), (3, .inr (false, [(47, 47)])), (4, .inr (false, [(49, 49)])), (5, .inr (false, [(-9, -9)]))], [], kch276),
  (29, [(0, .inl 0), (1, .inl 13), (2, .inr (false, [(1, 60)])), (3, .inr (false, [(47, 47)])), (4, .inr (false, [(50, 50)])), (5, .inr (false, [(-9, -9)]))], [], kch276),
  (29, [(0, .inl 0), (1, .inl 13), (2, .inr (false, [(1, 60)])), (3, .inr (false, [(47, 47)])), (4, .inr (false, [(51, 51)])), (5, .inr (false, [(-9, -9)]))], [], kch276)] = true := by decide +kernel
def kch295 : aw_H := [(13, kcx81)]
/-- MiceRegisters.faultOfFigure -/
def kcc312 : ak_C := (18, [.inl 13, .inr (false, [(-1, 60)]), .inr (false, [(48, 48)]), .inr (false, [(0, 0)]), .inr (false, [(0, 7)])], kch22, [], [([], some (.inr (false, [(-9, -9)])), kch295), ([], some (.inr (false, [(-1, 63)])), [])])
def kch296 : aw_H := [(13, kcx83)]
/-- MiceRegisters.faultOfFigure -/
def kcc313 : ak_C := (18, [.inl 13, .inr (false, [(-1, 60)]), .inr (false, [(49, 49)]), .inr (false, [(1, 1)]), .inr (false, [(9, 9)])], kch295, [], [([], some (.inr (false, [(-9, -9)])), kch296), ([], some (.inr (false, [(-1, 63)])), [])])
/-- MiceRegisters.readMouse -/
def kcc314 : ak_C := (19, [.inl 0, .inl 13, .inr (false, [(-1, 60)]), .inr (false, [(47, 47)])], kch274, [24, 29, 30, 31], [([], some (.inr (false, [(-1, 63)])), kch36), ([], some (.inr (false, [(-9, -9)])), kch38)])
theorem kck314 : ai_chk [kcc28, kcc312, kcc313] kcc314 (fun pc => sm_ch sm_t19 pc, sm_Kn 2 6 none, fun x => sm_lk sm_ca2 x, some .int) [24, 29, 30, 31] 6 0 [] [] 2000 [] = true := by decide +kernel
/-- MiceRegisters.readLine -/
def kcc315 : ak_C := (17, [.inl 0, .inl 13, .inr (false, [(-1, 60)]), .inr (false, [(46, 46)])], kch275, [24, 25, 26], [([[], [], [], []], some (.inr (false, [(-1, 60)])), kch40), ([[], [], [(1, 60)], []], some (.inr (false, [(-9, -9)])), kch42)])
theorem kck315 : ai_chk [kcc263] kcc315 (fun pc => sm_ch sm_t17 pc, sm_Kn 2 6 none, fun x => sm_lk sm_ca2 x, some .int) [24, 25, 26] 6 4 [29] [] 2000 [(29, [(0, .inl 0), (1, .inl 13), (2, .inr (false, [(-1, 60)])), (3, .inr (false, [(46, 46)])), (4, .inr (false, [(47, 47)]))], [], kch276),
  (29, [(0, .inl 0), (1, .inl 13), (2, .inr (false, [(1, 60)])), (3, .inr (false, [(46, 46)])), (4, .inr (false, [(48, 48)])), (5, .inr (false, [(-9, -9)]))], [], kch276),
  (29, [(0, .inl 0), (1, .inl 13), (2, .inr (false, [(1, 60)])), (3, .inr (false, [(46, 46)])), (4, .inr (false, [(49, 49)])), (5, .inr (false, [(-9, -9)]))], [], kch276),
  (29, [(0, .inl 0), (1, .inl 13), (2, .inr (false, [(1, 60)])), (3, .inr (false, [(46, 46)])), (4, .inr (false, [(50, 50)])), (5, .inr (false, [(-9, -9)]))], [], kch276)] = true := by decide +kernel
def kch297 : aw_H := [(13, kcx85)]
/-- MiceRegisters.faultOfFigure -/
def kcc316 : ak_C := (18, [.inl 13, .inr (false, [(-1, 60)]), .inr (false, [(47, 47)]), .inr (false, [(0, 0)]), .inr (false, [(0, 7)])], kch22, [], [([], some (.inr (false, [(-9, -9)])), kch297), ([], some (.inr (false, [(-1, 63)])), [])])
def kch298 : aw_H := [(13, kcx87)]
/-- MiceRegisters.faultOfFigure -/
def kcc317 : ak_C := (18, [.inl 13, .inr (false, [(-1, 60)]), .inr (false, [(48, 48)]), .inr (false, [(1, 1)]), .inr (false, [(9, 9)])], kch297, [], [([], some (.inr (false, [(-9, -9)])), kch298), ([], some (.inr (false, [(-1, 63)])), [])])
/-- MiceRegisters.readMouse -/
def kcc318 : ak_C := (19, [.inl 0, .inl 13, .inr (false, [(-1, 60)]), .inr (false, [(46, 46)])], kch274, [24, 29, 30, 31], [([], some (.inr (false, [(-1, 63)])), kch36), ([], some (.inr (false, [(-9, -9)])), kch38)])
theorem kck318 : ai_chk [kcc28, kcc316, kcc317] kcc318 (fun pc => sm_ch sm_t19 pc, sm_Kn 2 6 none, fun x => sm_lk sm_ca2 x, some .int) [24, 29, 30, 31] 6 0 [] [] 2000 [] = true := by decide +kernel
/-- MiceRegisters.readLine -/
def kcc319 : ak_C := (17, [.inl 0, .inl 13, .inr (false, [(-1, 60)]), .inr (false, [(45, 45)])], kch275, [24, 25, 26], [([[], [], [], []], some (.inr (false, [(-1, 60)])), kch40), ([[], [], [(1, 60)], []], some (.inr (false, [(-9, -9)])), kch42)])
theorem kck319 : ai_chk [kcc263] kcc319 (fun pc => sm_ch sm_t17 pc, sm_Kn 2 6 none, fun x => sm_lk sm_ca2 x, some .int) [24, 25, 26] 6 4 [29] [] 2000 [(29, [(0, .inl 0), (1, .inl 13), (2, .inr (false, [(-1, 60)])), (3, .inr (false, [(45, 45)])), (4, .inr (false, [(46, 46)]))], [], kch276),
  (29, [(0, .inl 0), (1, .inl 13), (2, .inr (false, [(1, 60)])), (3, .inr (false, [(45, 45)])), (4, .inr (false, [(47, 47)])), (5, .inr (false, [(-9, -9)]))], [], kch276),
  (29, [(0, .inl 0), (1, .inl 13), (2, .inr (false, [(1, 60)])), (3, .inr (false, [(45, 45)])), (4, .inr (false, [(48, 48)])), (5, .inr (false, [(-9, -9)]))], [], kch276),
  (29, [(0, .inl 0), (1, .inl 13), (2, .inr (false, [(1, 60)])), (3, .inr (false, [(45, 45)])), (4, .inr (false, [(49, 49)])), (5, .inr (false, [(-9, -9)]))], [], kch276)] = true := by decide +kernel
def kch299 : aw_H := [(13, kcx89)]
/-- MiceRegisters.faultOfFigure -/
def kcc320 : ak_C := (18, [.inl 13, .inr (false, [(-1, 60)]), .inr (false, [(46, 46)]), .inr (false, [(0, 0)]), .inr (false, [(0, 7)])], kch22, [], [([], some (.inr (false, [(-9, -9)])), kch299), ([], some (.inr (false, [(-1, 63)])), [])])
def kch300 : aw_H := [(13, kcx91)]
/-- MiceRegisters.faultOfFigure -/
def kcc321 : ak_C := (18, [.inl 13, .inr (false, [(-1, 60)]), .inr (false, [(47, 47)]), .inr (false, [(1, 1)]), .inr (false, [(9, 9)])], kch299, [], [([], some (.inr (false, [(-9, -9)])), kch300), ([], some (.inr (false, [(-1, 63)])), [])])
/-- MiceRegisters.readMouse -/
def kcc322 : ak_C := (19, [.inl 0, .inl 13, .inr (false, [(-1, 60)]), .inr (false, [(45, 45)])], kch274, [24, 29, 30, 31], [([], some (.inr (false, [(-1, 63)])), kch36), ([], some (.inr (false, [(-9, -9)])), kch38)])
theorem kck322 : ai_chk [kcc28, kcc320, kcc321] kcc322 (fun pc => sm_ch sm_t19 pc, sm_Kn 2 6 none, fun x => sm_lk sm_ca2 x, some .int) [24, 29, 30, 31] 6 0 [] [] 2000 [] = true := by decide +kernel
/-- MiceRegisters.readLine -/
def kcc323 : ak_C := (17, [.inl 0, .inl 13, .inr (false, [(-1, 60)]), .inr (false, [(44, 44)])], kch275, [24, 25, 26], [([[], [], [], []], some (.inr (false, [(-1, 60)])), kch40), ([[], [], [(1, 60)], []], some (.inr (false, [(-9, -9)])), kch42)])
theorem kck323 : ai_chk [kcc263] kcc323 (fun pc => sm_ch sm_t17 pc, sm_Kn 2 6 none, fun x => sm_lk sm_ca2 x, some .int) [24, 25, 26] 6 4 [29] [] 2000 [(29, [(0, .inl 0), (1, .inl 13), (2, .inr (false, [(-1, 60)])), (3, .inr (false, [(44, 44)])), (4, .inr (false, [(45, 45)]))], [], kch276),
  (29, [(0, .inl 0), (1, .inl 13), (2, .inr (false, [(1, 60)])), (3, .inr (false, [(44, 44)])), (4, .inr (false, [(46, 46)])), (5, .inr (false, [(-9, -9)]))], [], kch276),
  (29, [(0, .inl 0), (1, .inl 13), (2, .inr (false, [(1, 60)])), (3, .inr (false, [(44, 44)])), (4, .inr (false, [(47, 47)])), (5, .inr (false, [(-9, -9)]))], [], kch276),
  (29, [(0, .inl 0), (1, .inl 13), (2, .inr (false, [(1, 60)])), (3, .inr (false, [(44, 44)])), (4, .inr (false, [(48, 48)])), (5, .inr (false, [(-9, -9)]))], [], kch276)] = true := by decide +kernel
def kch301 : aw_H := [(13, kcx93)]
/-- MiceRegisters.faultOfFigure -/
def kcc324 : ak_C := (18, [.inl 13, .inr (false, [(-1, 60)]), .inr (false, [(45, 45)]), .inr (false, [(0, 0)]), .inr (false, [(0, 7)])], kch22, [], [([], some (.inr (false, [(-9, -9)])), kch301), ([], some (.inr (false, [(-1, 63)])), [])])
def kch302 : aw_H := [(13, kcx95)]
/-- MiceRegisters.faultOfFigure -/
def kcc325 : ak_C := (18, [.inl 13, .inr (false, [(-1, 60)]), .inr (false, [(46, 46)]), .inr (false, [(1, 1)]), .inr (false, [(9, 9)])], kch301, [], [([], some (.inr (false, [(-9, -9)])), kch302), ([], some (.inr (false, [(-1, 63)])), [])])
/-- MiceRegisters.readMouse -/
def kcc326 : ak_C := (19, [.inl 0, .inl 13, .inr (false, [(-1, 60)]), .inr (false, [(44, 44)])], kch274, [24, 29, 30, 31], [([], some (.inr (false, [(-1, 63)])), kch36), ([], some (.inr (false, [(-9, -9)])), kch38)])
theorem kck326 : ai_chk [kcc28, kcc324, kcc325] kcc326 (fun pc => sm_ch sm_t19 pc, sm_Kn 2 6 none, fun x => sm_lk sm_ca2 x, some .int) [24, 29, 30, 31] 6 0 [] [] 2000 [] = true := by decide +kernel
/-- MiceRegisters.readLine -/
def kcc327 : ak_C := (17, [.inl 0, .inl 13, .inr (false, [(-1, 60)]), .inr (false, [(43, 43)])], kch275, [24, 25, 26], [([[], [], [], []], some (.inr (false, [(-1, 60)])), kch40), ([[], [], [(1, 60)], []], some (.inr (false, [(-9, -9)])), kch42)])
theorem kck327 : ai_chk [kcc263] kcc327 (fun pc => sm_ch sm_t17 pc, sm_Kn 2 6 none, fun x => sm_lk sm_ca2 x, some .int) [24, 25, 26] 6 4 [29] [] 2000 [(29, [(0, .inl 0), (1, .inl 13), (2, .inr (false, [(-1, 60)])), (3, .inr (false, [(43, 43)])), (4, .inr (false, [(44, 44)]))], [], kch276),
  (29, [(0, .inl 0), (1, .inl 13), (2, .inr (false, [(1, 60)])), (3, .inr (false, [(43, 43)])), (4, .inr (false, [(45, 45)])), (5, .inr (false, [(-9, -9)]))], [], kch276),
  (29, [(0, .inl 0), (1, .inl 13), (2, .inr (false, [(1, 60)])), (3, .inr (false, [(43, 43)])), (4, .inr (false, [(46, 46)])), (5, .inr (false, [(-9, -9)]))], [], kch276),
  (29, [(0, .inl 0), (1, .inl 13), (2, .inr (false, [(1, 60)])), (3, .inr (false, [(43, 43)])), (4, .inr (false, [(47, 47)])), (5, .inr (false, [(-9, -9)]))], [], kch276)] = true := by decide +kernel
def kch303 : aw_H := [(13, kcx97)]
/-- MiceRegisters.faultOfFigure -/
def kcc328 : ak_C := (18, [.inl 13, .inr (false, [(-1, 60)]), .inr (false, [(44, 44)]), .inr (false, [(0, 0)]), .inr (false, [(0, 7)])], kch22, [], [([], some (.inr (false, [(-9, -9)])), kch303), ([], some (.inr (false, [(-1, 63)])), [])])
def kch304 : aw_H := [(13, kcx99)]
/-- MiceRegisters.faultOfFigure -/
def kcc329 : ak_C := (18, [.inl 13, .inr (false, [(-1, 60)]), .inr (false, [(45, 45)]), .inr (false, [(1, 1)]), .inr (false, [(9, 9)])], kch303, [], [([], some (.inr (false, [(-9, -9)])), kch304), ([], some (.inr (false, [(-1, 63)])), [])])
/-- MiceRegisters.readMouse -/
def kcc330 : ak_C := (19, [.inl 0, .inl 13, .inr (false, [(-1, 60)]), .inr (false, [(43, 43)])], kch274, [24, 29, 30, 31], [([], some (.inr (false, [(-1, 63)])), kch36), ([], some (.inr (false, [(-9, -9)])), kch38)])
theorem kck330 : ai_chk [kcc28, kcc328, kcc329] kcc330 (fun pc => sm_ch sm_t19 pc, sm_Kn 2 6 none, fun x => sm_lk sm_ca2 x, some .int) [24, 29, 30, 31] 6 0 [] [] 2000 [] = true := by decide +kernel
/-- MiceRegisters.readLine -/
def kcc331 : ak_C := (17, [.inl 0, .inl 13, .inr (false, [(-1, 60)]), .inr (false, [(42, 42)])], kch275, [24, 25, 26], [([[], [], [], []], some (.inr (false, [(-1, 60)])), kch40), ([[], [], [(1, 60)], []], some (.inr (false, [(-9, -9)])), kch42)])
theorem kck331 : ai_chk [kcc263] kcc331 (fun pc => sm_ch sm_t17 pc, sm_Kn 2 6 none, fun x => sm_lk sm_ca2 x, some .int) [24, 25, 26] 6 4 [29] [] 2000 [(29, [(0, .inl 0), (1, .inl 13), (2, .inr (false, [(-1, 60)])), (3, .inr (false, [(42, 42)])), (4, .inr (false, [(43, 43)]))], [], kch276),
  (29, [(0, .inl 0), (1, .inl 13), (2, .inr (false, [(1, 60)])), (3, .inr (false, [(42, 42)])), (4, .inr (false, [(44, 44)])), (5, .inr (false, [(-9, -9)]))], [], kch276),
  (29, [(0, .inl 0), (1, .inl 13), (2, .inr (false, [(1, 60)])), (3, .inr (false, [(42, 42)])), (4, .inr (false, [(45, 45)])), (5, .inr (false, [(-9, -9)]))], [], kch276),
  (29, [(0, .inl 0), (1, .inl 13), (2, .inr (false, [(1, 60)])), (3, .inr (false, [(42, 42)])), (4, .inr (false, [(46, 46)])), (5, .inr (false, [(-9, -9)]))], [], kch276)] = true := by decide +kernel
def kch305 : aw_H := [(13, kcx101)]
/-- MiceRegisters.faultOfFigure -/
def kcc332 : ak_C := (18, [.inl 13, .inr (false, [(-1, 60)]), .inr (false, [(43, 43)]), .inr (false, [(0, 0)]), .inr (false, [(0, 7)])], kch22, [], [([], some (.inr (false, [(-9, -9)])), kch305), ([], some (.inr (false, [(-1, 63)])), [])])
def kch306 : aw_H := [(13, kcx103)]
/-- MiceRegisters.faultOfFigure -/
def kcc333 : ak_C := (18, [.inl 13, .inr (false, [(-1, 60)]), .inr (false, [(44, 44)]), .inr (false, [(1, 1)]), .inr (false, [(9, 9)])], kch305, [], [([], some (.inr (false, [(-9, -9)])), kch306), ([], some (.inr (false, [(-1, 63)])), [])])
/-- MiceRegisters.readMouse -/
def kcc334 : ak_C := (19, [.inl 0, .inl 13, .inr (false, [(-1, 60)]), .inr (false, [(42, 42)])], kch274, [24, 29, 30, 31], [([], some (.inr (false, [(-1, 63)])), kch36), ([], some (.inr (false, [(-9, -9)])), kch38)])
theorem kck334 : ai_chk [kcc28, kcc332, kcc333] kcc334 (fun pc => sm_ch sm_t19 pc, sm_Kn 2 6 none, fun x => sm_lk sm_ca2 x, some .int) [24, 29, 30, 31] 6 0 [] [] 2000 [] = true := by decide +kernel
/-- MiceRegisters.readLine -/
def kcc335 : ak_C := (17, [.inl 0, .inl 13, .inr (false, [(-1, 60)]), .inr (false, [(41, 41)])], kch275, [24, 25, 26], [([[], [], [], []], some (.inr (false, [(-1, 60)])), kch40), ([[], [], [(1, 60)], []], some (.inr (false, [(-9, -9)])), kch42)])
theorem kck335 : ai_chk [kcc263] kcc335 (fun pc => sm_ch sm_t17 pc, sm_Kn 2 6 none, fun x => sm_lk sm_ca2 x, some .int) [24, 25, 26] 6 4 [29] [] 2000 [(29, [(0, .inl 0), (1, .inl 13), (2, .inr (false, [(-1, 60)])), (3, .inr (false, [(41, 41)])), (4, .inr (false, [(42, 42)]))], [], kch276),
  (29, [(0, .inl 0), (1, .inl 13), (2, .inr (false, [(1, 60)])), (3, .inr (false, [(41, 41)])), (4, .inr (false, [(43, 43)])), (5, .inr (false, [(-9, -9)]))], [], kch276),
  (29, [(0, .inl 0), (1, .inl 13), (2, .inr (false, [(1, 60)])), (3, .inr (false, [(41, 41)])), (4, .inr (false, [(44, 44)])), (5, .inr (false, [(-9, -9)]))], [], kch276),
  (29, [(0, .inl 0), (1, .inl 13), (2, .inr (false, [(1, 60)])), (3, .inr (false, [(41, 41)])), (4, .inr (false, [(45, 45)])), (5, .inr (false, [(-9, -9)]))], [], kch276)] = true := by decide +kernel
def kch307 : aw_H := [(13, kcx105)]
/-- MiceRegisters.faultOfFigure -/
def kcc336 : ak_C := (18, [.inl 13, .inr (false, [(-1, 60)]), .inr (false, [(42, 42)]), .inr (false, [(0, 0)]), .inr (false, [(0, 7)])], kch22, [], [([], some (.inr (false, [(-9, -9)])), kch307), ([], some (.inr (false, [(-1, 63)])), [])])
def kch308 : aw_H := [(13, kcx107)]
/-- MiceRegisters.faultOfFigure -/
def kcc337 : ak_C := (18, [.inl 13, .inr (false, [(-1, 60)]), .inr (false, [(43, 43)]), .inr (false, [(1, 1)]), .inr (false, [(9, 9)])], kch307, [], [([], some (.inr (false, [(-9, -9)])), kch308), ([], some (.inr (false, [(-1, 63)])), [])])
/-- MiceRegisters.readMouse -/
def kcc338 : ak_C := (19, [.inl 0, .inl 13, .inr (false, [(-1, 60)]), .inr (false, [(41, 41)])], kch274, [24, 29, 30, 31], [([], some (.inr (false, [(-1, 63)])), kch36), ([], some (.inr (false, [(-9, -9)])), kch38)])
theorem kck338 : ai_chk [kcc28, kcc336, kcc337] kcc338 (fun pc => sm_ch sm_t19 pc, sm_Kn 2 6 none, fun x => sm_lk sm_ca2 x, some .int) [24, 29, 30, 31] 6 0 [] [] 2000 [] = true := by decide +kernel
/-- MiceRegisters.readLine -/
def kcc339 : ak_C := (17, [.inl 0, .inl 13, .inr (false, [(-1, 60)]), .inr (false, [(40, 40)])], kch275, [24, 25, 26], [([[], [], [], []], some (.inr (false, [(-1, 60)])), kch40), ([[], [], [(1, 60)], []], some (.inr (false, [(-9, -9)])), kch42)])
theorem kck339 : ai_chk [kcc263] kcc339 (fun pc => sm_ch sm_t17 pc, sm_Kn 2 6 none, fun x => sm_lk sm_ca2 x, some .int) [24, 25, 26] 6 4 [29] [] 2000 [(29, [(0, .inl 0), (1, .inl 13), (2, .inr (false, [(-1, 60)])), (3, .inr (false, [(40, 40)])), (4, .inr (false, [(41, 41)]))], [], kch276),
  (29, [(0, .inl 0), (1, .inl 13), (2, .inr (false, [(1, 60)])), (3, .inr (false, [(40, 40)])), (4, .inr (false, [(42, 42)])), (5, .inr (false, [(-9, -9)]))], [], kch276),
  (29, [(0, .inl 0), (1, .inl 13), (2, .inr (false, [(1, 60)])), (3, .inr (false, [(40, 40)])), (4, .inr (false, [(43, 43)])), (5, .inr (false, [(-9, -9)]))], [], kch276),
  (29, [(0, .inl 0), (1, .inl 13), (2, .inr (false, [(1, 60)])), (3, .inr (false, [(40, 40)])), (4, .inr (false, [(44, 44)])), (5, .inr (false, [(-9, -9)]))], [], kch276)] = true := by decide +kernel
def kch309 : aw_H := [(13, kcx109)]
/-- MiceRegisters.faultOfFigure -/
def kcc340 : ak_C := (18, [.inl 13, .inr (false, [(-1, 60)]), .inr (false, [(41, 41)]), .inr (false, [(0, 0)]), .inr (false, [(0, 7)])], kch22, [], [([], some (.inr (false, [(-9, -9)])), kch309), ([], some (.inr (false, [(-1, 63)])), [])])
def kch310 : aw_H := [(13, kcx111)]
/-- MiceRegisters.faultOfFigure -/
def kcc341 : ak_C := (18, [.inl 13, .inr (false, [(-1, 60)]), .inr (false, [(42, 42)]), .inr (false, [(1, 1)]), .inr (false, [(9, 9)])], kch309, [], [([], some (.inr (false, [(-9, -9)])), kch310), ([], some (.inr (false, [(-1, 63)])), [])])
/-- MiceRegisters.readMouse -/
def kcc342 : ak_C := (19, [.inl 0, .inl 13, .inr (false, [(-1, 60)]), .inr (false, [(40, 40)])], kch274, [24, 29, 30, 31], [([], some (.inr (false, [(-1, 63)])), kch36), ([], some (.inr (false, [(-9, -9)])), kch38)])
theorem kck342 : ai_chk [kcc28, kcc340, kcc341] kcc342 (fun pc => sm_ch sm_t19 pc, sm_Kn 2 6 none, fun x => sm_lk sm_ca2 x, some .int) [24, 29, 30, 31] 6 0 [] [] 2000 [] = true := by decide +kernel
/-- MiceRegisters.readLine -/
def kcc343 : ak_C := (17, [.inl 0, .inl 13, .inr (false, [(-1, 60)]), .inr (false, [(39, 39)])], kch275, [24, 25, 26], [([[], [], [], []], some (.inr (false, [(-1, 60)])), kch40), ([[], [], [(1, 60)], []], some (.inr (false, [(-9, -9)])), kch42)])
theorem kck343 : ai_chk [kcc263] kcc343 (fun pc => sm_ch sm_t17 pc, sm_Kn 2 6 none, fun x => sm_lk sm_ca2 x, some .int) [24, 25, 26] 6 4 [29] [] 2000 [(29, [(0, .inl 0), (1, .inl 13), (2, .inr (false, [(-1, 60)])), (3, .inr (false, [(39, 39)])), (4, .inr (false, [(40, 40)]))], [], kch276),
  (29, [(0, .inl 0), (1, .inl 13), (2, .inr (false, [(1, 60)])), (3, .inr (false, [(39, 39)])), (4, .inr (false, [(41, 41)])), (5, .inr (false, [(-9, -9)]))], [], kch276),
  (29, [(0, .inl 0), (1, .inl 13), (2, .inr (false, [(1, 60)])), (3, .inr (false, [(39, 39)])), (4, .inr (false, [(42, 42)])), (5, .inr (false, [(-9, -9)]))], [], kch276),
  (29, [(0, .inl 0), (1, .inl 13), (2, .inr (false, [(1, 60)])), (3, .inr (false, [(39, 39)])), (4, .inr (false, [(43, 43)])), (5, .inr (false, [(-9, -9)]))], [], kch276)] = true := by decide +kernel
def kch311 : aw_H := [(13, kcx113)]
/-- MiceRegisters.faultOfFigure -/
def kcc344 : ak_C := (18, [.inl 13, .inr (false, [(-1, 60)]), .inr (false, [(40, 40)]), .inr (false, [(0, 0)]), .inr (false, [(0, 7)])], kch22, [], [([], some (.inr (false, [(-9, -9)])), kch311), ([], some (.inr (false, [(-1, 63)])), [])])
def kch312 : aw_H := [(13, kcx115)]
/-- MiceRegisters.faultOfFigure -/
def kcc345 : ak_C := (18, [.inl 13, .inr (false, [(-1, 60)]), .inr (false, [(41, 41)]), .inr (false, [(1, 1)]), .inr (false, [(9, 9)])], kch311, [], [([], some (.inr (false, [(-9, -9)])), kch312), ([], some (.inr (false, [(-1, 63)])), [])])
/-- MiceRegisters.readMouse -/
def kcc346 : ak_C := (19, [.inl 0, .inl 13, .inr (false, [(-1, 60)]), .inr (false, [(39, 39)])], kch274, [24, 29, 30, 31], [([], some (.inr (false, [(-1, 63)])), kch36), ([], some (.inr (false, [(-9, -9)])), kch38)])
theorem kck346 : ai_chk [kcc28, kcc344, kcc345] kcc346 (fun pc => sm_ch sm_t19 pc, sm_Kn 2 6 none, fun x => sm_lk sm_ca2 x, some .int) [24, 29, 30, 31] 6 0 [] [] 2000 [] = true := by decide +kernel
/-- MiceRegisters.readLine -/
def kcc347 : ak_C := (17, [.inl 0, .inl 13, .inr (false, [(-1, 60)]), .inr (false, [(38, 38)])], kch275, [24, 25, 26], [([[], [], [], []], some (.inr (false, [(-1, 60)])), kch40), ([[], [], [(1, 60)], []], some (.inr (false, [(-9, -9)])), kch42)])
theorem kck347 : ai_chk [kcc263] kcc347 (fun pc => sm_ch sm_t17 pc, sm_Kn 2 6 none, fun x => sm_lk sm_ca2 x, some .int) [24, 25, 26] 6 4 [29] [] 2000 [(29, [(0, .inl 0), (1, .inl 13), (2, .inr (false, [(-1, 60)])), (3, .inr (false, [(38, 38)])), (4, .inr (false, [(39, 39)]))], [], kch276),
  (29, [(0, .inl 0), (1, .inl 13), (2, .inr (false, [(1, 60)])), (3, .inr (false, [(38, 38)])), (4, .inr (false, [(40, 40)])), (5, .inr (false, [(-9, -9)]))], [], kch276),
  (29, [(0, .inl 0), (1, .inl 13), (2, .inr (false, [(1, 60)])), (3, .inr (false, [(38, 38)])), (4, .inr (false, [(41, 41)])), (5, .inr (false, [(-9, -9)]))], [], kch276),
  (29, [(0, .inl 0), (1, .inl 13), (2, .inr (false, [(1, 60)])), (3, .inr (false, [(38, 38)])), (4, .inr (false, [(42, 42)])), (5, .inr (false, [(-9, -9)]))], [], kch276)] = true := by decide +kernel
def kch313 : aw_H := [(13, kcx117)]
/-- MiceRegisters.faultOfFigure -/
def kcc348 : ak_C := (18, [.inl 13, .inr (false, [(-1, 60)]), .inr (false, [(39, 39)]), .inr (false, [(0, 0)]), .inr (false, [(0, 7)])], kch22, [], [([], some (.inr (false, [(-9, -9)])), kch313), ([], some (.inr (false, [(-1, 63)])), [])])
def kch314 : aw_H := [(13, kcx119)]
/-- MiceRegisters.faultOfFigure -/
def kcc349 : ak_C := (18, [.inl 13, .inr (false, [(-1, 60)]), .inr (false, [(40, 40)]), .inr (false, [(1, 1)]), .inr (false, [(9, 9)])], kch313, [], [([], some (.inr (false, [(-9, -9)])), kch314), ([], some (.inr (false, [(-1, 63)])), [])])
/-- MiceRegisters.readMouse -/
def kcc350 : ak_C := (19, [.inl 0, .inl 13, .inr (false, [(-1, 60)]), .inr (false, [(38, 38)])], kch274, [24, 29, 30, 31], [([], some (.inr (false, [(-1, 63)])), kch36), ([], some (.inr (false, [(-9, -9)])), kch38)])
theorem kck350 : ai_chk [kcc28, kcc348, kcc349] kcc350 (fun pc => sm_ch sm_t19 pc, sm_Kn 2 6 none, fun x => sm_lk sm_ca2 x, some .int) [24, 29, 30, 31] 6 0 [] [] 2000 [] = true := by decide +kernel
/-- MiceRegisters.readLine -/
def kcc351 : ak_C := (17, [.inl 0, .inl 13, .inr (false, [(-1, 60)]), .inr (false, [(37, 37)])], kch275, [24, 25, 26], [([[], [], [], []], some (.inr (false, [(-1, 60)])), kch40), ([[], [], [(1, 60)], []], some (.inr (false, [(-9, -9)])), kch42)])
theorem kck351 : ai_chk [kcc263] kcc351 (fun pc => sm_ch sm_t17 pc, sm_Kn 2 6 none, fun x => sm_lk sm_ca2 x, some .int) [24, 25, 26] 6 4 [29] [] 2000 [(29, [(0, .inl 0), (1, .inl 13), (2, .inr (false, [(-1, 60)])), (3, .inr (false, [(37, 37)])), (4, .inr (false, [(38, 38)]))], [], kch276),
  (29, [(0, .inl 0), (1, .inl 13), (2, .inr (false, [(1, 60)])), (3, .inr (false, [(37, 37)])), (4, .inr (false, [(39, 39)])), (5, .inr (false, [(-9, -9)]))], [], kch276),
  (29, [(0, .inl 0), (1, .inl 13), (2, .inr (false, [(1, 60)])), (3, .inr (false, [(37, 37)])), (4, .inr (false, [(40, 40)])), (5, .inr (false, [(-9, -9)]))], [], kch276),
  (29, [(0, .inl 0), (1, .inl 13), (2, .inr (false, [(1, 60)])), (3, .inr (false, [(37, 37)])), (4, .inr (false, [(41, 41)])), (5, .inr (false, [(-9, -9)]))], [], kch276)] = true := by decide +kernel
def kch315 : aw_H := [(13, kcx121)]
/-- MiceRegisters.faultOfFigure -/
def kcc352 : ak_C := (18, [.inl 13, .inr (false, [(-1, 60)]), .inr (false, [(38, 38)]), .inr (false, [(0, 0)]), .inr (false, [(0, 7)])], kch22, [], [([], some (.inr (false, [(-9, -9)])), kch315), ([], some (.inr (false, [(-1, 63)])), [])])
def kch316 : aw_H := [(13, kcx123)]
/-- MiceRegisters.faultOfFigure -/
def kcc353 : ak_C := (18, [.inl 13, .inr (false, [(-1, 60)]), .inr (false, [(39, 39)]), .inr (false, [(1, 1)]), .inr (false, [(9, 9)])], kch315, [], [([], some (.inr (false, [(-9, -9)])), kch316), ([], some (.inr (false, [(-1, 63)])), [])])
/-- MiceRegisters.readMouse -/
def kcc354 : ak_C := (19, [.inl 0, .inl 13, .inr (false, [(-1, 60)]), .inr (false, [(37, 37)])], kch274, [24, 29, 30, 31], [([], some (.inr (false, [(-1, 63)])), kch36), ([], some (.inr (false, [(-9, -9)])), kch38)])
theorem kck354 : ai_chk [kcc28, kcc352, kcc353] kcc354 (fun pc => sm_ch sm_t19 pc, sm_Kn 2 6 none, fun x => sm_lk sm_ca2 x, some .int) [24, 29, 30, 31] 6 0 [] [] 2000 [] = true := by decide +kernel
/-- MiceRegisters.readLine -/
def kcc355 : ak_C := (17, [.inl 0, .inl 13, .inr (false, [(-1, 60)]), .inr (false, [(36, 36)])], kch275, [24, 25, 26], [([[], [], [], []], some (.inr (false, [(-1, 60)])), kch40), ([[], [], [(1, 60)], []], some (.inr (false, [(-9, -9)])), kch42)])
theorem kck355 : ai_chk [kcc263] kcc355 (fun pc => sm_ch sm_t17 pc, sm_Kn 2 6 none, fun x => sm_lk sm_ca2 x, some .int) [24, 25, 26] 6 4 [29] [] 2000 [(29, [(0, .inl 0), (1, .inl 13), (2, .inr (false, [(-1, 60)])), (3, .inr (false, [(36, 36)])), (4, .inr (false, [(37, 37)]))], [], kch276),
  (29, [(0, .inl 0), (1, .inl 13), (2, .inr (false, [(1, 60)])), (3, .inr (false, [(36, 36)])), (4, .inr (false, [(38, 38)])), (5, .inr (false, [(-9, -9)]))], [], kch276),
  (29, [(0, .inl 0), (1, .inl 13), (2, .inr (false, [(1, 60)])), (3, .inr (false, [(36, 36)])), (4, .inr (false, [(39, 39)])), (5, .inr (false, [(-9, -9)]))], [], kch276),
  (29, [(0, .inl 0), (1, .inl 13), (2, .inr (false, [(1, 60)])), (3, .inr (false, [(36, 36)])), (4, .inr (false, [(40, 40)])), (5, .inr (false, [(-9, -9)]))], [], kch276)] = true := by decide +kernel
def kch317 : aw_H := [(13, kcx125)]
/-- MiceRegisters.faultOfFigure -/
def kcc356 : ak_C := (18, [.inl 13, .inr (false, [(-1, 60)]), .inr (false, [(37, 37)]), .inr (false, [(0, 0)]), .inr (false, [(0, 7)])], kch22, [], [([], some (.inr (false, [(-9, -9)])), kch317), ([], some (.inr (false, [(-1, 63)])), [])])
def kch318 : aw_H := [(13, kcx127)]
/-- MiceRegisters.faultOfFigure -/
def kcc357 : ak_C := (18, [.inl 13, .inr (false, [(-1, 60)]), .inr (false, [(38, 38)]), .inr (false, [(1, 1)]), .inr (false, [(9, 9)])], kch317, [], [([], some (.inr (false, [(-9, -9)])), kch318), ([], some (.inr (false, [(-1, 63)])), [])])
/-- MiceRegisters.readMouse -/
def kcc358 : ak_C := (19, [.inl 0, .inl 13, .inr (false, [(-1, 60)]), .inr (false, [(36, 36)])], kch274, [24, 29, 30, 31], [([], some (.inr (false, [(-1, 63)])), kch36), ([], some (.inr (false, [(-9, -9)])), kch38)])
theorem kck358 : ai_chk [kcc28, kcc356, kcc357] kcc358 (fun pc => sm_ch sm_t19 pc, sm_Kn 2 6 none, fun x => sm_lk sm_ca2 x, some .int) [24, 29, 30, 31] 6 0 [] [] 2000 [] = true := by decide +kernel
/-- MiceRegisters.readLine -/
def kcc359 : ak_C := (17, [.inl 0, .inl 13, .inr (false, [(-1, 60)]), .inr (false, [(35, 35)])], kch275, [24, 25, 26], [([[], [], [], []], some (.inr (false, [(-1, 60)])), kch40), ([[], [], [(1, 60)], []], some (.inr (false, [(-9, -9)])), kch42)])
theorem kck359 : ai_chk [kcc263] kcc359 (fun pc => sm_ch sm_t17 pc, sm_Kn 2 6 none, fun x => sm_lk sm_ca2 x, some .int) [24, 25, 26] 6 4 [29] [] 2000 [(29, [(0, .inl 0), (1, .inl 13), (2, .inr (false, [(-1, 60)])), (3, .inr (false, [(35, 35)])), (4, .inr (false, [(36, 36)]))], [], kch276),
  (29, [(0, .inl 0), (1, .inl 13), (2, .inr (false, [(1, 60)])), (3, .inr (false, [(35, 35)])), (4, .inr (false, [(37, 37)])), (5, .inr (false, [(-9, -9)]))], [], kch276),
  (29, [(0, .inl 0), (1, .inl 13), (2, .inr (false, [(1, 60)])), (3, .inr (false, [(35, 35)])), (4, .inr (false, [(38, 38)])), (5, .inr (false, [(-9, -9)]))], [], kch276),
  (29, [(0, .inl 0), (1, .inl 13), (2, .inr (false, [(1, 60)])), (3, .inr (false, [(35, 35)])), (4, .inr (false, [(39, 39)])), (5, .inr (false, [(-9, -9)]))], [], kch276)] = true := by decide +kernel
def kch319 : aw_H := [(13, kcx129)]
/-- MiceRegisters.faultOfFigure -/
def kcc360 : ak_C := (18, [.inl 13, .inr (false, [(-1, 60)]), .inr (false, [(36, 36)]), .inr (false, [(0, 0)]), .inr (false, [(0, 7)])], kch22, [], [([], some (.inr (false, [(-9, -9)])), kch319), ([], some (.inr (false, [(-1, 63)])), [])])
def kch320 : aw_H := [(13, kcx131)]
/-- MiceRegisters.faultOfFigure -/
def kcc361 : ak_C := (18, [.inl 13, .inr (false, [(-1, 60)]), .inr (false, [(37, 37)]), .inr (false, [(1, 1)]), .inr (false, [(9, 9)])], kch319, [], [([], some (.inr (false, [(-9, -9)])), kch320), ([], some (.inr (false, [(-1, 63)])), [])])
/-- MiceRegisters.readMouse -/
def kcc362 : ak_C := (19, [.inl 0, .inl 13, .inr (false, [(-1, 60)]), .inr (false, [(35, 35)])], kch274, [24, 29, 30, 31], [([], some (.inr (false, [(-1, 63)])), kch36), ([], some (.inr (false, [(-9, -9)])), kch38)])
theorem kck362 : ai_chk [kcc28, kcc360, kcc361] kcc362 (fun pc => sm_ch sm_t19 pc, sm_Kn 2 6 none, fun x => sm_lk sm_ca2 x, some .int) [24, 29, 30, 31] 6 0 [] [] 2000 [] = true := by decide +kernel
/-- MiceRegisters.readLine -/
def kcc363 : ak_C := (17, [.inl 0, .inl 13, .inr (false, [(-1, 60)]), .inr (false, [(34, 34)])], kch275, [24, 25, 26], [([[], [], [], []], some (.inr (false, [(-1, 60)])), kch40), ([[], [], [(1, 60)], []], some (.inr (false, [(-9, -9)])), kch42)])
theorem kck363 : ai_chk [kcc263] kcc363 (fun pc => sm_ch sm_t17 pc, sm_Kn 2 6 none, fun x => sm_lk sm_ca2 x, some .int) [24, 25, 26] 6 4 [29] [] 2000 [(29, [(0, .inl 0), (1, .inl 13), (2, .inr (false, [(-1, 60)])), (3, .inr (false, [(34, 34)])), (4, .inr (false, [(35, 35)]))], [], kch276),
  (29, [(0, .inl 0), (1, .inl 13), (2, .inr (false, [(1, 60)])), (3, .inr (false, [(34, 34)])), (4, .inr (false, [(36, 36)])), (5, .inr (false, [(-9, -9)]))], [], kch276),
  (29, [(0, .inl 0), (1, .inl 13), (2, .inr (false, [(1, 60)])), (3, .inr (false, [(34, 34)])), (4, .inr (false, [(37, 37)])), (5, .inr (false, [(-9, -9)]))], [], kch276),
  (29, [(0, .inl 0), (1, .inl 13), (2, .inr (false, [(1, 60)])), (3, .inr (false, [(34, 34)])), (4, .inr (false, [(38, 38)])), (5, .inr (false, [(-9, -9)]))], [], kch276)] = true := by decide +kernel
def kch321 : aw_H := [(13, kcx133)]
/-- MiceRegisters.faultOfFigure -/
def kcc364 : ak_C := (18, [.inl 13, .inr (false, [(-1, 60)]), .inr (false, [(35, 35)]), .inr (false, [(0, 0)]), .inr (false, [(0, 7)])], kch22, [], [([], some (.inr (false, [(-9, -9)])), kch321), ([], some (.inr (false, [(-1, 63)])), [])])
def kch322 : aw_H := [(13, kcx135)]
/-- MiceRegisters.faultOfFigure -/
def kcc365 : ak_C := (18, [.inl 13, .inr (false, [(-1, 60)]), .inr (false, [(36, 36)]), .inr (false, [(1, 1)]), .inr (false, [(9, 9)])], kch321, [], [([], some (.inr (false, [(-9, -9)])), kch322), ([], some (.inr (false, [(-1, 63)])), [])])
/-- MiceRegisters.readMouse -/
def kcc366 : ak_C := (19, [.inl 0, .inl 13, .inr (false, [(-1, 60)]), .inr (false, [(34, 34)])], kch274, [24, 29, 30, 31], [([], some (.inr (false, [(-1, 63)])), kch36), ([], some (.inr (false, [(-9, -9)])), kch38)])
theorem kck366 : ai_chk [kcc28, kcc364, kcc365] kcc366 (fun pc => sm_ch sm_t19 pc, sm_Kn 2 6 none, fun x => sm_lk sm_ca2 x, some .int) [24, 29, 30, 31] 6 0 [] [] 2000 [] = true := by decide +kernel
/-- MiceRegisters.readLine -/
def kcc367 : ak_C := (17, [.inl 0, .inl 13, .inr (false, [(-1, 60)]), .inr (false, [(33, 33)])], kch275, [24, 25, 26], [([[], [], [], []], some (.inr (false, [(-1, 60)])), kch40), ([[], [], [(1, 60)], []], some (.inr (false, [(-9, -9)])), kch42)])
theorem kck367 : ai_chk [kcc263] kcc367 (fun pc => sm_ch sm_t17 pc, sm_Kn 2 6 none, fun x => sm_lk sm_ca2 x, some .int) [24, 25, 26] 6 4 [29] [] 2000 [(29, [(0, .inl 0), (1, .inl 13), (2, .inr (false, [(-1, 60)])), (3, .inr (false, [(33, 33)])), (4, .inr (false, [(34, 34)]))], [], kch276),
  (29, [(0, .inl 0), (1, .inl 13), (2, .inr (false, [(1, 60)])), (3, .inr (false, [(33, 33)])), (4, .inr (false, [(35, 35)])), (5, .inr (false, [(-9, -9)]))], [], kch276),
  (29, [(0, .inl 0), (1, .inl 13), (2, .inr (false, [(1, 60)])), (3, .inr (false, [(33, 33)])), (4, .inr (false, [(36, 36)])), (5, .inr (false, [(-9, -9)]))], [], kch276),
  (29, [(0, .inl 0), (1, .inl 13), (2, .inr (false, [(1, 60)])), (3, .inr (false, [(33, 33)])), (4, .inr (false, [(37, 37)])), (5, .inr (false, [(-9, -9)]))], [], kch276)] = true := by decide +kernel
def kch323 : aw_H := [(13, kcx137)]
/-- MiceRegisters.faultOfFigure -/
def kcc368 : ak_C := (18, [.inl 13, .inr (false, [(-1, 60)]), .inr (false, [(34, 34)]), .inr (false, [(0, 0)]), .inr (false, [(0, 7)])], kch22, [], [([], some (.inr (false, [(-9, -9)])), kch323), ([], some (.inr (false, [(-1, 63)])), [])])
def kch324 : aw_H := [(13, kcx139)]
/-- MiceRegisters.faultOfFigure -/
def kcc369 : ak_C := (18, [.inl 13, .inr (false, [(-1, 60)]), .inr (false, [(35, 35)]), .inr (false, [(1, 1)]), .inr (false, [(9, 9)])], kch323, [], [([], some (.inr (false, [(-9, -9)])), kch324), ([], some (.inr (false, [(-1, 63)])), [])])
/-- MiceRegisters.readMouse -/
def kcc370 : ak_C := (19, [.inl 0, .inl 13, .inr (false, [(-1, 60)]), .inr (false, [(33, 33)])], kch274, [24, 29, 30, 31], [([], some (.inr (false, [(-1, 63)])), kch36), ([], some (.inr (false, [(-9, -9)])), kch38)])
theorem kck370 : ai_chk [kcc28, kcc368, kcc369] kcc370 (fun pc => sm_ch sm_t19 pc, sm_Kn 2 6 none, fun x => sm_lk sm_ca2 x, some .int) [24, 29, 30, 31] 6 0 [] [] 2000 [] = true := by decide +kernel
/-- MiceRegisters.readLine -/
def kcc371 : ak_C := (17, [.inl 0, .inl 13, .inr (false, [(-1, 60)]), .inr (false, [(32, 32)])], kch275, [24, 25, 26], [([[], [], [], []], some (.inr (false, [(-1, 60)])), kch40), ([[], [], [(1, 60)], []], some (.inr (false, [(-9, -9)])), kch42)])
theorem kck371 : ai_chk [kcc263] kcc371 (fun pc => sm_ch sm_t17 pc, sm_Kn 2 6 none, fun x => sm_lk sm_ca2 x, some .int) [24, 25, 26] 6 4 [29] [] 2000 [(29, [(0, .inl 0), (1, .inl 13), (2, .inr (false, [(-1, 60)])), (3, .inr (false, [(32, 32)])), (4, .inr (false, [(33, 33)]))], [], kch276),
  (29, [(0, .inl 0), (1, .inl 13), (2, .inr (false, [(1, 60)])), (3, .inr (false, [(32, 32)])), (4, .inr (false, [(34, 34)])), (5, .inr (false, [(-9, -9)]))], [], kch276),
  (29, [(0, .inl 0), (1, .inl 13), (2, .inr (false, [(1, 60)])), (3, .inr (false, [(32, 32)])), (4, .inr (false, [(35, 35)])), (5, .inr (false, [(-9, -9)]))], [], kch276),
  (29, [(0, .inl 0), (1, .inl 13), (2, .inr (false, [(1, 60)])), (3, .inr (false, [(32, 32)])), (4, .inr (false, [(36, 36)])), (5, .inr (false, [(-9, -9)]))], [], kch276)] = true := by decide +kernel
def kch325 : aw_H := [(13, kcx141)]
/-- MiceRegisters.faultOfFigure -/
def kcc372 : ak_C := (18, [.inl 13, .inr (false, [(-1, 60)]), .inr (false, [(33, 33)]), .inr (false, [(0, 0)]), .inr (false, [(0, 7)])], kch22, [], [([], some (.inr (false, [(-9, -9)])), kch325), ([], some (.inr (false, [(-1, 63)])), [])])
def kch326 : aw_H := [(13, kcx143)]
/-- MiceRegisters.faultOfFigure -/
def kcc373 : ak_C := (18, [.inl 13, .inr (false, [(-1, 60)]), .inr (false, [(34, 34)]), .inr (false, [(1, 1)]), .inr (false, [(9, 9)])], kch325, [], [([], some (.inr (false, [(-9, -9)])), kch326), ([], some (.inr (false, [(-1, 63)])), [])])
/-- MiceRegisters.readMouse -/
def kcc374 : ak_C := (19, [.inl 0, .inl 13, .inr (false, [(-1, 60)]), .inr (false, [(32, 32)])], kch274, [24, 29, 30, 31], [([], some (.inr (false, [(-1, 63)])), kch36), ([], some (.inr (false, [(-9, -9)])), kch38)])
theorem kck374 : ai_chk [kcc28, kcc372, kcc373] kcc374 (fun pc => sm_ch sm_t19 pc, sm_Kn 2 6 none, fun x => sm_lk sm_ca2 x, some .int) [24, 29, 30, 31] 6 0 [] [] 2000 [] = true := by decide +kernel
/-- MiceRegisters.readLine -/
def kcc375 : ak_C := (17, [.inl 0, .inl 13, .inr (false, [(-1, 60)]), .inr (false, [(31, 31)])], kch275, [24, 25, 26], [([[], [], [], []], some (.inr (false, [(-1, 60)])), kch40), ([[], [], [(1, 60)], []], some (.inr (false, [(-9, -9)])), kch42)])
theorem kck375 : ai_chk [kcc263] kcc375 (fun pc => sm_ch sm_t17 pc, sm_Kn 2 6 none, fun x => sm_lk sm_ca2 x, some .int) [24, 25, 26] 6 4 [29] [] 2000 [(29, [(0, .inl 0), (1, .inl 13), (2, .inr (false, [(-1, 60)])), (3, .inr (false, [(31, 31)])), (4, .inr (false, [(32, 32)]))], [], kch276),
  (29, [(0, .inl 0), (1, .inl 13), (2, .inr (false, [(1, 60)])), (3, .inr (false, [(31, 31)])), (4, .inr (false, [(33, 33)])), (5, .inr (false, [(-9, -9)]))], [], kch276),
  (29, [(0, .inl 0), (1, .inl 13), (2, .inr (false, [(1, 60)])), (3, .inr (false, [(31, 31)])), (4, .inr (false, [(34, 34)])), (5, .inr (false, [(-9, -9)]))], [], kch276),
  (29, [(0, .inl 0), (1, .inl 13), (2, .inr (false, [(1, 60)])), (3, .inr (false, [(31, 31)])), (4, .inr (false, [(35, 35)])), (5, .inr (false, [(-9, -9)]))], [], kch276)] = true := by decide +kernel
def kch327 : aw_H := [(13, kcx145)]
/-- MiceRegisters.faultOfFigure -/
def kcc376 : ak_C := (18, [.inl 13, .inr (false, [(-1, 60)]), .inr (false, [(32, 32)]), .inr (false, [(0, 0)]), .inr (false, [(0, 7)])], kch22, [], [([], some (.inr (false, [(-9, -9)])), kch327), ([], some (.inr (false, [(-1, 63)])), [])])
def kch328 : aw_H := [(13, kcx147)]
/-- MiceRegisters.faultOfFigure -/
def kcc377 : ak_C := (18, [.inl 13, .inr (false, [(-1, 60)]), .inr (false, [(33, 33)]), .inr (false, [(1, 1)]), .inr (false, [(9, 9)])], kch327, [], [([], some (.inr (false, [(-9, -9)])), kch328), ([], some (.inr (false, [(-1, 63)])), [])])
/-- MiceRegisters.readMouse -/
def kcc378 : ak_C := (19, [.inl 0, .inl 13, .inr (false, [(-1, 60)]), .inr (false, [(31, 31)])], kch274, [24, 29, 30, 31], [([], some (.inr (false, [(-1, 63)])), kch36), ([], some (.inr (false, [(-9, -9)])), kch38)])
theorem kck378 : ai_chk [kcc28, kcc376, kcc377] kcc378 (fun pc => sm_ch sm_t19 pc, sm_Kn 2 6 none, fun x => sm_lk sm_ca2 x, some .int) [24, 29, 30, 31] 6 0 [] [] 2000 [] = true := by decide +kernel
/-- MiceRegisters.readLine -/
def kcc379 : ak_C := (17, [.inl 0, .inl 13, .inr (false, [(-1, 60)]), .inr (false, [(30, 30)])], kch275, [24, 25, 26], [([[], [], [], []], some (.inr (false, [(-1, 60)])), kch40), ([[], [], [(1, 60)], []], some (.inr (false, [(-9, -9)])), kch42)])
theorem kck379 : ai_chk [kcc263] kcc379 (fun pc => sm_ch sm_t17 pc, sm_Kn 2 6 none, fun x => sm_lk sm_ca2 x, some .int) [24, 25, 26] 6 4 [29] [] 2000 [(29, [(0, .inl 0), (1, .inl 13), (2, .inr (false, [(-1, 60)])), (3, .inr (false, [(30, 30)])), (4, .inr (false, [(31, 31)]))], [], kch276),
  (29, [(0, .inl 0), (1, .inl 13), (2, .inr (false, [(1, 60)])), (3, .inr (false, [(30, 30)])), (4, .inr (false, [(32, 32)])), (5, .inr (false, [(-9, -9)]))], [], kch276),
  (29, [(0, .inl 0), (1, .inl 13), (2, .inr (false, [(1, 60)])), (3, .inr (false, [(30, 30)])), (4, .inr (false, [(33, 33)])), (5, .inr (false, [(-9, -9)]))], [], kch276),
  (29, [(0, .inl 0), (1, .inl 13), (2, .inr (false, [(1, 60)])), (3, .inr (false, [(30, 30)])), (4, .inr (false, [(34, 34)])), (5, .inr (false, [(-9, -9)]))], [], kch276)] = true := by decide +kernel
def kch329 : aw_H := [(13, kcx149)]
/-- MiceRegisters.faultOfFigure -/
def kcc380 : ak_C := (18, [.inl 13, .inr (false, [(-1, 60)]), .inr (false, [(31, 31)]), .inr (false, [(0, 0)]), .inr (false, [(0, 7)])], kch22, [], [([], some (.inr (false, [(-9, -9)])), kch329), ([], some (.inr (false, [(-1, 63)])), [])])
def kch330 : aw_H := [(13, kcx151)]
/-- MiceRegisters.faultOfFigure -/
def kcc381 : ak_C := (18, [.inl 13, .inr (false, [(-1, 60)]), .inr (false, [(32, 32)]), .inr (false, [(1, 1)]), .inr (false, [(9, 9)])], kch329, [], [([], some (.inr (false, [(-9, -9)])), kch330), ([], some (.inr (false, [(-1, 63)])), [])])
/-- MiceRegisters.readMouse -/
def kcc382 : ak_C := (19, [.inl 0, .inl 13, .inr (false, [(-1, 60)]), .inr (false, [(30, 30)])], kch274, [24, 29, 30, 31], [([], some (.inr (false, [(-1, 63)])), kch36), ([], some (.inr (false, [(-9, -9)])), kch38)])
theorem kck382 : ai_chk [kcc28, kcc380, kcc381] kcc382 (fun pc => sm_ch sm_t19 pc, sm_Kn 2 6 none, fun x => sm_lk sm_ca2 x, some .int) [24, 29, 30, 31] 6 0 [] [] 2000 [] = true := by decide +kernel
/-- MiceRegisters.readLine -/
def kcc383 : ak_C := (17, [.inl 0, .inl 13, .inr (false, [(-1, 60)]), .inr (false, [(29, 29)])], kch275, [24, 25, 26], [([[], [], [], []], some (.inr (false, [(-1, 60)])), kch40), ([[], [], [(1, 60)], []], some (.inr (false, [(-9, -9)])), kch42)])
theorem kck383 : ai_chk [kcc263] kcc383 (fun pc => sm_ch sm_t17 pc, sm_Kn 2 6 none, fun x => sm_lk sm_ca2 x, some .int) [24, 25, 26] 6 4 [29] [] 2000 [(29, [(0, .inl 0), (1, .inl 13), (2, .inr (false, [(-1, 60)])), (3, .inr (false, [(29, 29)])), (4, .inr (false, [(30, 30)]))], [], kch276),
  (29, [(0, .inl 0), (1, .inl 13), (2, .inr (false, [(1, 60)])), (3, .inr (false, [(29, 29)])), (4, .inr (false, [(31, 31)])), (5, .inr (false, [(-9, -9)]))], [], kch276),
  (29, [(0, .inl 0), (1, .inl 13), (2, .inr (false, [(1, 60)])), (3, .inr (false, [(29, 29)])), (4, .inr (false, [(32, 32)])), (5, .inr (false, [(-9, -9)]))], [], kch276),
  (29, [(0, .inl 0), (1, .inl 13), (2, .inr (false, [(1, 60)])), (3, .inr (false, [(29, 29)])), (4, .inr (false, [(33, 33)])), (5, .inr (false, [(-9, -9)]))], [], kch276)] = true := by decide +kernel
def kch331 : aw_H := [(13, kcx153)]
/-- MiceRegisters.faultOfFigure -/
def kcc384 : ak_C := (18, [.inl 13, .inr (false, [(-1, 60)]), .inr (false, [(30, 30)]), .inr (false, [(0, 0)]), .inr (false, [(0, 7)])], kch22, [], [([], some (.inr (false, [(-9, -9)])), kch331), ([], some (.inr (false, [(-1, 63)])), [])])
def kch332 : aw_H := [(13, kcx155)]
/-- MiceRegisters.faultOfFigure -/
def kcc385 : ak_C := (18, [.inl 13, .inr (false, [(-1, 60)]), .inr (false, [(31, 31)]), .inr (false, [(1, 1)]), .inr (false, [(9, 9)])], kch331, [], [([], some (.inr (false, [(-9, -9)])), kch332), ([], some (.inr (false, [(-1, 63)])), [])])
/-- MiceRegisters.readMouse -/
def kcc386 : ak_C := (19, [.inl 0, .inl 13, .inr (false, [(-1, 60)]), .inr (false, [(29, 29)])], kch274, [24, 29, 30, 31], [([], some (.inr (false, [(-1, 63)])), kch36), ([], some (.inr (false, [(-9, -9)])), kch38)])
theorem kck386 : ai_chk [kcc28, kcc384, kcc385] kcc386 (fun pc => sm_ch sm_t19 pc, sm_Kn 2 6 none, fun x => sm_lk sm_ca2 x, some .int) [24, 29, 30, 31] 6 0 [] [] 2000 [] = true := by decide +kernel
/-- MiceRegisters.readLine -/
def kcc387 : ak_C := (17, [.inl 0, .inl 13, .inr (false, [(-1, 60)]), .inr (false, [(28, 28)])], kch275, [24, 25, 26], [([[], [], [], []], some (.inr (false, [(-1, 60)])), kch40), ([[], [], [(1, 60)], []], some (.inr (false, [(-9, -9)])), kch42)])
theorem kck387 : ai_chk [kcc263] kcc387 (fun pc => sm_ch sm_t17 pc, sm_Kn 2 6 none, fun x => sm_lk sm_ca2 x, some .int) [24, 25, 26] 6 4 [29] [] 2000 [(29, [(0, .inl 0), (1, .inl 13), (2, .inr (false, [(-1, 60)])), (3, .inr (false, [(28, 28)])), (4, .inr (false, [(29, 29)]))], [], kch276),
  (29, [(0, .inl 0), (1, .inl 13), (2, .inr (false, [(1, 60)])), (3, .inr (false, [(28, 28)])), (4, .inr (false, [(30, 30)])), (5, .inr (false, [(-9, -9)]))], [], kch276),
  (29, [(0, .inl 0), (1, .inl 13), (2, .inr (false, [(1, 60)])), (3, .inr (false, [(28, 28)])), (4, .inr (false, [(31, 31)])), (5, .inr (false, [(-9, -9)]))], [], kch276),
  (29, [(0, .inl 0), (1, .inl 13), (2, .inr (false, [(1, 60)])), (3, .inr (false, [(28, 28)])), (4, .inr (false, [(32, 32)])), (5, .inr (false, [(-9, -9)]))], [], kch276)] = true := by decide +kernel
def kch333 : aw_H := [(13, kcx157)]
/-- MiceRegisters.faultOfFigure -/
def kcc388 : ak_C := (18, [.inl 13, .inr (false, [(-1, 60)]), .inr (false, [(29, 29)]), .inr (false, [(0, 0)]), .inr (false, [(0, 7)])], kch22, [], [([], some (.inr (false, [(-9, -9)])), kch333), ([], some (.inr (false, [(-1, 63)])), [])])
def kch334 : aw_H := [(13, kcx159)]
/-- MiceRegisters.faultOfFigure -/
def kcc389 : ak_C := (18, [.inl 13, .inr (false, [(-1, 60)]), .inr (false, [(30, 30)]), .inr (false, [(1, 1)]), .inr (false, [(9, 9)])], kch333, [], [([], some (.inr (false, [(-9, -9)])), kch334), ([], some (.inr (false, [(-1, 63)])), [])])
/-- MiceRegisters.readMouse -/
def kcc390 : ak_C := (19, [.inl 0, .inl 13, .inr (false, [(-1, 60)]), .inr (false, [(28, 28)])], kch274, [24, 29, 30, 31], [([], some (.inr (false, [(-1, 63)])), kch36), ([], some (.inr (false, [(-9, -9)])), kch38)])
theorem kck390 : ai_chk [kcc28, kcc388, kcc389] kcc390 (fun pc => sm_ch sm_t19 pc, sm_Kn 2 6 none, fun x => sm_lk sm_ca2 x, some .int) [24, 29, 30, 31] 6 0 [] [] 2000 [] = true := by decide +kernel
/-- MiceRegisters.readLine -/
def kcc391 : ak_C := (17, [.inl 0, .inl 13, .inr (false, [(-1, 60)]), .inr (false, [(27, 27)])], kch275, [24, 25, 26], [([[], [], [], []], some (.inr (false, [(-1, 60)])), kch40), ([[], [], [(1, 60)], []], some (.inr (false, [(-9, -9)])), kch42)])
theorem kck391 : ai_chk [kcc263] kcc391 (fun pc => sm_ch sm_t17 pc, sm_Kn 2 6 none, fun x => sm_lk sm_ca2 x, some .int) [24, 25, 26] 6 4 [29] [] 2000 [(29, [(0, .inl 0), (1, .inl 13), (2, .inr (false, [(-1, 60)])), (3, .inr (false, [(27, 27)])), (4, .inr (false, [(28, 28)]))], [], kch276),
  (29, [(0, .inl 0), (1, .inl 13), (2, .inr (false, [(1, 60)])), (3, .inr (false, [(27, 27)])), (4, .inr (false, [(29, 29)])), (5, .inr (false, [(-9, -9)]))], [], kch276),
  (29, [(0, .inl 0), (1, .inl 13), (2, .inr (false, [(1, 60)])), (3, .inr (false, [(27, 27)])), (4, .inr (false, [(30, 30)])), (5, .inr (false, [(-9, -9)]))], [], kch276),
  (29, [(0, .inl 0), (1, .inl 13), (2, .inr (false, [(1, 60)])), (3, .inr (false, [(27, 27)])), (4, .inr (false, [(31, 31)])), (5, .inr (false, [(-9, -9)]))], [], kch276)] = true := by decide +kernel
def kch335 : aw_H := [(13, kcx161)]
/-- MiceRegisters.faultOfFigure -/
def kcc392 : ak_C := (18, [.inl 13, .inr (false, [(-1, 60)]), .inr (false, [(28, 28)]), .inr (false, [(0, 0)]), .inr (false, [(0, 7)])], kch22, [], [([], some (.inr (false, [(-9, -9)])), kch335), ([], some (.inr (false, [(-1, 63)])), [])])
def kch336 : aw_H := [(13, kcx163)]
/-- MiceRegisters.faultOfFigure -/
def kcc393 : ak_C := (18, [.inl 13, .inr (false, [(-1, 60)]), .inr (false, [(29, 29)]), .inr (false, [(1, 1)]), .inr (false, [(9, 9)])], kch335, [], [([], some (.inr (false, [(-9, -9)])), kch336), ([], some (.inr (false, [(-1, 63)])), [])])
/-- MiceRegisters.readMouse -/
def kcc394 : ak_C := (19, [.inl 0, .inl 13, .inr (false, [(-1, 60)]), .inr (false, [(27, 27)])], kch274, [24, 29, 30, 31], [([], some (.inr (false, [(-1, 63)])), kch36), ([], some (.inr (false, [(-9, -9)])), kch38)])
theorem kck394 : ai_chk [kcc28, kcc392, kcc393] kcc394 (fun pc => sm_ch sm_t19 pc, sm_Kn 2 6 none, fun x => sm_lk sm_ca2 x, some .int) [24, 29, 30, 31] 6 0 [] [] 2000 [] = true := by decide +kernel
/-- MiceRegisters.readLine -/
def kcc395 : ak_C := (17, [.inl 0, .inl 13, .inr (false, [(-1, 60)]), .inr (false, [(26, 26)])], kch275, [24, 25, 26], [([[], [], [], []], some (.inr (false, [(-1, 60)])), kch40), ([[], [], [(1, 60)], []], some (.inr (false, [(-9, -9)])), kch42)])
theorem kck395 : ai_chk [kcc263] kcc395 (fun pc => sm_ch sm_t17 pc, sm_Kn 2 6 none, fun x => sm_lk sm_ca2 x, some .int) [24, 25, 26] 6 4 [29] [] 2000 [(29, [(0, .inl 0), (1, .inl 13), (2, .inr (false, [(-1, 60)])), (3, .inr (false, [(26, 26)])), (4, .inr (false, [(27, 27)]))], [], kch276),
  (29, [(0, .inl 0), (1, .inl 13), (2, .inr (false, [(1, 60)])), (3, .inr (false, [(26, 26)])), (4, .inr (false, [(28, 28)])), (5, .inr (false, [(-9, -9)]))], [], kch276),
  (29, [(0, .inl 0), (1, .inl 13), (2, .inr (false, [(1, 60)])), (3, .inr (false, [(26, 26)])), (4, .inr (false, [(29, 29)])), (5, .inr (false, [(-9, -9)]))], [], kch276),
  (29, [(0, .inl 0), (1, .inl 13), (2, .inr (false, [(1, 60)])), (3, .inr (false, [(26, 26)])), (4, .inr (false, [(30, 30)])), (5, .inr (false, [(-9, -9)]))], [], kch276)] = true := by decide +kernel
def kch337 : aw_H := [(13, kcx165)]
/-- MiceRegisters.faultOfFigure -/
def kcc396 : ak_C := (18, [.inl 13, .inr (false, [(-1, 60)]), .inr (false, [(27, 27)]), .inr (false, [(0, 0)]), .inr (false, [(0, 7)])], kch22, [], [([], some (.inr (false, [(-9, -9)])), kch337), ([], some (.inr (false, [(-1, 63)])), [])])
def kch338 : aw_H := [(13, kcx167)]
/-- MiceRegisters.faultOfFigure -/
def kcc397 : ak_C := (18, [.inl 13, .inr (false, [(-1, 60)]), .inr (false, [(28, 28)]), .inr (false, [(1, 1)]), .inr (false, [(9, 9)])], kch337, [], [([], some (.inr (false, [(-9, -9)])), kch338), ([], some (.inr (false, [(-1, 63)])), [])])
/-- MiceRegisters.readMouse -/
def kcc398 : ak_C := (19, [.inl 0, .inl 13, .inr (false, [(-1, 60)]), .inr (false, [(26, 26)])], kch274, [24, 29, 30, 31], [([], some (.inr (false, [(-1, 63)])), kch36), ([], some (.inr (false, [(-9, -9)])), kch38)])
theorem kck398 : ai_chk [kcc28, kcc396, kcc397] kcc398 (fun pc => sm_ch sm_t19 pc, sm_Kn 2 6 none, fun x => sm_lk sm_ca2 x, some .int) [24, 29, 30, 31] 6 0 [] [] 2000 [] = true := by decide +kernel
