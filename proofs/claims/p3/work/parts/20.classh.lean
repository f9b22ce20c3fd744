/-! Contracts over ranges of the class, and their checks; printed by a program of mine. -/
/-- MiceRegisters.readLine -/
def kcc795 : ak_C := (17, [.inl 0, .inl 14, .inr (false, [(-1, 60)]), .inr (false, [(48, 48)])], kch51, [24, 25, 26], [([[], [], [], []], some (.inr (false, [(-1, 60)])), kch26), ([[], [], [(1, 60)], []], some (.inr (false, [(-9, -9)])), kch28)])
theorem kck795 : ai_chk [kcc42] kcc795 (fun pc => sm_ch sm_t17 pc, sm_Kn 2 6 none, fun x => sm_lk sm_ca2 x, some .int) [24, 25, 26] 6 4 [29] [] 2000 [(29, [(0, .inl 0), (1, .inl 14), (2, .inr (false, [(-1, 60)])), (3, .inr (false, [(48, 48)])), (4, .inr (false, [(49, 49)]))], [], kch52),
  (29, [(0, .inl 0), (1, .inl 14), (2, .inr (false, [(1, 60)])), (3, .inr (false, [(48, 48)])), (4, .inr (false, [(50, 50)])), (5, .inr (false, [(-9, -9)]))], [], kch52),
  (29, [(0, .inl 0), (1, .inl 14), (2, .inr (false, [(1, 60)])), (3, .inr (false, [(48, 48)])), (4, .inr (false, [(51, 51)])), (5, .inr (false, [(-9, -9)]))], [], kch52),
  (29, [(0, .inl 0), (1, .inl 14), (2, .inr (false, [(1, 60)])), (3, .inr (false, [(48, 48)])), (4, .inr (false, [(52, 52)])), (5, .inr (false, [(-9, -9)]))], [], kch52)] = true := by decide +kernel
def kch524 : aw_H := [(14, kcx516)]
/-- MiceRegisters.faultOfFigure -/
def kcc796 : ak_C := (18, [.inl 14, .inr (false, [(-1, 60)]), .inr (false, [(49, 49)]), .inr (false, [(0, 0)]), .inr (false, [(0, 7)])], kch21, [], [([], some (.inr (false, [(-9, -9)])), kch524), ([], some (.inr (false, [(-1, 63)])), [])])
def kch525 : aw_H := [(14, kcx518)]
/-- MiceRegisters.faultOfFigure -/
def kcc797 : ak_C := (18, [.inl 14, .inr (false, [(-1, 60)]), .inr (false, [(50, 50)]), .inr (false, [(1, 1)]), .inr (false, [(9, 9)])], kch524, [], [([], some (.inr (false, [(-9, -9)])), kch525), ([], some (.inr (false, [(-1, 63)])), [])])
/-- MiceRegisters.readMouse -/
def kcc798 : ak_C := (19, [.inl 0, .inl 14, .inr (false, [(-1, 60)]), .inr (false, [(48, 48)])], kch55, [24, 29, 30, 31], [([], some (.inr (false, [(-1, 63)])), kch37), ([], some (.inr (false, [(-9, -9)])), kch39)])
theorem kck798 : ai_chk [kcc28, kcc796, kcc797] kcc798 (fun pc => sm_ch sm_t19 pc, sm_Kn 2 6 none, fun x => sm_lk sm_ca2 x, some .int) [24, 29, 30, 31] 6 0 [] [] 2000 [] = true := by decide +kernel
/-- MiceRegisters.readLine -/
def kcc799 : ak_C := (17, [.inl 0, .inl 11, .inr (false, [(-1, 60)]), .inr (false, [(49, 49)])], kch29, [24, 25, 26], [([[], [], [], []], some (.inr (false, [(-1, 60)])), kch26), ([[], [], [(1, 60)], []], some (.inr (false, [(-9, -9)])), kch28)])
theorem kck799 : ai_chk [kcc26] kcc799 (fun pc => sm_ch sm_t17 pc, sm_Kn 2 6 none, fun x => sm_lk sm_ca2 x, some .int) [24, 25, 26] 6 4 [29] [] 2000 [(29, [(0, .inl 0), (1, .inl 11), (2, .inr (false, [(-1, 60)])), (3, .inr (false, [(49, 49)])), (4, .inr (false, [(50, 50)]))], [], kch31),
  (29, [(0, .inl 0), (1, .inl 11), (2, .inr (false, [(1, 60)])), (3, .inr (false, [(49, 49)])), (4, .inr (false, [(51, 51)])), (5, .inr (false, [(-9, -9)]))], [], kch31),
  (29, [(0, .inl 0), (1, .inl 11), (2, .inr (false, [(1, 60)])), (3, .inr (false, [(49, 49)])), (4, .inr (false, [(52, 52)])), (5, .inr (false, [(-9, -9)]))], [], kch31),
  (29, [(0, .inl 0), (1, .inl 11), (2, .inr (false, [(1, 60)])), (3, .inr (false, [(49, 49)])), (4, .inr (false, [(53, 53)])), (5, .inr (false, [(-9, -9)]))], [], kch31)] = true := by decide +kernel
def kcx526 : aw_A := .inr (.inl (1, 60, [], [(50, [(48, 55)])]))
def kch527 : aw_H := [(11, kcx526)]
/-- MiceRegisters.faultOfFigure -/
def kcc800 : ak_C := (18, [.inl 11, .inr (false, [(-1, 60)]), .inr (false, [(50, 50)]), .inr (false, [(0, 0)]), .inr (false, [(0, 7)])], kch24, [], [([], some (.inr (false, [(-9, -9)])), kch527), ([], some (.inr (false, [(-1, 63)])), [])])
def kcx528 : aw_A := .inr (.inl (1, 60, [], [(51, [(49, 57)]), (50, [(48, 55)])]))
def kch529 : aw_H := [(11, kcx528)]
/-- MiceRegisters.faultOfFigure -/
def kcc801 : ak_C := (18, [.inl 11, .inr (false, [(-1, 60)]), .inr (false, [(51, 51)]), .inr (false, [(1, 1)]), .inr (false, [(9, 9)])], kch527, [], [([], some (.inr (false, [(-9, -9)])), kch529), ([], some (.inr (false, [(-1, 63)])), [])])
/-- MiceRegisters.readMouse -/
def kcc802 : ak_C := (19, [.inl 0, .inl 11, .inr (false, [(-1, 60)]), .inr (false, [(49, 49)])], kch40, [24, 29, 30, 31], [([], some (.inr (false, [(-1, 63)])), kch37), ([], some (.inr (false, [(-9, -9)])), kch39)])
theorem kck802 : ai_chk [kcc28, kcc800, kcc801] kcc802 (fun pc => sm_ch sm_t19 pc, sm_Kn 2 6 none, fun x => sm_lk sm_ca2 x, some .int) [24, 29, 30, 31] 6 0 [] [] 2000 [] = true := by decide +kernel
/-- MiceRegisters.readLine -/
def kcc803 : ak_C := (17, [.inl 0, .inl 12, .inr (false, [(-1, 60)]), .inr (false, [(49, 49)])], kch41, [24, 25, 26], [([[], [], [], []], some (.inr (false, [(-1, 60)])), kch26), ([[], [], [(1, 60)], []], some (.inr (false, [(-9, -9)])), kch28)])
theorem kck803 : ai_chk [kcc32] kcc803 (fun pc => sm_ch sm_t17 pc, sm_Kn 2 6 none, fun x => sm_lk sm_ca2 x, some .int) [24, 25, 26] 6 4 [29] [] 2000 [(29, [(0, .inl 0), (1, .inl 12), (2, .inr (false, [(-1, 60)])), (3, .inr (false, [(49, 49)])), (4, .inr (false, [(50, 50)]))], [], kch42),
  (29, [(0, .inl 0), (1, .inl 12), (2, .inr (false, [(1, 60)])), (3, .inr (false, [(49, 49)])), (4, .inr (false, [(51, 51)])), (5, .inr (false, [(-9, -9)]))], [], kch42),
  (29, [(0, .inl 0), (1, .inl 12), (2, .inr (false, [(1, 60)])), (3, .inr (false, [(49, 49)])), (4, .inr (false, [(52, 52)])), (5, .inr (false, [(-9, -9)]))], [], kch42),
  (29, [(0, .inl 0), (1, .inl 12), (2, .inr (false, [(1, 60)])), (3, .inr (false, [(49, 49)])), (4, .inr (false, [(53, 53)])), (5, .inr (false, [(-9, -9)]))], [], kch42)] = true := by decide +kernel
def kch530 : aw_H := [(12, kcx526)]
/-- MiceRegisters.faultOfFigure -/
def kcc804 : ak_C := (18, [.inl 12, .inr (false, [(-1, 60)]), .inr (false, [(50, 50)]), .inr (false, [(0, 0)]), .inr (false, [(0, 7)])], kch23, [], [([], some (.inr (false, [(-9, -9)])), kch530), ([], some (.inr (false, [(-1, 63)])), [])])
def kch531 : aw_H := [(12, kcx528)]
/-- MiceRegisters.faultOfFigure -/
def kcc805 : ak_C := (18, [.inl 12, .inr (false, [(-1, 60)]), .inr (false, [(51, 51)]), .inr (false, [(1, 1)]), .inr (false, [(9, 9)])], kch530, [], [([], some (.inr (false, [(-9, -9)])), kch531), ([], some (.inr (false, [(-1, 63)])), [])])
/-- MiceRegisters.readMouse -/
def kcc806 : ak_C := (19, [.inl 0, .inl 12, .inr (false, [(-1, 60)]), .inr (false, [(49, 49)])], kch45, [24, 29, 30, 31], [([], some (.inr (false, [(-1, 63)])), kch37), ([], some (.inr (false, [(-9, -9)])), kch39)])
theorem kck806 : ai_chk [kcc28, kcc804, kcc805] kcc806 (fun pc => sm_ch sm_t19 pc, sm_Kn 2 6 none, fun x => sm_lk sm_ca2 x, some .int) [24, 29, 30, 31] 6 0 [] [] 2000 [] = true := by decide +kernel
/-- MiceRegisters.readLine -/
def kcc807 : ak_C := (17, [.inl 0, .inl 13, .inr (false, [(-1, 60)]), .inr (false, [(49, 49)])], kch46, [24, 25, 26], [([[], [], [], []], some (.inr (false, [(-1, 60)])), kch26), ([[], [], [(1, 60)], []], some (.inr (false, [(-9, -9)])), kch28)])
theorem kck807 : ai_chk [kcc37] kcc807 (fun pc => sm_ch sm_t17 pc, sm_Kn 2 6 none, fun x => sm_lk sm_ca2 x, some .int) [24, 25, 26] 6 4 [29] [] 2000 [(29, [(0, .inl 0), (1, .inl 13), (2, .inr (false, [(-1, 60)])), (3, .inr (false, [(49, 49)])), (4, .inr (false, [(50, 50)]))], [], kch47),
  (29, [(0, .inl 0), (1, .inl 13), (2, .inr (false, [(1, 60)])), (3, .inr (false, [(49, 49)])), (4, .inr (false, [(51, 51)])), (5, .inr (false, [(-9, -9)]))], [], kch47),
  (29, [(0, .inl 0), (1, .inl 13), (2, .inr (false, [(1, 60)])), (3, .inr (false, [(49, 49)])), (4, .inr (false, [(52, 52)])), (5, .inr (false, [(-9, -9)]))], [], kch47),
  (29, [(0, .inl 0), (1, .inl 13), (2, .inr (false, [(1, 60)])), (3, .inr (false, [(49, 49)])), (4, .inr (false, [(53, 53)])), (5, .inr (false, [(-9, -9)]))], [], kch47)] = true := by decide +kernel
def kch532 : aw_H := [(13, kcx526)]
/-- MiceRegisters.faultOfFigure -/
def kcc808 : ak_C := (18, [.inl 13, .inr (false, [(-1, 60)]), .inr (false, [(50, 50)]), .inr (false, [(0, 0)]), .inr (false, [(0, 7)])], kch22, [], [([], some (.inr (false, [(-9, -9)])), kch532), ([], some (.inr (false, [(-1, 63)])), [])])
def kch533 : aw_H := [(13, kcx528)]
/-- MiceRegisters.faultOfFigure -/
def kcc809 : ak_C := (18, [.inl 13, .inr (false, [(-1, 60)]), .inr (false, [(51, 51)]), .inr (false, [(1, 1)]), .inr (false, [(9, 9)])], kch532, [], [([], some (.inr (false, [(-9, -9)])), kch533), ([], some (.inr (false, [(-1, 63)])), [])])
/-- MiceRegisters.readMouse -/
def kcc810 : ak_C := (19, [.inl 0, .inl 13, .inr (false, [(-1, 60)]), .inr (false, [(49, 49)])], kch50, [24, 29, 30, 31], [([], some (.inr (false, [(-1, 63)])), kch37), ([], some (.inr (false, [(-9, -9)])), kch39)])
theorem kck810 : ai_chk [kcc28, kcc808, kcc809] kcc810 (fun pc => sm_ch sm_t19 pc, sm_Kn 2 6 none, fun x => sm_lk sm_ca2 x, some .int) [24, 29, 30, 31] 6 0 [] [] 2000 [] = true := by decide +kernel
/-- MiceRegisters.readLine -/
def kcc811 : ak_C := (17, [.inl 0, .inl 14, .inr (false, [(-1, 60)]), .inr (false, [(49, 49)])], kch51, [24, 25, 26], [([[], [], [], []], some (.inr (false, [(-1, 60)])), kch26), ([[], [], [(1, 60)], []], some (.inr (false, [(-9, -9)])), kch28)])
theorem kck811 : ai_chk [kcc42] kcc811 (fun pc => sm_ch sm_t17 pc, sm_Kn 2 6 none, fun x => sm_lk sm_ca2 x, some .int) [24, 25, 26] 6 4 [29] [] 2000 [(29, [(0, .inl 0), (1, .inl 14), (2, .inr (false, [(-1, 60)])), (3, .inr (false, [(49, 49)])), (4, .inr (false, [(50, 50)]))], [], kch52),
  (29, [(0, .inl 0), (1, .inl 14), (2, .inr (false, [(1, 60)])), (3, .inr (false, [(49, 49)])), (4, .inr (false, [(51, 51)])), (5, .inr (false, [(-9, -9)]))], [], kch52),
  (29, [(0, .inl 0), (1, .inl 14), (2, .inr (false, [(1, 60)])), (3, .inr (false, [(49, 49)])), (4, .inr (false, [(52, 52)])), (5, .inr (false, [(-9, -9)]))], [], kch52),
  (29, [(0, .inl 0), (1, .inl 14), (2, .inr (false, [(1, 60)])), (3, .inr (false, [(49, 49)])), (4, .inr (false, [(53, 53)])), (5, .inr (false, [(-9, -9)]))], [], kch52)] = true := by decide +kernel
def kch534 : aw_H := [(14, kcx526)]
/-- MiceRegisters.faultOfFigure -/
def kcc812 : ak_C := (18, [.inl 14, .inr (false, [(-1, 60)]), .inr (false, [(50, 50)]), .inr (false, [(0, 0)]), .inr (false, [(0, 7)])], kch21, [], [([], some (.inr (false, [(-9, -9)])), kch534), ([], some (.inr (false, [(-1, 63)])), [])])
def kch535 : aw_H := [(14, kcx528)]
/-- MiceRegisters.faultOfFigure -/
def kcc813 : ak_C := (18, [.inl 14, .inr (false, [(-1, 60)]), .inr (false, [(51, 51)]), .inr (false, [(1, 1)]), .inr (false, [(9, 9)])], kch534, [], [([], some (.inr (false, [(-9, -9)])), kch535), ([], some (.inr (false, [(-1, 63)])), [])])
/-- MiceRegisters.readMouse -/
def kcc814 : ak_C := (19, [.inl 0, .inl 14, .inr (false, [(-1, 60)]), .inr (false, [(49, 49)])], kch55, [24, 29, 30, 31], [([], some (.inr (false, [(-1, 63)])), kch37), ([], some (.inr (false, [(-9, -9)])), kch39)])
theorem kck814 : ai_chk [kcc28, kcc812, kcc813] kcc814 (fun pc => sm_ch sm_t19 pc, sm_Kn 2 6 none, fun x => sm_lk sm_ca2 x, some .int) [24, 29, 30, 31] 6 0 [] [] 2000 [] = true := by decide +kernel
/-- MiceRegisters.readLine -/
def kcc815 : ak_C := (17, [.inl 0, .inl 11, .inr (false, [(-1, 60)]), .inr (false, [(50, 50)])], kch29, [24, 25, 26], [([[], [], [], []], some (.inr (false, [(-1, 60)])), kch26), ([[], [], [(1, 60)], []], some (.inr (false, [(-9, -9)])), kch28)])
theorem kck815 : ai_chk [kcc26] kcc815 (fun pc => sm_ch sm_t17 pc, sm_Kn 2 6 none, fun x => sm_lk sm_ca2 x, some .int) [24, 25, 26] 6 4 [29] [] 2000 [(29, [(0, .inl 0), (1, .inl 11), (2, .inr (false, [(-1, 60)])), (3, .inr (false, [(50, 50)])), (4, .inr (false, [(51, 51)]))], [], kch31),
  (29, [(0, .inl 0), (1, .inl 11), (2, .inr (false, [(1, 60)])), (3, .inr (false, [(50, 50)])), (4, .inr (false, [(52, 52)])), (5, .inr (false, [(-9, -9)]))], [], kch31),
  (29, [(0, .inl 0), (1, .inl 11), (2, .inr (false, [(1, 60)])), (3, .inr (false, [(50, 50)])), (4, .inr (false, [(53, 53)])), (5, .inr (false, [(-9, -9)]))], [], kch31),
  (29, [(0, .inl 0), (1, .inl 11), (2, .inr (false, [(1, 60)])), (3, .inr (false, [(50, 50)])), (4, .inr (false, [(54, 54)])), (5, .inr (false, [(-9, -9)]))], [], kch31)] = true := by decide +kernel
def kcx536 : aw_A := .inr (.inl (1, 60, [], [(51, [(48, 55)])]))
def kch537 : aw_H := [(11, kcx536)]
/-- MiceRegisters.faultOfFigure -/
def kcc816 : ak_C := (18, [.inl 11, .inr (false, [(-1, 60)]), .inr (false, [(51, 51)]), .inr (false, [(0, 0)]), .inr (false, [(0, 7)])], kch24, [], [([], some (.inr (false, [(-9, -9)])), kch537), ([], some (.inr (false, [(-1, 63)])), [])])
def kcx538 : aw_A := .inr (.inl (1, 60, [], [(52, [(49, 57)]), (51, [(48, 55)])]))
def kch539 : aw_H := [(11, kcx538)]
/-- MiceRegisters.faultOfFigure -/
def kcc817 : ak_C := (18, [.inl 11, .inr (false, [(-1, 60)]), .inr (false, [(52, 52)]), .inr (false, [(1, 1)]), .inr (false, [(9, 9)])], kch537, [], [([], some (.inr (false, [(-9, -9)])), kch539), ([], some (.inr (false, [(-1, 63)])), [])])
/-- MiceRegisters.readMouse -/
def kcc818 : ak_C := (19, [.inl 0, .inl 11, .inr (false, [(-1, 60)]), .inr (false, [(50, 50)])], kch40, [24, 29, 30, 31], [([], some (.inr (false, [(-1, 63)])), kch37), ([], some (.inr (false, [(-9, -9)])), kch39)])
theorem kck818 : ai_chk [kcc28, kcc816, kcc817] kcc818 (fun pc => sm_ch sm_t19 pc, sm_Kn 2 6 none, fun x => sm_lk sm_ca2 x, some .int) [24, 29, 30, 31] 6 0 [] [] 2000 [] = true := by decide +kernel
/-- MiceRegisters.readLine -/
def kcc819 : ak_C := (17, [.inl 0, .inl 12, .inr (false, [(-1, 60)]), .inr (false, [(50, 50)])], kch41, [24, 25, 26], [([[], [], [], []], some (.inr (false, [(-1, 60)])), kch26), ([[], [], [(1, 60)], []], some (.inr (false, [(-9, -9)])), kch28)])
theorem kck819 : ai_chk [kcc32] kcc819 (fun pc => sm_ch sm_t17 pc, sm_Kn 2 6 none, fun x => sm_lk sm_ca2 x, some .int) [24, 25, 26] 6 4 [29] [] 2000 [(29, [(0, .inl 0), (1, .inl 12), (2, .inr (false, [(-1, 60)])), (3, .inr (false, [(50, 50)])), (4, .inr (false, [(51, 51)]))], [], kch42),
  (29, [(0, .inl 0), (1, .inl 12), (2, .inr (false, [(1, 60)])), (3, .inr (false, [(50, 50)])), (4, .inr (false, [(52, 52)])), (5, .inr (false, [(-9, -9)]))], [], kch42),
  (29, [(0, .inl 0), (1, .inl 12), (2, .inr (false, [(1, 60)])), (3, .inr (false, [(50, 50)])), (4, .inr (false, [(53, 53)])), (5, .inr (false, [(-9, -9)]))], [], kch42),
  (29, [(0, .inl 0), (1, .inl 12), (2, .inr (false, [(1, 60)])), (3, .inr (false, [(50, 50)])), (4, .inr (false, [(54, 54)])), (5, .inr (false, [(-9, -9)]))], [], kch42)] = true := by decide +kernel
def kch540 : aw_H := [(12, kcx536)]
/-- MiceRegisters.faultOfFigure -/
def kcc820 : ak_C := (18, [.inl 12, .inr (false, [(-1, 60)]), .inr (false, [(51, 51)]), .inr (false, [(0, 0)]), .inr (false, [(0, 7)])], kch23, [], [([], some (.inr (false, [(-9, -9)])), kch540), ([], some (.inr (false, [(-1, 63)])), [])])
def kch541 : aw_H := [(12, kcx538)]
/-- MiceRegisters.faultOfFigure -/
def kcc821 : ak_C := (18, [.inl 12, .inr (false, [(-1, 60)]), .inr (false, [(52, 52)]), .inr (false, [(1, 1)]), .inr (false, [(9, 9)])], kch540, [], [([], some (.inr (false, [(-9, -9)])), kch541), ([], some (.inr (false, [(-1, 63)])), [])])
/-- MiceRegisters.readMouse -/
def kcc822 : ak_C := (19, [.inl 0, .inl 12, .inr (false, [(-1, 60)]), .inr (false, [(50, 50)])], kch45, [24, 29, 30, 31], [([], some (.inr (false, [(-1, 63)])), kch37), ([], some (.inr (false, [(-9, -9)])), kch39)])
theorem kck822 : ai_chk [kcc28, kcc820, kcc821] kcc822 (fun pc => sm_ch sm_t19 pc, sm_Kn 2 6 none, fun x => sm_lk sm_ca2 x, some .int) [24, 29, 30, 31] 6 0 [] [] 2000 [] = true := by decide +kernel
/-- MiceRegisters.readLine -/
def kcc823 : ak_C := (17, [.inl 0, .inl 13, .inr (false, [(-1, 60)]), .inr (false, [(50, 50)])], kch46, [24, 25, 26], [([[], [], [], []], some (.inr (false, [(-1, 60)])), kch26), ([[], [], [(1, 60)], []], some (.inr (false, [(-9, -9)])), kch28)])
theorem kck823 : ai_chk [kcc37] kcc823 (fun pc => sm_ch sm_t17 pc, sm_Kn 2 6 none, fun x => sm_lk sm_ca2 x, some .int) [24, 25, 26] 6 4 [29] [] 2000 [(29, [(0, .inl 0), (1, .inl 13), (2, .inr (false, [(-1, 60)])), (3, .inr (false, [(50, 50)])), (4, .inr (false, [(51, 51)]))], [], kch47),
  (29, [(0, .inl 0), (1, .inl 13), (2, .inr (false, [(1, 60)])), (3, .inr (false, [(50, 50)])), (4, .inr (false, [(52, 52)])), (5, .inr (false, [(-9, -9)]))], [], kch47),
  (29, [(0, .inl 0), (1, .inl 13), (2, .inr (false, [(1, 60)])), (3, .inr (false, [(50, 50)])), (4, .inr (false, [(53, 53)])), (5, .inr (false, [(-9, -9)]))], [], kch47),
  (29, [(0, .inl 0), (1, .inl 13), (2, .inr (false, [(1, 60)])), (3, .inr (false, [(50, 50)])), (4, .inr (false, [(54, 54)])), (5, .inr (false, [(-9, -9)]))], [], kch47)] = true := by decide +kernel
def kch542 : aw_H := [(13, kcx536)]
/-- MiceRegisters.faultOfFigure -/
def kcc824 : ak_C := (18, [.inl 13, .inr (false, [(-1, 60)]), .inr (false, [(51, 51)]), .inr (false, [(0, 0)]), .inr (false, [(0, 7)])], kch22, [], [([], some (.inr (false, [(-9, -9)])), kch542), ([], some (.inr (false, [(-1, 63)])), [])])
def kch543 : aw_H := [(13, kcx538)]
/-- MiceRegisters.faultOfFigure -/
def kcc825 : ak_C := (18, [.inl 13, .inr (false, [(-1, 60)]), .inr (false, [(52, 52)]), .inr (false, [(1, 1)]), .inr (false, [(9, 9)])], kch542, [], [([], some (.inr (false, [(-9, -9)])), kch543), ([], some (.inr (false, [(-1, 63)])), [])])
/-- MiceRegisters.readMouse -/
def kcc826 : ak_C := (19, [.inl 0, .inl 13, .inr (false, [(-1, 60)]), .inr (false, [(50, 50)])], kch50, [24, 29, 30, 31], [([], some (.inr (false, [(-1, 63)])), kch37), ([], some (.inr (false, [(-9, -9)])), kch39)])
theorem kck826 : ai_chk [kcc28, kcc824, kcc825] kcc826 (fun pc => sm_ch sm_t19 pc, sm_Kn 2 6 none, fun x => sm_lk sm_ca2 x, some .int) [24, 29, 30, 31] 6 0 [] [] 2000 [] = true := by decide +kernel
/-- MiceRegisters.readLine -/
def kcc827 : ak_C := (17, [.inl 0, .inl 14, .inr (false, [(-1, 60)]), .inr (false, [(50, 50)])], kch51, [24, 25, 26], [([[], [], [], []], some (.inr (false, [(-1, 60)])), kch26), ([[], [], [(1, 60)], []], some (.inr (false, [(-9, -9)])), kch28)])
theorem kck827 : ai_chk [kcc42] kcc827 (fun pc => sm_ch sm_t17 pc, sm_Kn 2 6 none, fun x => sm_lk sm_ca2 x, some .int) [24, 25, 26] 6 4 [29] [] 2000 [(29, [(0, .inl 0), (1, .inl 14), (2, .inr (false, [(-1, 60)])), (3, .inr (false, [(50, 50)])), (4, .inr (false, [(51, 51)]))], [], kch52),
  (29, [(0, .inl 0), (1, .inl 14), (2, .inr (false, [(1, 60)])), (3, .inr (false, [(50, 50)])), (4, .inr (false, [(52, 52)])), (5, .inr (false, [(-9, -9)]))], [], kch52),
  (29, [(0, .inl 0), (1, .inl 14), (2, .inr (false, [(1, 60)])), (3, .inr (false, [(50, 50)])), (4, .inr (false, [(53, 53)])), (5, .inr (false, [(-9, -9)]))], [], kch52),
  (29, [(0, .inl 0), (1, .inl 14), (2, .inr (false, [(1, 60)])), (3, .inr (false, [(50, 50)])), (4, .inr (false, [(54, 54)])), (5, .inr (false, [(-9, -9)]))], [], kch52)] = true := by decide +kernel
def kch544 : aw_H := [(14, kcx536)]
/-- MiceRegisters.faultOfFigure -/
def kcc828 : ak_C := (18, [.inl 14, .inr (false, [(-1, 60)]), .inr (false, [(51, 51)]), .inr (false, [(0, 0)]), .inr (false, [(0, 7)])], kch21, [], [([], some (.inr (false, [(-9, -9)])), kch544), ([], some (.inr (false, [(-1, 63)])), [])])
def kch545 : aw_H := [(14, kcx538)]
/-- MiceRegisters.faultOfFigure -/
def kcc829 : ak_C := (18, [.inl 14, .inr (false, [(-1, 60)]), .inr (false, [(52, 52)]), .inr (false, [(1, 1)]), .inr (false, [(9, 9)])], kch544, [], [([], some (.inr (false, [(-9, -9)])), kch545), ([], some (.inr (false, [(-1, 63)])), [])])
/-- MiceRegisters.readMouse -/
def kcc830 : ak_C := (19, [.inl 0, .inl 14, .inr (false, [(-1, 60)]), .inr (false, [(50, 50)])], kch55, [24, 29, 30, 31], [([], some (.inr (false, [(-1, 63)])), kch37), ([], some (.inr (false, [(-9, -9)])), kch39)])
theorem kck830 : ai_chk [kcc28, kcc828, kcc829] kcc830 (fun pc => sm_ch sm_t19 pc, sm_Kn 2 6 none, fun x => sm_lk sm_ca2 x, some .int) [24, 29, 30, 31] 6 0 [] [] 2000 [] = true := by decide +kernel
/-- MiceRegisters.readLine -/
def kcc831 : ak_C := (17, [.inl 0, .inl 11, .inr (false, [(-1, 60)]), .inr (false, [(51, 51)])], kch29, [24, 25, 26], [([[], [], [], []], some (.inr (false, [(-1, 60)])), kch26), ([[], [], [(1, 60)], []], some (.inr (false, [(-9, -9)])), kch28)])
theorem kck831 : ai_chk [kcc26] kcc831 (fun pc => sm_ch sm_t17 pc, sm_Kn 2 6 none, fun x => sm_lk sm_ca2 x, some .int) [24, 25, 26] 6 4 [29] [] 2000 [(29, [(0, .inl 0), (1, .inl 11), (2, .inr (false, [(-1, 60)])), (3, .inr (false, [(51, 51)])), (4, .inr (false, [(52, 52)]))], [], kch31),
  (29, [(0, .inl 0), (1, .inl 11), (2, .inr (false, [(1, 60)])), (3, .inr (false, [(51, 51)])), (4, .inr (false, [(53, 53)])), (5, .inr (false, [(-9, -9)]))], [], kch31),
  (29, [(0, .inl 0), (1, .inl 11), (2, .inr (false, [(1, 60)])), (3, .inr (false, [(51, 51)])), (4, .inr (false, [(54, 54)])), (5, .inr (false, [(-9, -9)]))], [], kch31),
  (29, [(0, .inl 0), (1, .inl 11), (2, .inr (false, [(1, 60)])), (3, .inr (false, [(51, 51)])), (4, .inr (false, [(55, 55)])), (5, .inr (false, [(-9, -9)]))], [], kch31)] = true := by decide +kernel
def kcx546 : aw_A := .inr (.inl (1, 60, [], [(52, [(48, 55)])]))
def kch547 : aw_H := [(11, kcx546)]
/-- MiceRegisters.faultOfFigure -/
def kcc832 : ak_C := (18, [.inl 11, .inr (false, [(-1, 60)]), .inr (false, [(52, 52)]), .inr (false, [(0, 0)]), .inr (false, [(0, 7)])], kch24, [], [([], some (.inr (false, [(-9, -9)])), kch547), ([], some (.inr (false, [(-1, 63)])), [])])
def kcx548 : aw_A := .inr (.inl (1, 60, [], [(53, [(49, 57)]), (52, [(48, 55)])]))
def kch549 : aw_H := [(11, kcx548)]
/-- MiceRegisters.faultOfFigure -/
def kcc833 : ak_C := (18, [.inl 11, .inr (false, [(-1, 60)]), .inr (false, [(53, 53)]), .inr (false, [(1, 1)]), .inr (false, [(9, 9)])], kch547, [], [([], some (.inr (false, [(-9, -9)])), kch549), ([], some (.inr (false, [(-1, 63)])), [])])
/-- MiceRegisters.readMouse -/
def kcc834 : ak_C := (19, [.inl 0, .inl 11, .inr (false, [(-1, 60)]), .inr (false, [(51, 51)])], kch40, [24, 29, 30, 31], [([], some (.inr (false, [(-1, 63)])), kch37), ([], some (.inr (false, [(-9, -9)])), kch39)])
theorem kck834 : ai_chk [kcc28, kcc832, kcc833] kcc834 (fun pc => sm_ch sm_t19 pc, sm_Kn 2 6 none, fun x => sm_lk sm_ca2 x, some .int) [24, 29, 30, 31] 6 0 [] [] 2000 [] = true := by decide +kernel
/-- MiceRegisters.readLine -/
def kcc835 : ak_C := (17, [.inl 0, .inl 12, .inr (false, [(-1, 60)]), .inr (false, [(51, 51)])], kch41, [24, 25, 26], [([[], [], [], []], some (.inr (false, [(-1, 60)])), kch26), ([[], [], [(1, 60)], []], some (.inr (false, [(-9, -9)])), kch28)])
theorem kck835 : ai_chk [kcc32] kcc835 (fun pc => sm_ch sm_t17 pc, sm_Kn 2 6 none, fun x => sm_lk sm_ca2 x, some .int) [24, 25, 26] 6 4 [29] [] 2000 [(29, [(0, .inl 0), (1, .inl 12), (2, .inr (false, [(-1, 60)])), (3, .inr (false, [(51, 51)])), (4, .inr (false, [(52, 52)]))], [], kch42),
  (29, [(0, .inl 0), (1, .inl 12), (2, .inr (false, [(1, 60)])), (3, .inr (false, [(51, 51)])), (4, .inr (false, [(53, 53)])), (5, .inr (false, [(-9, -9)]))], [], kch42),
  (29, [(0, .inl 0), (1, .inl 12), (2, .inr (false, [(1, 60)])), (3, .inr (false, [(51, 51)])), (4, .inr (false, [(54, 54)])), (5, .inr (false, [(-9, -9)]))], [], kch42),
  (29, [(0, .inl 0), (1, .inl 12), (2, .inr (false, [(1, 60)])), (3, .inr (false, [(51, 51)])), (4, .inr (false, [(55, 55)])), (5, .inr (false, [(-9, -9)]))], [], kch42)] = true := by decide +kernel
def kch550 : aw_H := [(12, kcx546)]
/-- MiceRegisters.faultOfFigure -/
def kcc836 : ak_C := (18, [.inl 12, .inr (false, [(-1, 60)]), .inr (false, [(52, 52)]), .inr (false, [(0, 0)]), .inr (false, [(0, 7)])], kch23, [], [([], some (.inr (false, [(-9, -9)])), kch550), ([], some (.inr (false, [(-1, 63)])), [])])
def kch551 : aw_H := [(12, kcx548)]
/-- MiceRegisters.faultOfFigure -/
def kcc837 : ak_C := (18, [.inl 12, .inr (false, [(-1, 60)]), .inr (false, [(53, 53)]), .inr (false, [(1, 1)]), .inr (false, [(9, 9)])], kch550, [], [([], some (.inr (false, [(-9, -9)])), kch551), ([], some (.inr (false, [(-1, 63)])), [])])
/-- MiceRegisters.readMouse -/
def kcc838 : ak_C := (19, [.inl 0, .inl 12, .inr (false, [(-1, 60)]), .inr (false, [(51, 51)])], kch45, [24, 29, 30, 31], [([], some (.inr (false, [(-1, 63)])), kch37), ([], some (.inr (false, [(-9, -9)])), kch39)])
theorem kck838 : ai_chk [kcc28, kcc836, kcc837] kcc838 (fun pc => sm_ch sm_t19 pc, sm_Kn 2 6 none, fun x => sm_lk sm_ca2 x, some .int) [24, 29, 30, 31] 6 0 [] [] 2000 [] = true := by decide +kernel
/-- MiceRegisters.readLine -/
def kcc839 : ak_C := (17, [.inl 0, .inl 13, .inr (false, [(-1, 60)]), .inr (false, [(51, 51)])], kch46, [24, 25, 26], [([[], [], [], []], some (.inr (false, [(-1, 60)])), kch26), ([[], [], [(1, 60)], []], some (.inr (false, [(-9, -9)])), kch28)])
theorem kck839 : ai_chk [kcc37] kcc839 (fun pc => sm_ch sm_t17 pc, sm_Kn 2 6 none, fun x => sm_lk sm_ca2 x, some .int) [24, 25, 26] 6 4 [29] [] 2000 [(29, [(0, .inl 0), (1, .inl 13), (2, .inr (false, [(-1, 60)])), (3, .inr (false, [(51, 51)])), (4, .inr (false, [(52, 52)]))], [], kch47),
  (29, [(0, .inl 0), (1, .inl 13), (2, .inr (false, [(1, 60)])), (3, .inr (false, [(51, 51)])), (4, .inr (false, [(53, 53)])), (5, .inr (false, [(-9, -9)]))], [], kch47),
  (29, [(0, .inl 0), (1, .inl 13), (2, .inr (false, [(1, 60)])), (3, .inr (false, [(51, 51)])), (4, .inr (false, [(54, 54)])), (5, .inr (false, [(-9, -9)]))], [], kch47),
  (29, [(0, .inl 0), (1, .inl 13), (2, .inr (false, [(1, 60)])), (3, .inr (false, [(51, 51)])), (4, .inr (false, [(55, 55)])), (5, .inr (false, [(-9, -9)]))], [], kch47)] = true := by decide +kernel
def kch552 : aw_H := [(13, kcx546)]
/-- MiceRegisters.faultOfFigure -/
def kcc840 : ak_C := (18, [.inl 13, .inr (false, [(-1, 60)]), .inr (false, [(52, 52)]), .inr (false, [(0, 0)]), .inr (false, [(0, 7)])], kch22, [], [([], some (.inr (false, [(-9, -9)])), kch552), ([], some (.inr (false, [(-1, 63)])), [])])
def kch553 : aw_H := [(13, kcx548)]
/-- MiceRegisters.faultOfFigure -/
def kcc841 : ak_C := (18, [.inl 13, .inr (false, [(-1, 60)]), .inr (false, [(53, 53)]), .inr (false, [(1, 1)]), .inr (false, [(9, 9)])], kch552, [], [([], some (.inr (false, [(-9, -9)])), kch553), ([], some (.inr (false, [(-1, 63)])), [])])
/-- MiceRegisters.readMouse -/
def kcc842 : ak_C := (19, [.inl 0, .inl 13, .inr (false, [(-1, 60)]), .inr (false, [(51, 51)])], kch50, [24, 29, 30, 31], [([], some (.inr (false, [(-1, 63)])), kch37), ([], some (.inr (false, [(-9, -9)])), kch39)])
theorem kck842 : ai_chk [kcc28, kcc840, kcc841] kcc842 (fun pc => sm_ch sm_t19 pc, sm_Kn 2 6 none, fun x => sm_lk sm_ca2 x, some .int) [24, 29, 30, 31] 6 0 [] [] 2000 [] = true := by decide +kernel
/-- MiceRegisters.readLine -/
def kcc843 : ak_C := (17, [.inl 0, .inl 14, .inr (false, [(-1, 60)]), .inr (false, [(51, 51)])], kch51, [24, 25, 26], [([[], [], [], []], some (.inr (false, [(-1, 60)])), kch26), ([[], [], [(1, 60)], []], some (.inr (false, [(-9, -9)])), kch28)])
theorem kck843 : ai_chk [kcc42] kcc843 (fun pc => sm_ch sm_t17 pc, sm_Kn 2 6 none, fun x => sm_lk sm_ca2 x, some .int) [24, 25, 26] 6 4 [29] [] 2000 [(29, [(0, .inl 0), (1, .inl 14), (2, .inr (false, [(-1, 60)])), (3, .inr (false, [(51, 51)])), (4, .inr (false, [(52, 52)]))], [], kch52),
  (29, [(0, .inl 0), (1, .inl 14), (2, .inr (false, [(1, 60)])), (3, .inr (false, [(51, 51)])), (4, .inr (false, [(53, 53)])), (5, .inr (false, [(-9, -9)]))], [], kch52),
  (29, [(0, .inl 0), (1, .inl 14), (2, .inr (false, [(1, 60)])), (3, .inr (false, [(51, 51)])), (4, .inr (false, [(54, 54)])), (5, .inr (false, [(-9, -9)]))], [], kch52),
  (29, [(0, .inl 0), (1, .inl 14), (2, .inr (false, [(1, 60)])), (3, .inr (false, [(51, 51)])), (4, .inr (false, [(55, 55)])), (5, .inr (false, [(-9, -9)]))], [], kch52)] = true := by decide +kernel
def kch554 : aw_H := [(14, kcx546)]
/-- MiceRegisters.faultOfFigure -/
def kcc844 : ak_C := (18, [.inl 14, .inr (false, [(-1, 60)]), .inr (false, [(52, 52)]), .inr (false, [(0, 0)]), .inr (false, [(0, 7)])], kch21, [], [([], some (.inr (false, [(-9, -9)])), kch554), ([], some (.inr (false, [(-1, 63)])), [])])
def kch555 : aw_H := [(14, kcx548)]
/-- MiceRegisters.faultOfFigure -/
def kcc845 : ak_C := (18, [.inl 14, .inr (false, [(-1, 60)]), .inr (false, [(53, 53)]), .inr (false, [(1, 1)]), .inr (false, [(9, 9)])], kch554, [], [([], some (.inr (false, [(-9, -9)])), kch555), ([], some (.inr (false, [(-1, 63)])), [])])
/-- MiceRegisters.readMouse -/
def kcc846 : ak_C := (19, [.inl 0, .inl 14, .inr (false, [(-1, 60)]), .inr (false, [(51, 51)])], kch55, [24, 29, 30, 31], [([], some (.inr (false, [(-1, 63)])), kch37), ([], some (.inr (false, [(-9, -9)])), kch39)])
theorem kck846 : ai_chk [kcc28, kcc844, kcc845] kcc846 (fun pc => sm_ch sm_t19 pc, sm_Kn 2 6 none, fun x => sm_lk sm_ca2 x, some .int) [24, 29, 30, 31] 6 0 [] [] 2000 [] = true := by decide +kernel
/-- MiceRegisters.readLine -/
def kcc847 : ak_C := (17, [.inl 0, .inl 11, .inr (false, [(-1, 60)]), .inr (false, [(52, 52)])], kch29, [24, 25, 26], [([[], [], [], []], some (.inr (false, [(-1, 60)])), kch26), ([[], [], [(1, 60)], []], some (.inr (false, [(-9, -9)])), kch28)])
theorem kck847 : ai_chk [kcc26] kcc847 (fun pc => sm_ch sm_t17 pc, sm_Kn 2 6 none, fun x => sm_lk sm_ca2 x, some .int) [24, 25, 26] 6 4 [29] [] 2000 [(29, [(0, .inl 0), (1, .inl 11), (2, .inr (false, [(-1, 60)])), (3, .inr (false, [(52, 52)])), (4, .inr (false, [(53, 53)]))], [], kch31),
  (29, [(0, .inl 0), (1, .inl 11), (2, .inr (false, [(1, 60)])), (3, .inr (false, [(52, 52)])), (4, .inr (false, [(54, 54)])), (5, .inr (false, [(-9, -9)]))], [], kch31),
  (29, [(0, .inl 0), (1, .inl 11), (2, .inr (false, [(1, 60)])), (3, .inr (false, [(52, 52)])), (4, .inr (false, [(55, 55)])), (5, .inr (false, [(-9, -9)]))], [], kch31),
  (29, [(0, .inl 0), (1, .inl 11), (2, .inr (false, [(1, 60)])), (3, .inr (false, [(52, 52)])), (4, .inr (false, [(56, 56)])), (5, .inr (false, [(-9, -9)]))], [], kch31)] = true := by decide +kernel
def kcx556 : aw_A := .inr (.inl (1, 60, [], [(53, [(48, 55)])]))
def kch557 : aw_H := [(11, kcx556)]
/-- MiceRegisters.faultOfFigure -/
def kcc848 : ak_C := (18, [.inl 11, .inr (false, [(-1, 60)]), .inr (false, [(53, 53)]), .inr (false, [(0, 0)]), .inr (false, [(0, 7)])], kch24, [], [([], some (.inr (false, [(-9, -9)])), kch557), ([], some (.inr (false, [(-1, 63)])), [])])
def kcx558 : aw_A := .inr (.inl (1, 60, [], [(54, [(49, 57)]), (53, [(48, 55)])]))
def kch559 : aw_H := [(11, kcx558)]
/-- MiceRegisters.faultOfFigure -/
def kcc849 : ak_C := (18, [.inl 11, .inr (false, [(-1, 60)]), .inr (false, [(54, 54)]), .inr (false, [(1, 1)]), .inr (false, [(9, 9)])], kch557, [], [([], some (.inr (false, [(-9, -9)])), kch559), ([], some (.inr (false, [(-1, 63)])), [])])
/-- MiceRegisters.readMouse -/
def kcc850 : ak_C := (19, [.inl 0, .inl 11, .inr (false, [(-1, 60)]), .inr (false, [(52, 52)])], kch40, [24, 29, 30, 31], [([], some (.inr (false, [(-1, 63)])), kch37), ([], some (.inr (false, [(-9, -9)])), kch39)])
theorem kck850 : ai_chk [kcc28, kcc848, kcc849] kcc850 (fun pc => sm_ch sm_t19 pc, sm_Kn 2 6 none, fun x => sm_lk sm_ca2 x, some .int) [24, 29, 30, 31] 6 0 [] [] 2000 [] = true := by decide +kernel
/-- MiceRegisters.readLine -/
def kcc851 : ak_C := (17, [.inl 0, .inl 12, .inr (false, [(-1, 60)]), .inr (false, [(52, 52)])], kch41, [24, 25, 26], [([[], [], [], []], some (.inr (false, [(-1, 60)])), kch26), ([[], [], [(1, 60)], []], some (.inr (false, [(-9, -9)])), kch28)])
theorem kck851 : ai_chk [kcc32] kcc851 (fun pc => sm_ch sm_t17 pc, sm_Kn 2 6 none, fun x => sm_lk sm_ca2 x, some .int) [24, 25, 26] 6 4 [29] [] 2000 [(29, [(0, .inl 0), (1, .inl 12), (2, .inr (false, [(-1, 60)])), (3, .inr (false, [(52, 52)])), (4, .inr (false, [(53, 53)]))], [], kch42),
  (29, [(0, .inl 0), (1, .inl 12), (2, .inr (false, [(1, 60)])), (3, .inr (false, [(52, 52)])), (4, .inr (false, [(54, 54)])), (5, .inr (false, [(-9, -9)]))], [], kch42),
  (29, [(0, .inl 0), (1, .inl 12), (2, .inr (false, [(1, 60)])), (3, .inr (false, [(52, 52)])), (4, .inr (false, [(55, 55)])), (5, .inr (false, [(-9, -9)]))], [], kch42),
  (29, [(0, .inl 0), (1, .inl 12), (2, .inr (false, [(1, 60)])), (3, .inr (false, [(52, 52)])), (4, .inr (false, [(56, 56)])), (5, .inr (false, [(-9, -9)]))], [], kch42)] = true := by decide +kernel
def kch560 : aw_H := [(12, kcx556)]
/-- MiceRegisters.faultOfFigure -/
def kcc852 : ak_C := (18, [.inl 12, .inr (false, [(-1, 60)]), .inr (false, [(53, 53)]), .inr (false, [(0, 0)]), .inr (false, [(0, 7)])], kch23, [], [([], some (.inr (false, [(-9, -9)])), kch560), ([], some (.inr (false, [(-1, 63)])), [])])
def kch561 : aw_H := [(12, kcx558)]
/-- MiceRegisters.faultOfFigure -/
def kcc853 : ak_C := (18, [.inl 12, .inr (false, [(-1, 60)]), .inr (false, [(54, 54)]), .inr (false, [(1, 1)]), .inr (false, [(9, 9)])], kch560, [], [([], some (.inr (false, [(-9, -9)])), kch561), ([], some (.inr (false, [(-1, 63)])), [])])
/-- MiceRegisters.readMouse -/
def kcc854 : ak_C := (19, [.inl 0, .inl 12, .inr (false, [(-1, 60)]), .inr (false, [(52, 52)])], kch45, [24, 29, 30, 31], [([], some (.inr (false, [(-1, 63)])), kch37), ([], some (.inr (false, [(-9, -9)])), kch39)])
theorem kck854 : ai_chk [kcc28, kcc852, kcc853] kcc854 (fun pc => sm_ch sm_t19 pc, sm_Kn 2 6 none, fun x => sm_lk sm_ca2 x, some .int) [24, 29, 30, 31] 6 0 [] [] 2000 [] = true := by decide +kernel
/-- MiceRegisters.readLine -/
def kcc855 : ak_C := (17, [.inl 0, .inl 13, .inr (false, [(-1, 60)]), .inr (false, [(52, 52)])], kch46, [24, 25, 26], [([[], [], [], []], some (.inr (false, [(-1, 60)])), kch26), ([[], [], [(1, 60)], []], some (.inr (false, [(-9, -9)])), kch28)])
theorem kck855 : ai_chk [kcc37] kcc855 (fun pc => sm_ch sm_t17 pc, sm_Kn 2 6 none, fun x => sm_lk sm_ca2 x, some .int) [24, 25, 26] 6 4 [29] [] 2000 [(29, [(0, .inl 0), (1, .inl 13), (2, .inr (false, [(-1, 60)])), (3, .inr (false, [(52, 52)])), (4, .inr (false, [(53, 53)]))], [], kch47),
  (29, [(0, .inl 0), (1, .inl 13), (2, .inr (false, [(1, 60)])), (3, .inr (false, [(52, 52)])), (4, .inr (false, [(54, 54)])), (5, .inr (false, [(-9, -9)]))], [], kch47),
  (29, [(0, .inl 0), (1, .inl 13), (2, .inr (false, [(1, 60)])), (3, .inr (false, [(52, 52)])), (4, .inr (false, [(55, 55)])), (5, .inr (false, [(-9, -9)]))], [], kch47),
  (29, [(0, .inl 0), (1, .inl 13), (2, .inr (false, [(1, 60)])), (3, .inr (false, [(52, 52)])), (4, .inr (false, [(56, 56)])), (5, .inr (false, [(-9, -9)]))], [], kch47)] = true := by decide +kernel
def kch562 : aw_H := [(13, kcx556)]
/-- MiceRegisters.faultOfFigure -/
def kcc856 : ak_C := (18, [.inl 13, .inr (false, [(-1, 60)]), .inr (false, [(53, 53)]), .inr (false, [(0, 0)]), .inr (false, [(0, 7)])], kch22, [], [([], some (.inr (false, [(-9, -9)])), kch562), ([], some (.inr (false, [(-1, 63)])), [])])
def kch563 : aw_H := [(13, kcx558)]
/-- MiceRegisters.faultOfFigure -/
def kcc857 : ak_C := (18, [.inl 13, .inr (false, [(-1, 60)]), .inr (false, [(54, 54)]), .inr (false, [(1, 1)]), .inr (false, [(9, 9)])], kch562, [], [([], some (.inr (false, [(-9, -9)])), kch563), ([], some (.inr (false, [(-1, 63)])), [])])
/-- MiceRegisters.readMouse -/
def kcc858 : ak_C := (19, [.inl 0, .inl 13, .inr (false, [(-1, 60)]), .inr (false, [(52, 52)])], kch50, [24, 29, 30, 31], [([], some (.inr (false, [(-1, 63)])), kch37), ([], some (.inr (false, [(-9, -9)])), kch39)])
theorem kck858 : ai_chk [kcc28, kcc856, kcc857] kcc858 (fun pc => sm_ch sm_t19 pc, sm_Kn 2 6 none, fun x => sm_lk sm_ca2 x, some .int) [24, 29, 30, 31] 6 0 [] [] 2000 [] = true := by decide +kernel
/-- MiceRegisters.readLine -/
def kcc859 : ak_C := (17, [.inl 0, .inl 14, .inr (false, [(-1, 60)]), .inr (false, [(52, 52)])], kch51, [24, 25, 26], [([[], [], [], []], some (.inr (false, [(-1, 60)])), kch26), ([[], [], [(1, 60)], []], some (.inr (false, [(-9, -9)])), kch28)])
theorem kck859 : ai_chk [kcc42] kcc859 (fun pc => sm_ch sm_t17 pc, sm_Kn 2 6 none, fun x => sm_lk sm_ca2 x, some .int) [24, 25, 26] 6 4 [29] [] 2000 [(29, [(0, .inl 0), (1, .inl 14), (2, .inr (false, [(-1, 60)])), (3, .inr (false, [(52, 52)])), (4, .inr (false, [(53, 53)]))], [], kch52),
  (29, [(0, .inl 0), (1, .inl 14), (2, .inr (false, [(1, 60)])), (3, .inr (false, [(52, 52)])), (4, .inr (false, [(54, 54)])), (5, .inr (false, [(-9, -9)]))], [], kch52),
  (29, [(0, .inl 0), (1, .inl 14), (2, .inr (false, [(1, 60)])), (3, .inr (false, [(52, 52)])), (4, .inr (false, [(55, 55)])), (5, .inr (false, [(-9, -9)]))], [], kch52),
  (29, [(0, .inl 0), (1, .inl 14), (2, .inr (false, [(1, 60)])), (3, .inr (false, [(52, 52)])), (4, .inr (false, [(56, 56)])), (5, .inr (false, [(-9, -9)]))], [], kch52)] = true := by decide +kernel
def kch564 : aw_H := [(14, kcx556)]
/-- MiceRegisters.faultOfFigure -/
def kcc860 : ak_C := (18, [.inl 14, .inr (false, [(-1, 60)]), .inr (false, [(53, 53)]), .inr (false, [(0, 0)]), .inr (false, [(0, 7)])], kch21, [], [([], some (.inr (false, [(-9, -9)])), kch564), ([], some (.inr (false, [(-1, 63)])), [])])
def kch565 : aw_H := [(14, kcx558)]
/-- MiceRegisters.faultOfFigure -/
def kcc861 : ak_C := (18, [.inl 14, .inr (false, [(-1, 60)]), .inr (false, [(54, 54)]), .inr (false, [(1, 1)]), .inr (false, [(9, 9)])], kch564, [], [([], some (.inr (false, [(-9, -9)])), kch565), ([], some (.inr (false, [(-1, 63)])), [])])
/-- MiceRegisters.readMouse -/
def kcc862 : ak_C := (19, [.inl 0, .inl 14, .inr (false, [(-1, 60)]), .inr (false, [(52, 52)])], kch55, [24, 29, 30, 31], [([], some (.inr (false, [(-1, 63)])), kch37), ([], some (.inr (false, [(-9, -9)])), kch39)])
theorem kck862 : ai_chk [kcc28, kcc860, kcc861] kcc862 (fun pc => sm_ch sm_t19 pc, sm_Kn 2 6 none, fun x => sm_lk sm_ca2 x, some .int) [24, 29, 30, 31] 6 0 [] [] 2000 [] = true := by decide +kernel
/-- MiceRegisters.readLine -/
def kcc863 : ak_C := (17, [.inl 0, .inl 11, .inr (false, [(-1, 60)]), .inr (false, [(53, 53)])], kch29, [24, 25, 26], [([[], [], [], []], some (.inr (false, [(-1, 60)])), kch26), ([[], [], [(1, 60)], []], some (.inr (false, [(-9, -9)])), kch28)])
theorem kck863 : ai_chk [kcc26] kcc863 (fun pc => sm_ch sm_t17 pc, sm_Kn 2 6 none, fun x => sm_lk sm_ca2 x, some .int) [24, 25, 26] 6 4 [29] [] 2000 [(29, [(0, .inl 0), (1, .inl 11), (2, .inr (false, [(-1, 60)])), (3, .inr (false, [(53, 53)])), (4, .inr (false, [(54, 54)]))], [], kch31),
  (29, [(0, .inl 0), (1, .inl 11), (2, .inr (false, [(1, 60)])), (3, .inr (false, [(53, 53)])), (4, .inr (false, [(55, 55)])), (5, .inr (false, [(-9, -9)]))], [], kch31),
  (29, [(0, .inl 0), (1, .inl 11), (2, .inr (false, [(1, 60)])), (3, .inr (false, [(53, 53)])), (4, .inr (false, [(56, 56)])), (5, .inr (false, [(-9, -9)]))], [], kch31),
  (29, [(0, .inl 0), (1, .inl 11), (2, .inr (false, [(1, 60)])), (3, .inr (false, [(53, 53)])), (4, .inr (false, [(57, 57)])), (5, .inr (false, [(-9, -9)]))], [], kch31)] = true := by decide +kernel
def kcx566 : aw_A := .inr (.inl (1, 60, [], [(54, [(48, 55)])]))
def kch567 : aw_H := [(11, kcx566)]
/-- MiceRegisters.faultOfFigure -/
def kcc864 : ak_C := (18, [.inl 11, .inr (false, [(-1, 60)]), .inr (false, [(54, 54)]), .inr (false, [(0, 0)]), .inr (false, [(0, 7)])], kch24, [], [([], some (.inr (false, [(-9, -9)])), kch567), ([], some (.inr (false, [(-1, 63)])), [])])
def kcx568 : aw_A := .inr (.inl (1, 60, [], [(55, [(49, 57)]), (54, [(48, 55)])]))
def kch569 : aw_H := [(11, kcx568)]
/-- MiceRegisters.faultOfFigure -/
def kcc865 : ak_C := (18, [.inl 11, .inr (false, [(-1, 60)]), .inr (false, [(55, 55)]), .inr (false, [(1, 1)]), .inr (false, [(9, 9)])], kch567, [], [([], some (.inr (false, [(-9, -9)])), kch569), ([], some (.inr (false, [(-1, 63)])), [])])
/-- MiceRegisters.readMouse -/
def kcc866 : ak_C := (19, [.inl 0, .inl 11, .inr (false, [(-1, 60)]), .inr (false, [(53, 53)])], kch40, [24, 29, 30, 31], [([], some (.inr (false, [(-1, 63)])), kch37), ([], some (.inr (false, [(-9, -9)])), kch39)])
theorem kck866 : ai_chk [kcc28, kcc864, kcc865] kcc866 (fun pc => sm_ch sm_t19 pc, sm_Kn 2 6 none, fun x => sm_lk sm_ca2 x, some .int) [24, 29, 30, 31] 6 0 [] [] 2000 [] = true := by decide +kernel
/-- MiceRegisters.readLine -/
def kcc867 : ak_C := (17, [.inl 0, .inl 12, .inr (false, [(-1, 60)]), .inr (false, [(53, 53)])], kch41, [24, 25, 26], [([[], [], [], []], some (.inr (false, [(-1, 60)])), kch26), ([[], [], [(1, 60)], []], some (.inr (false, [(-9, -9)])), kch28)])
theorem kck867 : ai_chk [kcc32] kcc867 (fun pc => sm_ch sm_t17 pc, sm_Kn 2 6 none, fun x => sm_lk sm_ca2 x, some .int) [24, 25, 26] 6 4 [29] [] 2000 [(29, [(0, .inl 0), (1, .inl 12), (2, .inr (false, [(-1, 60)])), (3, .inr (false, [(53, 53)])), (4, .inr (false, [(54, 54)]))], [], kch42),
  (29, [(0, .inl 0), (1, .inl 12), (2, .inr (false, [(1, 60)])), (3, .inr (false, [(53, 53)])), (4, .inr (false, [(55, 55)])), (5, .inr (false, [(-9, -9)]))], [], kch42),
  (29, [(0, .inl 0), (1, .inl 12), (2, .inr (false, [(1, 60)])), (3, .inr (false, [(53, 53)])), (4, .inr (false, [(56, 56)])), (5, .inr (false, [(-9, -9)]))], [], kch42),
  (29, [(0, .inl 0), (1, .inl 12), (2, .inr (false, [(1, 60)])), (3, .inr (false, [(53, 53)])), (4, .inr (false, [(57, 57)])), (5, .inr (false, [(-9, -9)]))], [], kch42)] = true := by decide +kernel
def kch570 : aw_H := [(12, kcx566)]
/-- MiceRegisters.faultOfFigure -/
def kcc868 : ak_C := (18, [.inl 12, .inr (false, [(-1, 60)]), .inr (false, [(54, 54)]), .inr (false, [(0, 0)]), .inr (false, [(0, 7)])], kch23, [], [([], some (.inr (false, [(-9, -9)])), kch570), ([], some (.inr (false, [(-1, 63)])), [])])
def kch571 : aw_H := [(12, kcx568)]
/-- MiceRegisters.faultOfFigure -/
def kcc869 : ak_C := (18, [.inl 12, .inr (false, [(-1, 60)]), .inr (false, [(55, 55)]), .inr (false, [(1, 1)]), .inr (false, [(9, 9)])], kch570, [], [([], some (.inr (false, [(-9, -9)])), kch571), ([], some (.inr (false, [(-1, 63)])), [])])
/-- MiceRegisters.readMouse -/
def kcc870 : ak_C := (19, [.inl 0, .inl 12, .inr (false, [(-1, 60)]), .inr (false, [(53, 53)])], kch45, [24, 29, 30, 31], [([], some (.inr (false, [(-1, 63)])), kch37), ([], some (.inr (false, [(-9, -9)])), kch39)])
theorem kck870 : ai_chk [kcc28, kcc868, kcc869] kcc870 (fun pc => sm_ch sm_t19 pc, sm_Kn 2 6 none, fun x => sm_lk sm_ca2 x, some .int) [24, 29, 30, 31] 6 0 [] [] 2000 [] = true := by decide +kernel
/-- MiceRegisters.readLine -/
def kcc871 : ak_C := (17, [.inl 0, .inl 13, .inr (false, [(-1, 60)]), .inr (false, [(53, 53)])], kch46, [24, 25, 26], [([[], [], [], []], some (.inr (false, [(-1, 60)])), kch26), ([[], [], [(1, 60)], []], some (.inr (false, [(-9, -9)])), kch28)])
theorem kck871 : ai_chk [kcc37] kcc871 (fun pc => sm_ch sm_t17 pc, sm_Kn 2 6 none, fun x => sm_lk sm_ca2 x, some .int) [24, 25, 26] 6 4 [29] [] 2000 [(29, [(0, .inl 0), (1, .inl 13), (2, .inr (false, [(-1, 60)])), (3, .inr (false, [(53, 53)])), (4, .inr (false, [(54, 54)]))], [], kch47),
  (29, [(0, .inl 0), (1, .inl 13), (2, .inr (false, [(1, 60)])), (3, .inr (false, [(53, 53)])), (4, .inr (false, [(55, 55)])), (5, .inr (false, [(-9, -9)]))], [], kch47),
  (29, [(0, .inl 0), (1, .inl 13), (2, .inr (false, [(1, 60)])), (3, .inr (false, [(53, 53)])), (4, .inr (false, [(56, 56)])), (5, .inr (false, [(-9, -9)]))], [], kch47),
  (29, [(0, .inl 0), (1, .inl 13), (2, .inr (false, [(1, 60)])), (3, .inr (false, [(53, 53)])), (4, .inr (false, [(57, 57)])), (5, .inr (false, [(-9, -9)]))], [], kch47)] = true := by decide +kernel
def kch572 : aw_H := [(13, kcx566)]
/-- MiceRegisters.faultOfFigure -/
def kcc872 : ak_C := (18, [.inl 13, .inr (false, [(-1, 60)]), .inr (false, [(54, 54)]), .inr (false, [(0, 0)]), .inr (false, [(0, 7)])], kch22, [], [([], some (.inr (false, [(-9, -9)])), kch572), ([], some (.inr (false, [(-1, 63)])), [])])
def kch573 : aw_H := [(13, kcx568)]
/-- MiceRegisters.faultOfFigure -/
def kcc873 : ak_C := (18, [.inl 13, .inr (false, [(-1, 60)]), .inr (false, [(55, 55)]), .inr (false, [(1, 1)]), .inr (false, [(9, 9)])], kch572, [], [([], some (.inr (false, [(-9, -9)])), kch573), ([], some (.inr (false, [(-1, 63)])), [])])
/-- MiceRegisters.readMouse -/
def kcc874 : ak_C := (19, [.inl 0, .inl 13, .inr (false, [(-1, 60)]), .inr (false, [(53, 53)])], kch50, [24, 29, 30, 31], [([], some (.inr (false, [(-1, 63)])), kch37), ([], some (.inr (false, [(-9, -9)])), kch39)])
theorem kck874 : ai_chk [kcc28, kcc872, kcc873] kcc874 (fun pc => sm_ch sm_t19 pc, sm_Kn 2 6 none, fun x => sm_lk sm_ca2 x, some .int) [24, 29, 30, 31] 6 0 [] [] 2000 [] = true := by decide +kernel
/-- MiceRegisters.readLine -/
def kcc875 : ak_C := (17, [.inl 0, .inl 14, .inr (false, [(-1, 60)]), .inr (false, [(53, 53)])], kch51, [24, 25, 26], [([[], [], [], []], some (.inr (false, [(-1, 60)])), kch26), ([[], [], [(1, 60)], []], some (.inr (false, [(-9, -9)])), kch28)])
theorem kck875 : ai_chk [kcc42] kcc875 (fun pc => sm_ch sm_t17 pc, sm_Kn 2 6 none, fun x => sm_lk sm_ca2 x, some .int) [24, 25, 26] 6 4 [29] [] 2000 [(29, [(0, .inl 0), (1, .inl 14), (2, .inr (false, [(-1, 60)])), (3, .inr (false, [(53, 53)])), (4, .inr (false, [(54, 54)]))], [], kch52),
  (29, [(0, .inl 0), (1, .inl 14), (2, .inr (false, [(1, 60)])), (3, .inr (false, [(53, 53)])), (4, .inr (false, [(55, 55)])), (5, .inr (false, [(-9, -9)]))], [], kch52),
  (29, [(0, .inl 0), (1, .inl 14), (2, .inr (false, [(1, 60)])), (3, .inr (false, [(53, 53)])), (4, .inr (false, [(56, 56)])), (5, .inr (false, [(-9, -9)]))], [], kch52),
  (29, [(0, .inl 0), (1, .inl 14), (2, .inr (false, [(1, 60)])), (3, .inr (false, [(53, 53)])), (4, .inr (false, [(57, 57)])), (5, .inr (false, [(-9, -9)]))], [], kch52)] = true := by decide +kernel
def kch574 : aw_H := [(14, kcx566)]
/-- MiceRegisters.faultOfFigure -/
def kcc876 : ak_C := (18, [.inl 14, .inr (false, [(-1, 60)]), .inr (false, [(54, 54)]), .inr (false, [(0, 0)]), .inr (false, [(0, 7)])], kch21, [], [([], some (.inr (false, [(-9, -9)])), kch574), ([], some (.inr (false, [(-1, 63)])), [])])
def kch575 : aw_H := [(14, kcx568)]
/-- MiceRegisters.faultOfFigure -/
def kcc877 : ak_C := (18, [.inl 14, .inr (false, [(-1, 60)]), .inr (false, [(55, 55)]), .inr (false, [(1, 1)]), .inr (false, [(9, 9)])], kch574, [], [([], some (.inr (false, [(-9, -9)])), kch575), ([], some (.inr (false, [(-1, 63)])), [])])
/-- MiceRegisters.readMouse -/
def kcc878 : ak_C := (19, [.inl 0, .inl 14, .inr (false, [(-1, 60)]), .inr (false, [(53, 53)])], kch55, [24, 29, 30, 31], [([], some (.inr (false, [(-1, 63)])), kch37), ([], some (.inr (false, [(-9, -9)])), kch39)])
theorem kck878 : ai_chk [kcc28, kcc876, kcc877] kcc878 (fun pc => sm_ch sm_t19 pc, sm_Kn 2 6 none, fun x => sm_lk sm_ca2 x, some .int) [24, 29, 30, 31] 6 0 [] [] 2000 [] = true := by decide +kernel
/-- MiceRegisters.readLine -/
def kcc879 : ak_C := (17, [.inl 0, .inl 11, .inr (false, [(-1, 60)]), .inr (false, [(54, 54)])], kch29, [24, 25, 26], [([[], [], [], []], some (.inr (false, [(-1, 60)])), kch26), ([[], [], [(1, 60)], []], some (.inr (false, [(-9, -9)])), kch28)])
theorem kck879 : ai_chk [kcc26] kcc879 (fun pc => sm_ch sm_t17 pc, sm_Kn 2 6 none, fun x => sm_lk sm_ca2 x, some .int) [24, 25, 26] 6 4 [29] [] 2000 [(29, [(0, .inl 0), (1, .inl 11), (2, .inr (false, [(-1, 60)])), (3, .inr (false, [(54, 54)])), (4, .inr (false, [(55, 55)]))], [], kch31),
  (29, [(0, .inl 0), (1, .inl 11), (2, .inr (false, [(1, 60)])), (3, .inr (false, [(54, 54)])), (4, .inr (false, [(56, 56)])), (5, .inr (false, [(-9, -9)]))], [], kch31),
  (29, [(0, .inl 0), (1, .inl 11), (2, .inr (false, [(1, 60)])), (3, .inr (false, [(54, 54)])), (4, .inr (false, [(57, 57)])), (5, .inr (false, [(-9, -9)]))], [], kch31),
  (29, [(0, .inl 0), (1, .inl 11), (2, .inr (false, [(1, 60)])), (3, .inr (false, [(54, 54)])), (4, .inr (false, [(58, 58)])), (5, .inr (false, [(-9, -9)]))], [], kch31)] = true := by decide +kernel
def kcx576 : aw_A := .inr (.inl (1, 60, [], [(55, [(48, 55)])]))
def kch577 : aw_H := [(11, kcx576)]
/-- MiceRegisters.faultOfFigure -/
def kcc880 : ak_C := (18, [.inl 11, .inr (false, [(-1, 60)]), .inr (false, [(55, 55)]), .inr (false, [(0, 0)]), .inr (false, [(0, 7)])], kch24, [], [([], some (.inr (false, [(-9, -9)])), kch577), ([], some (.inr (false, [(-1, 63)])), [])])
def kcx578 : aw_A := .inr (.inl (1, 60, [], [(56, [(49, 57)]), (55, [(48, 55)])]))
def kch579 : aw_H := [(11, kcx578)]
/-- MiceRegisters.faultOfFigure -/
def kcc881 : ak_C := (18, [.inl 11, .inr (false, [(-1, 60)]), .inr (false, [(56, 56)]), .inr (false, [(1, 1)]), .inr (false, [(9, 9)])], kch577, [], [([], some (.inr (false, [(-9, -9)])), kch579), ([], some (.inr (false, [(-1, 63)])), [])])
/-- MiceRegisters.readMouse -/
def kcc882 : ak_C := (19, [.inl 0, .inl 11, .inr (false, [(-1, 60)]), .inr (false, [(54, 54)])], kch40, [24, 29, 30, 31], [([], some (.inr (false, [(-1, 63)])), kch37), ([], some (.inr (false, [(-9, -9)])), kch39)])
theorem kck882 : ai_chk [kcc28, kcc880, kcc881] kcc882 (fun pc => sm_ch sm_t19 pc, sm_Kn 2 6 none, fun x => sm_lk sm_ca2 x, some .int) [24, 29, 30, 31] 6 0 [] [] 2000 [] = true := by decide +kernel
/-- MiceRegisters.readLine -/
def kcc883 : ak_C := (17, [.inl 0, .inl 12, .inr (false, [(-1, 60)]), .inr (false, [(54, 54)])], kch41, [24, 25, 26], [([[], [], [], []], some (.inr (false, [(-1, 60)])), kch26), ([[], [], [(1, 60)], []], some (.inr (false, [(-9, -9)])), kch28)])
theorem kck883 : ai_chk [kcc32] kcc883 (fun pc => sm_ch sm_t17 pc, sm_Kn 2 6 none, fun x => sm_lk sm_ca2 x, some .int) [24, 25, 26] 6 4 [29] [] 2000 [(29, [(0, .inl 0), (1, .inl 12), (2, .inr (false, [(-1, 60)])), (3, .inr (false, [(54, 54)])), (4, .inr (false, [(55, 55)]))], [], kch42),
  (29, [(0, .inl 0), (1, .inl 12), (2, .inr (false, [(1, 60)])), (3, .inr (false, [(54, 54)])), (4, .inr (false, [(56, 56)])), (5, .inr (false, [(-9, -9)]))], [], kch42),
  (29, [(0, .inl 0), (1, .inl 12), (2, .inr (false, [(1, 60)])), (3, .inr (false, [(54, 54)])), (4, .inr (false, [(57, 57)])), (5, .inr (false, [(-9, -9)]))], [], kch42),
  (29, [(0, .inl 0), (1, .inl 12), (2, .inr (false, [(1, 60)])), (3, .inr (false, [(54, 54)])), (4, .inr (false, [(58, 58)])), (5, .inr (false, [(-9, -9)]))], [], kch42)] = true := by decide +kernel
def kch580 : aw_H := [(12, kcx576)]
/-- MiceRegisters.faultOfFigure -/
def kcc884 : ak_C := (18, [.inl 12, .inr (false, [(-1, 60)]), .inr (false, [(55, 55)]), .inr (false, [(0, 0)]), .inr (false, [(0, 7)])], kch23, [], [([], some (.inr (false, [(-9, -9)])), kch580), ([], some (.inr (false, [(-1, 63)])), [])])
def kch581 : aw_H := [(12, kcx578)]
/-- MiceRegisters.faultOfFigure -/
def kcc885 : ak_C := (18, [.inl 12, .inr (false, [(-1, 60)]), .inr (false, [(56, 56)]), .inr (false, [(1, 1)]), .inr (false, [(9, 9)])], kch580, [], [([], some (.inr (false, [(-9, -9)])), kch581), ([], some (.inr (false, [(-1, 63)])), [])])
/-- MiceRegisters.readMouse -/
def kcc886 : ak_C := (19, [.inl 0, .inl 12, .inr (false, [(-1, 60)]), .inr (false, [(54, 54)])], kch45, [24, 29, 30, 31], [([], some (.inr (false, [(-1, 63)])), kch37), ([], some (.inr (false, [(-9, -9)])), kch39)])
theorem kck886 : ai_chk [kcc28, kcc884, kcc885] kcc886 (fun pc => sm_ch sm_t19 pc, sm_Kn 2 6 none, fun x => sm_lk sm_ca2 x, some .int) [24, 29, 30, 31] 6 0 [] [] 2000 [] = true := by decide +kernel
/-- MiceRegisters.readLine -/
def kcc887 : ak_C := (17, [.inl 0, .inl 13, .inr (false, [(-1, 60)]), .inr (false, [(54, 54)])], kch46, [24, 25, 26], [([[], [], [], []], some (.inr (false, [(-1, 60)])), kch26), ([[], [], [(1, 60)], []], some (.inr (false, [(-9, -9)])), kch28)])
theorem kck887 : ai_chk [kcc37] kcc887 (fun pc => sm_ch sm_t17 pc, sm_Kn 2 6 none, fun x => sm_lk sm_ca2 x, some .int) [24, 25, 26] 6 4 [29] [] 2000 [(29, [(0, .inl 0), (1, .inl 13), (2, .inr (false, [(-1, 60)])), (3, .inr (false, [(54, 54)])), (4, .inr (false, [(55, 55)]))], [], kch47),
  (29, [(0, .inl 0), (1, .inl 13), (2, .inr (false, [(1, 60)])), (3, .inr (false, [(54, 54)])), (4, .inr (false, [(56, 56)])), (5, .inr (false, [(-9, -9)]))], [], kch47),
  (29, [(0, .inl 0), (1, .inl 13), (2, .inr (false, [(1, 60)])), (3, .inr (false, [(54, 54)])), (4, .inr (false, [(57, 57)])), (5, .inr (false, [(-9, -9)]))], [], kch47),
  (29, [(0, .inl 0), (1, .inl 13), (2, .inr (false, [(1, 60)])), (3, .inr (false, [(54, 54)])), (4, .inr (false, [(58, 58)])), (5, .inr (false, [(-9, -9)]))], [], kch47)] = true := by decide +kernel
def kch582 : aw_H := [(13, kcx576)]
/-- MiceRegisters.faultOfFigure -/
def kcc888 : ak_C := (18, [.inl 13, .inr (false, [(-1, 60)]), .inr (false, [(55, 55)]), .inr (false, [(0, 0)]), .inr (false, [(0, 7)])], kch22, [], [([], some (.inr (false, [(-9, -9)])), kch582), ([], some (.inr (false, [(-1, 63)])), [])])
def kch583 : aw_H := [(13, kcx578)]
/-- MiceRegisters.faultOfFigure -/
def kcc889 : ak_C := (18, [.inl 13, .inr (false, [(-1, 60)]), .inr (false, [(56, 56)]), .inr (false, [(1, 1)]), .inr (false, [(9, 9)])], kch582, [], [([], some (.inr (false, [(-9, -9)])), kch583), ([], some (.inr (false, [(-1, 63)])), [])])
/-- MiceRegisters.readMouse -/
def kcc890 : ak_C := (19, [.inl 0, .inl 13, .inr (false, [(-1, 60)]), .inr (false, [(54, 54)])], kch50, [24, 29, 30, 31], [([], some (.inr (false, [(-1, 63)])), kch37), ([], some (.inr (false, [(-9, -9)])), kch39)])
theorem kck890 : ai_chk [kcc28, kcc888, kcc889] kcc890 (fun pc => sm_ch sm_t19 pc, sm_Kn 2 6 none, fun x => sm_lk sm_ca2 x, some .int) [24, 29, 30, 31] 6 0 [] [] 2000 [] = true := by decide +kernel
/-- MiceRegisters.readLine -/
def kcc891 : ak_C := (17, [.inl 0, .inl 14, .inr (false, [(-1, 60)]), .inr (false, [(54, 54)])], kch51, [24, 25, 26], [([[], [], [], []], some (.inr (false, [(-1, 60)])), kch26), ([[], [], [(1, 60)], []], some (.inr (false, [(-9, -9)])), kch28)])
theorem kck891 : ai_chk [kcc42] kcc891 (fun pc => sm_ch sm_t17 pc, sm_Kn 2 6 none, fun x => sm_lk sm_ca2 x, some .int) [24, 25, 26] 6 4 [29] [] 2000 [(29, [(0, .inl 0), (1, .inl 14), (2, .inr (false, [(-1, 60)])), (3, .inr (false, [(54, 54)])), (4, .inr (false, [(55, 55)]))], [], kch52),
  (29, [(0, .inl 0), (1, .inl 14), (2, .inr (false, [(1, 60)])), (3, .inr (false, [(54, 54)])), (4, .inr (false, [(56, 56)])), (5, .inr (false, [(-9, -9)]))], [], kch52),
  (29, [(0, .inl 0), (1, .inl 14), (2, .inr (false, [(1, 60)])), (3, .inr (false, [(54, 54)])), (4, .inr (false, [(57, 57)])), (5, .inr (false, [(-9, -9)]))], [], kch52),
  (29, [(0, .inl 0), (1, .inl 14), (2, .inr (false, [(1, 60)])), (3, .inr (false, [(54, 54)])), (4, .inr (false, [(58, 58)])), (5, .inr (false, [(-9, -9)]))], [], kch52)] = true := by decide +kernel
def kch584 : aw_H := [(14, kcx576)]
/-- MiceRegisters.faultOfFigure -/
def kcc892 : ak_C := (18, [.inl 14, .inr (false, [(-1, 60)]), .inr (false, [(55, 55)]), .inr (false, [(0, 0)]), .inr (false, [(0, 7)])], kch21, [], [([], some (.inr (false, [(-9, -9)])), kch584), ([], some (.inr (false, [(-1, 63)])), [])])
def kch585 : aw_H := [(14, kcx578)]
/-- MiceRegisters.faultOfFigure -/
def kcc893 : ak_C := (18, [.inl 14, .inr (false, [(-1, 60)]), .inr (false, [(56, 56)]), .inr (false, [(1, 1)]), .inr (false, [(9, 9)])], kch584, [], [([], some (.inr (false, [(-9, -9)])), kch585), ([], some (.inr (false, [(-1, 63)])), [])])
/-- MiceRegisters.readMouse -/
def kcc894 : ak_C := (19, [.inl 0, .inl 14, .inr (false, [(-1, 60)]), .inr (false, [(54, 54)])], kch55, [24, 29, 30, 31], [([], some (.inr (false, [(-1, 63)])), kch37), ([], some (.inr (false, [(-9, -9)])), kch39)])
theorem kck894 : ai_chk [kcc28, kcc892, kcc893] kcc894 (fun pc => sm_ch sm_t19 pc, sm_Kn 2 6 none, fun x => sm_lk sm_ca2 x, some .int) [24, 29, 30, 31] 6 0 [] [] 2000 [] = true := by decide +kernel
/-- MiceRegisters.readLine -/
def kcc895 : ak_C := (17, [.inl 0, .inl 11, .inr (false, [(-1, 60)]), .inr (false, [(55, 55)])], kch29, [24, 25, 26], [([[], [], [], []], some (.inr (false, [(-1, 60)])), kch26), ([[], [], [(1, 60)], []], some (.inr (false, [(-9, -9)])), kch28)])
theorem kck895 : ai_chk [kcc26] kcc895 (fun pc => sm_ch sm_t17 pc, sm_Kn 2 6 none, fun x => sm_lk sm_ca2 x, some .int) [24, 25, 26] 6 4 [29] [] 2000 [(29, [(0, .inl 0), (1, .inl 11), (2, .inr (false, [(-1, 60)])), (3, .inr (false, [(55, 55)])), (4, .inr (false, [(56, 56)]))], [], kch31),
  (29, [(0, .inl 0), (1, .inl 11), (2, .inr (false, [(1, 60)])), (3, .inr (false, [(55, 55)])), (4, .inr (false, [(57, 57)])), (5, .inr (false, [(-9, -9)]))], [], kch31),
  (29, [(0, .inl 0), (1, .inl 11), (2, .inr (false, [(1, 60)])), (3, .inr (false, [(55, 55)])), (4, .inr (false, [(58, 58)])), (5, .inr (false, [(-9, -9)]))], [], kch31),
  (29, [(0, .inl 0), (1, .inl 11), (2, .inr (false, [(1, 60)])), (3, .inr (false, [(55, 55)])), (4, .inr (false, [(59, 59)])), (5, .inr (false, [(-9, -9)]))], [], kch31)] = true := by decide +kernel
def kcx586 : aw_A := .inr (.inl (1, 60, [], [(56, [(48, 55)])]))
def kch587 : aw_H := [(11, kcx586)]
/-- MiceRegisters.faultOfFigure -/
def kcc896 : ak_C := (18, [.inl 11, .inr (false, [(-1, 60)]), .inr (false, [(56, 56)]), .inr (false, [(0, 0)]), .inr (false, [(0, 7)])], kch24, [], [([], some (.inr (false, [(-9, -9)])), kch587), ([], some (.inr (false, [(-1, 63)])), [])])
def kcx588 : aw_A := .inr (.inl (1, 60, [], [(57, [(49, 57)]), (56, [(48, 55)])]))
def kch589 : aw_H := [(11, kcx588)]
/-- MiceRegisters.faultOfFigure -/
def kcc897 : ak_C := (18, [.inl 11, .inr (false, [(-1, 60)]), .inr (false, [(57, 57)]), .inr (false, [(1, 1)]), .inr (false, [(9, 9)])], kch587, [], [([], some (.inr (false, [(-9, -9)])), kch589), ([], some (.inr (false, [(-1, 63)])), [])])
/-- MiceRegisters.readMouse -/
def kcc898 : ak_C := (19, [.inl 0, .inl 11, .inr (false, [(-1, 60)]), .inr (false, [(55, 55)])], kch40, [24, 29, 30, 31], [([], some (.inr (false, [(-1, 63)])), kch37), ([], some (.inr (false, [(-9, -9)])), kch39)])
theorem kck898 : ai_chk [kcc28, kcc896, kcc897] kcc898 (fun pc => sm_ch sm_t19 pc, sm_Kn 2 6 none, fun x => sm_lk sm_ca2 x, some .int) [24, 29, 30, 31] 6 0 [] [] 2000 [] = true := by decide +kernel
/-- MiceRegisters.readLine -/
def kcc899 : ak_C := (17, [.inl 0, .inl 12, .inr (false, [(-1, 60)]), .inr (false, [(55, 55)])], kch41, [24, 25, 26], [([[], [], [], []], some (.inr (false, [(-1, 60)])), kch26), ([[], [], [(1, 60)], []], some (.inr (false, [(-9, -9)])), kch28)])
theorem kck899 : ai_chk [kcc32] kcc899 (fun pc => sm_ch sm_t17 pc, sm_Kn 2 6 none, fun x => sm_lk sm_ca2 x, some .int) [24, 25, 26] 6 4 [29] [] 2000 [(29, [(0, .inl 0), (1, .inl 12), (2, .inr (false, [(-1, 60)])), (3, .inr (false, [(55, 55)])), (4, .inr (false, [(56, 56)]))], [], kch42),
  (29, [(0, .inl 0), (1, .inl 12), (2, .inr (false, [(1, 60)])), (3, .inr (false, [(55, 55)])), (4, .inr (false, [(57, 57)])), (5, .inr (false, [(-9, -9)]))], [], kch42),
  (29, [(0, .inl 0), (1, .inl 12), (2, .inr (false, [(1, 60)])), (3, .inr (false, [(55, 55)])), (4, .inr (false, [(58, 58)])), (5, .inr (false, [(-9, -9)]))], [], kch42),
  (29, [(0, .inl 0), (1, .inl 12), (2, .inr (false, [(1, 60)])), (3, .inr (false, [(55, 55)])), (4, .inr (false, [(59, 59)])), (5, .inr (false, [(-9, -9)]))], [], kch42)] = true := by decide +kernel
def kch590 : aw_H := [(12, kcx586)]
/-- MiceRegisters.faultOfFigure -/
def kcc900 : ak_C := (18, [.inl 12, .inr (false, [(-1, 60)]), .inr (false, [(56, 56)]), .inr (false, [(0, 0)]), .inr (false, [(0, 7)])], kch23, [], [([], some (.inr (false, [(-9, -9)])), kch590), ([], some (.inr (false, [(-1, 63)])), [])])
def kch591 : aw_H := [(12, kcx588)]
/-- MiceRegisters.faultOfFigure -/
def kcc901 : ak_C := (18, [.inl 12, .inr (false, [(-1, 60)]), .inr (false, [(57, 57)]), .inr (false, [(1, 1)]), .inr (false, [(9, 9)])], kch590, [], [([], some (.inr (false, [(-9, -9)])), kch591), ([], some (.inr (false, [(-1, 63)])), [])])
/-- MiceRegisters.readMouse -/
def kcc902 : ak_C := (19, [.inl 0, .inl 12, .inr (false, [(-1, 60)]), .inr (false, [(55, 55)])], kch45, [24, 29, 30, 31], [([], some (.inr (false, [(-1, 63)])), kch37), ([], some (.inr (false, [(-9, -9)])), kch39)])
theorem kck902 : ai_chk [kcc28, kcc900, kcc901] kcc902 (fun pc => sm_ch sm_t19 pc, sm_Kn 2 6 none, fun x => sm_lk sm_ca2 x, some .int) [24, 29, 30, 31] 6 0 [] [] 2000 [] = true := by decide +kernel
/-- MiceRegisters.readLine -/
def kcc903 : ak_C := (17, [.inl 0, .inl 13, .inr (false, [(-1, 60)]), .inr (false, [(55, 55)])], kch46, [24, 25, 26], [([[], [], [], []], some (.inr (false, [(-1, 60)])), kch26), ([[], [], [(1, 60)], []], some (.inr (false, [(-9, -9)])), kch28)])
theorem kck903 : ai_chk [kcc37] kcc903 (fun pc => sm_ch sm_t17 pc, sm_Kn 2 6 none, fun x => sm_lk sm_ca2 x, some .int) [24, 25, 26] 6 4 [29] [] 2000 [(29, [(0, .inl 0), (1, .inl 13), (2, .inr (false, [(-1, 60)])), (3, .inr (false, [(55, 55)])), (4, .inr (false, [(56, 56)]))], [], kch47),
  (29, [(0, .inl 0), (1, .inl 13), (2, .inr (false, [(1, 60)])), (3, .inr (false, [(55, 55)])), (4, .inr (false, [(57, 57)])), (5, .inr (false, [(-9, -9)]))], [], kch47),
  (29, [(0, .inl 0), (1, .inl 13), (2, .inr (false, [(1, 60)])), (3, .inr (false, [(55, 55)])), (4, .inr (false, [(58, 58)])), (5, .inr (false, [(-9, -9)]))], [], kch47),
  (29, [(0, .inl 0), (1, .inl 13), (2, .inr (false, [(1, 60)])), (3, .inr (false, [(55, 55)])), (4, .inr (false, [(59, 59)])), (5, .inr (false, [(-9, -9)]))], [], kch47)] = true := by decide +kernel
def kch592 : aw_H := [(13, kcx586)]
/-- MiceRegisters.faultOfFigure -/
def kcc904 : ak_C := (18, [.inl 13, .inr (false, [(-1, 60)]), .inr (false, [(56, 56)]), .inr (false, [(0, 0)]), .inr (false, [(0, 7)])], kch22, [], [([], some (.inr (false, [(-9, -9)])), kch592), ([], some (.inr (false, [(-1, 63)])), [])])
def kch593 : aw_H := [(13, kcx588)]
/-- MiceRegisters.faultOfFigure -/
def kcc905 : ak_C := (18, [.inl 13, .inr (false, [(-1, 60)]), .inr (false, [(57, 57)]), .inr (false, [(1, 1)]), .inr (false, [(9, 9)])], kch592, [], [([], some (.inr (false, [(-9, -9)])), kch593), ([], some (.inr (false, [(-1, 63)])), [])])
/-- MiceRegisters.readMouse -/
def kcc906 : ak_C := (19, [.inl 0, .inl 13, .inr (false, [(-1, 60)]), .inr (false, [(55, 55)])], kch50, [24, 29, 30, 31], [([], some (.inr (false, [(-1, 63)])), kch37), ([], some (.inr (false, [(-9, -9)])), kch39)])
theorem kck906 : ai_chk [kcc28, kcc904, kcc905] kcc906 (fun pc => sm_ch sm_t19 pc, sm_Kn 2 6 none, fun x => sm_lk sm_ca2 x, some .int) [24, 29, 30, 31] 6 0 [] [] 2000 [] = true := by decide +kernel
/-- MiceRegisters.readLine -/
def kcc907 : ak_C := (17, [.inl 0, .inl 14, .inr (false, [(-1, 60)]), .inr (false, [(55, 55)])], kch51, [24, 25, 26], [([[], [], [], []], some (.inr (false, [(-1, 60)])), kch26), ([[], [], [(1, 60)], []], some (.inr (false, [(-9, -9)])), kch28)])
theorem kck907 : ai_chk [kcc42] kcc907 (fun pc => sm_ch sm_t17 pc, sm_Kn 2 6 none, fun x => sm_lk sm_ca2 x, some .int) [24, 25, 26] 6 4 [29] [] 2000 [(29, [(0, .inl 0), (1, .inl 14), (2, .inr (false, [(-1, 60)])), (3, .inr (false, [(55, 55)])), (4, .inr (false, [(56, 56)]))], [], kch52),
  (29, [(0, .inl 0), (1, .inl 14), (2, .inr (false, [(1, 60)])), (3, .inr (false, [(55, 55)])), (4, .inr (false, [(57, 57)])), (5, .inr (false, [(-9, -9)]))], [], kch52),
  (29, [(0, .inl 0), (1, .inl 14), (2, .inr (false, [(1, 60)])), (3, .inr (false, [(55, 55)])), (4, .inr (false, [(58, 58)])), (5, .inr (false, [(-9, -9)]))], [], kch52),
  (29, [(0, .inl 0), (1, .inl 14), (2, .inr (false, [(1, 60)])), (3, .inr (false, [(55, 55)])), (4, .inr (false, [(59, 59)])), (5, .inr (false, [(-9, -9)]))], [], kch52)] = true := by decide +kernel
def kch594 : aw_H := [(14, kcx586)]
/-- MiceRegisters.faultOfFigure -/
def kcc908 : ak_C := (18, [.inl 14, .inr (false, [(-1, 60)]), .inr (false, [(56, 56)]), .inr (false, [(0, 0)]), .inr (false, [(0, 7)])], kch21, [], [([], some (.inr (false, [(-9, -9)])), kch594), ([], some (.inr (false, [(-1, 63)])), [])])
def kch595 : aw_H := [(14, kcx588)]
/-- MiceRegisters.faultOfFigure -/
def kcc909 : ak_C := (18, [.inl 14, .inr (false, [(-1, 60)]), .inr (false, [(57, 57)]), .inr (false, [(1, 1)]), .inr (false, [(9, 9)])], kch594, [], [([], some (.inr (false, [(-9, -9)])), kch595), ([], some (.inr (false, [(-1, 63)])), [])])
/-- MiceRegisters.readMouse -/
def kcc910 : ak_C := (19, [.inl 0, .inl 14, .inr (false, [(-1, 60)]), .inr (false, [(55, 55)])], kch55, [24, 29, 30, 31], [([], some (.inr (false, [(-1, 63)])), kch37), ([], some (.inr (false, [(-9, -9)])), kch39)])
theorem kck910 : ai_chk [kcc28, kcc908, kcc909] kcc910 (fun pc => sm_ch sm_t19 pc, sm_Kn 2 6 none, fun x => sm_lk sm_ca2 x, some .int) [24, 29, 30, 31] 6 0 [] [] 2000 [] = true := by decide +kernel
/-- MiceRegisters.readLine -/
def kcc911 : ak_C := (17, [.inl 0, .inl 11, .inr (false, [(-1, 60)]), .inr (false, [(56, 56)])], kch29, [24, 25, 26], [([[], [], [], []], some (.inr (false, [(-1, 60)])), kch26), ([[], [], [(1, 60)], []], some (.inr (false, [(-9, -9)])), kch28)])
theorem kck911 : ai_chk [kcc26] kcc911 (fun pc => sm_ch sm_t17 pc, sm_Kn 2 6 none, fun x => sm_lk sm_ca2 x, some .int) [24, 25, 26] 6 4 [29] [] 2000 [(29, [(0, .inl 0), (1, .inl 11), (2, .inr (false, [(-1, 60)])), (3, .inr (false, [(56, 56)])), (4, .inr (false, [(57, 57)]))], [], kch31),
  (29, [(0, .inl 0), (1, .inl 11), (2, .inr (false, [(1, 60)])), (3, .inr (false, [(56, 56)])), (4, .inr (false, [(58, 58)])), (5, .inr (false, [(-9, -9)]))], [], kch31),
  (29, [(0, .inl 0), (1, .inl 11), (2, .inr (false, [(1, 60)])), (3, .inr (false, [(56, 56)])), (4, .inr (false, [(59, 59)])), (5, .inr (false, [(-9, -9)]))], [], kch31),
  (29, [(0, .inl 0), (1, .inl 11), (2, .inr (false, [(1, 60)])), (3, .inr (false, [(56, 56)])), (4, .inr (false, [(60, 60)])), (5, .inr (false, [(-9, -9)]))], [], kch31)] = true := by decide +kernel
def kcx596 : aw_A := .inr (.inl (1, 60, [], [(57, [(48, 55)])]))
def kch597 : aw_H := [(11, kcx596)]
/-- MiceRegisters.faultOfFigure -/
def kcc912 : ak_C := (18, [.inl 11, .inr (false, [(-1, 60)]), .inr (false, [(57, 57)]), .inr (false, [(0, 0)]), .inr (false, [(0, 7)])], kch24, [], [([], some (.inr (false, [(-9, -9)])), kch597), ([], some (.inr (false, [(-1, 63)])), [])])
def kcx598 : aw_A := .inr (.inl (1, 60, [], [(58, [(49, 57)]), (57, [(48, 55)])]))
def kch599 : aw_H := [(11, kcx598)]
/-- MiceRegisters.faultOfFigure -/
def kcc913 : ak_C := (18, [.inl 11, .inr (false, [(-1, 60)]), .inr (false, [(58, 58)]), .inr (false, [(1, 1)]), .inr (false, [(9, 9)])], kch597, [], [([], some (.inr (false, [(-9, -9)])), kch599), ([], some (.inr (false, [(-1, 63)])), [])])
/-- MiceRegisters.readMouse -/
def kcc914 : ak_C := (19, [.inl 0, .inl 11, .inr (false, [(-1, 60)]), .inr (false, [(56, 56)])], kch40, [24, 29, 30, 31], [([], some (.inr (false, [(-1, 63)])), kch37), ([], some (.inr (false, [(-9, -9)])), kch39)])
theorem kck914 : ai_chk [kcc28, kcc912, kcc913] kcc914 (fun pc => sm_ch sm_t19 pc, sm_Kn 2 6 none, fun x => sm_lk sm_ca2 x, some .int) [24, 29, 30, 31] 6 0 [] [] 2000 [] = true := by decide +kernel
/-- MiceRegisters.readLine -/
def kcc915 : ak_C := (17, [.inl 0, .inl 12, .inr (false, [(-1, 60)]), .inr (false, [(56, 56)])], kch41, [24, 25, 26], [([[], [], [], []], some (.inr (false, [(-1, 60)])), kch26), ([[], [], [(1, 60)], []], some (.inr (false, [(-9, -9)])), kch28)])
theorem kck915 : ai_chk [kcc32] kcc915 (fun pc => sm_ch sm_t17 pc, sm_Kn 2 6 none, fun x => sm_lk sm_ca2 x, some .int) [24, 25, 26] 6 4 [29] [] 2000 [(29, [(0, .inl 0), (1, .inl 12), (2, .inr (false, [(-1, 60)])), (3, .inr (false, [(56, 56)])), (4, .inr (false, [(57, 57)]))], [], kch42),
  (29, [(0, .inl 0), (1, .inl 12), (2, .inr (false, [(1, 60)])), (3, .inr (false, [(56, 56)])), (4, .inr (false, [(58, 58)])), (5, .inr (false, [(-9, -9)]))], [], kch42),
  (29, [(0, .inl 0), (1, .inl 12), (2, .inr (false, [(1, 60)])), (3, .inr (false, [(56, 56)])), (4, .inr (false, [(59, 59)])), (5, .inr (false, [(-9, -9)]))], [], kch42),
  (29, [(0, .inl 0), (1, .inl 12), (2, .inr (false, [(1, 60)])), (3, .inr (false, [(56, 56)])), (4, .inr (false, [(60, 60)])), (5, .inr (false, [(-9, -9)]))], [], kch42)] = true := by decide +kernel
def kch600 : aw_H := [(12, kcx596)]
/-- MiceRegisters.faultOfFigure -/
def kcc916 : ak_C := (18, [.inl 12, .inr (false, [(-1, 60)]), .inr (false, [(57, 57)]), .inr (false, [(0, 0)]), .inr (false, [(0, 7)])], kch23, [], [([], some (.inr (false, [(-9, -9)])), kch600), ([], some (.inr (false, [(-1, 63)])), [])])
def kch601 : aw_H := [(12, kcx598)]
/-- MiceRegisters.faultOfFigure -/
def kcc917 : ak_C := (18, [.inl 12, .inr (false, [(-1, 60)]), .inr (false, [(58, 58)]), .inr (false, [(1, 1)]), .inr (false, [(9, 9)])], kch600, [], [([], some (.inr (false, [(-9, -9)])), kch601), ([], some (.inr (false, [(-1, 63)])), [])])
/-- MiceRegisters.readMouse -/
def kcc918 : ak_C := (19, [.inl 0, .inl 12, .inr (false, [(-1, 60)]), .inr (false, [(56, 56)])], kch45, [24, 29, 30, 31], [([], some (.inr (false, [(-1, 63)])), kch37), ([], some (.inr (false, [(-9, -9)])), kch39)])
theorem kck918 : ai_chk [kcc28, kcc916, kcc917] kcc918 (fun pc => sm_ch sm_t19 pc, sm_Kn 2 6 none, fun x => sm_lk sm_ca2 x, some .int) [24, 29, 30, 31] 6 0 [] [] 2000 [] = true := by decide +kernel
/-- MiceRegisters.readLine -/
def kcc919 : ak_C := (17, [.inl 0, .inl 13, .inr (false, [(-1, 60)]), .inr (false, [(56, 56)])], kch46, [24, 25, 26], [([[], [], [], []], some (.inr (false, [(-1, 60)])), kch26), ([[], [], [(1, 60)], []], some (.inr (false, [(-9, -9)])), kch28)])
theorem kck919 : ai_chk [kcc37] kcc919 (fun pc => sm_ch sm_t17 pc, sm_Kn 2 6 none, fun x => sm_lk sm_ca2 x, some .int) [24, 25, 26] 6 4 [29] [] 2000 [(29, [(0, .inl 0), (1, .inl 13), (2, .inr (false, [(-1, 60)])), (3, .inr (false, [(56, 56)])), (4, .inr (false, [(57, 57)]))], [], kch47),
  (29, [(0, .inl 0), (1, .inl 13), (2, .inr (false, [(1, 60)])), (3, .inr (false, [(56, 56)])), (4, .inr (false, [(58, 58)])), (5, .inr (false, [(-9, -9)]))], [], kch47),
  (29, [(0, .inl 0), (1, .inl 13), (2, .inr (false, [(1, 60)])), (3, .inr (false, [(56, 56)])), (4, .inr (false, [(59, 59)])), (5, .inr (false, [(-9, -9)]))], [], kch47),
  (29, [(0, .inl 0), (1, .inl 13), (2, .inr (false, [(1, 60)])), (3, .inr (false, [(56, 56)])), (4, .inr (false, [(60, 60)])), (5, .inr (false, [(-9, -9)]))], [], kch47)] = true := by decide +kernel
def kch602 : aw_H := [(13, kcx596)]
/-- MiceRegisters.faultOfFigure -/
def kcc920 : ak_C := (18, [.inl 13, .inr (false, [(-1, 60)]), .inr (false, [(57, 57)]), .inr (false, [(0, 0)]), .inr (false, [(0, 7)])], kch22, [], [([], some (.inr (false, [(-9, -9)])), kch602), ([], some (.inr (false, [(-1, 63)])), [])])
def kch603 : aw_H := [(13, kcx598)]
/-- MiceRegisters.faultOfFigure -/
def kcc921 : ak_C := (18, [.inl 13, .inr (false, [(-1, 60)]), .inr (false, [(58, 58)]), .inr (false, [(1, 1)]), .inr (false, [(9, 9)])], kch602, [], [([], some (.inr (false, [(-9, -9)])), kch603), ([], some (.inr (false, [(-1, 63)])), [])])
/-- MiceRegisters.readMouse -/
def kcc922 : ak_C := (19, [.inl 0, .inl 13, .inr (false, [(-1, 60)]), .inr (false, [(56, 56)])], kch50, [24, 29, 30, 31], [([], some (.inr (false, [(-1, 63)])), kch37), ([], some (.inr (false, [(-9, -9)])), kch39)])
theorem kck922 : ai_chk [kcc28, kcc920, kcc921] kcc922 (fun pc => sm_ch sm_t19 pc, sm_Kn 2 6 none, fun x => sm_lk sm_ca2 x, some .int) [24, 29, 30, 31] 6 0 [] [] 2000 [] = true := by decide +kernel
/-- MiceRegisters.readLine -/
def kcc923 : ak_C := (17, [.inl 0, .inl 14, .inr (false, [(-1, 60)]), .inr (false, [(56, 56)])], kch51, [24, 25, 26], [([[], [], [], []], some (.inr (false, [(-1, 60)])), kch26), ([[], [], [(1, 60)], []], some (.inr (false, [(-9, -9)])), kch28)])
theorem kck923 : ai_chk [kcc42] kcc923 (fun pc => sm_ch sm_t17 pc, sm_Kn 2 6 none, fun x => sm_lk sm_ca2 x, some .int) [24, 25, 26] 6 4 [29] [] 2000 [(29, [(0, .inl 0), (1, .inl 14), (2, .inr (false, [(-1, 60)])), (3, .inr (false, [(56, 56)])), (4, .inr (false, [(57, 57)]))], [], kch52),
  (29, [(0, .inl 0), (1, .inl 14), (2, .inr (false, [(1, 60)])), (3, .inr (false, [(56, 56)])), (4, .inr (false, [(58, 58)])), (5, .inr (false, [(-9, -9)]))], [], kch52),
  (29, [(0, .inl 0), (1, .inl 14), (2, .inr (false, [(1, 60)])), (3, .inr (false, [(56, 56)])), (4, .inr (false, [(59, 59)])), (5, .inr (false, [(-9, -9)]))], [], kch52),
  (29, [(0, .inl 0), (1, .inl 14), (2, .inr (false, [(1, 60)])), (3, .inr (false, [(56, 56)])), (4, .inr (false, [(60, 60)])), (5, .inr (false, [(-9, -9)]))], [], kch52)] = true := by decide +kernel
def kch604 : aw_H := [(14, kcx596)]
/-- MiceRegisters.faultOfFigure -/
def kcc924 : ak_C := (18, [.inl 14, .inr (false, [(-1, 60)]), .inr (false, [(57, 57)]), .inr (false, [(0, 0)]), .inr (false, [(0, 7)])], kch21, [], [([], some (.inr (false, [(-9, -9)])), kch604), ([], some (.inr (false, [(-1, 63)])), [])])
def kch605 : aw_H := [(14, kcx598)]
/-- MiceRegisters.faultOfFigure -/
def kcc925 : ak_C := (18, [.inl 14, .inr (false, [(-1, 60)]), .inr (false, [(58, 58)]), .inr (false, [(1, 1)]), .inr (false, [(9, 9)])], kch604, [], [([], some (.inr (false, [(-9, -9)])), kch605), ([], some (.inr (false, [(-1, 63)])), [])])
/-- MiceRegisters.readMouse -/
def kcc926 : ak_C := (19, [.inl 0, .inl 14, .inr (false, [(-1, 60)]), .inr (false, [(56, 56)])], kch55, [24, 29, 30, 31], [([], some (.inr (false, [(-1, 63)])), kch37), ([], some (.inr (false, [(-9, -9)])), kch39)])
theorem kck926 : ai_chk [kcc28, kcc924, kcc925] kcc926 (fun pc => sm_ch sm_t19 pc, sm_Kn 2 6 none, fun x => sm_lk sm_ca2 x, some .int) [24, 29, 30, 31] 6 0 [] [] 2000 [] = true := by decide +kernel
