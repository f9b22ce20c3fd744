/-! Contracts over ranges of the class, and their checks; printed by a program of mine. -/
/-- MiceRegisters.readLine -/
def kcc663 : ak_C := (17, [.inl 0, .inl 13, .inr (false, [(-1, 60)]), .inr (false, [(40, 40)])], kch46, [24, 25, 26], [([[], [], [], []], some (.inr (false, [(-1, 60)])), kch26), ([[], [], [(1, 60)], []], some (.inr (false, [(-9, -9)])), kch28)])
theorem kck663 : ai_chk [kcc37] kcc663 (fun pc => sm_ch sm_t17 pc, sm_Kn 2 6 none, fun x => sm_lk sm_ca2 x, some .int) [24, 25, 26] 6 4 [29] [] 2000 [(29, [(0, .inl 0), (1, .inl 13), (2, .inr (false, [(-1, 60)])), (3, .inr (false, [(40, 40)])), (4, .inr (false, [(41, 41)]))], [], kch47),
  (29, [(0, .inl 0), (1, .inl 13), (2, .inr (false, [(1, 60)])), (3, .inr (false, [(40, 40)])), (4, .inr (false, [(42, 42)])), (5, .inr (false, [(-9, -9)]))], [], kch47),
  (29, [(0, .inl 0), (1, .inl 13), (2, .inr (false, [(1, 60)])), (3, .inr (false, [(40, 40)])), (4, .inr (false, [(43, 43)])), (5, .inr (false, [(-9, -9)]))], [], kch47),
  (29, [(0, .inl 0), (1, .inl 13), (2, .inr (false, [(1, 60)])), (3, .inr (false, [(40, 40)])), (4, .inr (false, [(44, 44)])), (5, .inr (false, [(-9, -9)]))], [], kch47)] = true := by decide +kernel
def kch442 : aw_H := [(13, kcx436)]
/-- MiceRegisters.faultOfFigure -/
def kcc664 : ak_C := (18, [.inl 13, .inr (false, [(-1, 60)]), .inr (false, [(41, 41)]), .inr (false, [(0, 0)]), .inr (false, [(0, 7)])], kch22, [], [([], some (.inr (false, [(-9, -9)])), kch442), ([], some (.inr (false, [(-1, 63)])), [])])
def kch443 : aw_H := [(13, kcx438)]
/-- MiceRegisters.faultOfFigure -/
def kcc665 : ak_C := (18, [.inl 13, .inr (false, [(-1, 60)]), .inr (false, [(42, 42)]), .inr (false, [(1, 1)]), .inr (false, [(9, 9)])], kch442, [], [([], some (.inr (false, [(-9, -9)])), kch443), ([], some (.inr (false, [(-1, 63)])), [])])
/-- MiceRegisters.readMouse -/
def kcc666 : ak_C := (19, [.inl 0, .inl 13, .inr (false, [(-1, 60)]), .inr (false, [(40, 40)])], kch50, [24, 29, 30, 31], [([], some (.inr (false, [(-1, 63)])), kch37), ([], some (.inr (false, [(-9, -9)])), kch39)])
theorem kck666 : ai_chk [kcc28, kcc664, kcc665] kcc666 (fun pc => sm_ch sm_t19 pc, sm_Kn 2 6 none, fun x => sm_lk sm_ca2 x, some .int) [24, 29, 30, 31] 6 0 [] [] 2000 [] = true := by decide +kernel
/-- MiceRegisters.readLine -/
def kcc667 : ak_C := (17, [.inl 0, .inl 14, .inr (false, [(-1, 60)]), .inr (false, [(40, 40)])], kch51, [24, 25, 26], [([[], [], [], []], some (.inr (false, [(-1, 60)])), kch26), ([[], [], [(1, 60)], []], some (.inr (false, [(-9, -9)])), kch28)])
theorem kck667 : ai_chk [kcc42] kcc667 (fun pc => sm_ch sm_t17 pc, sm_Kn 2 6 none, fun x => sm_lk sm_ca2 x, some .int) [24, 25, 26] 6 4 [29] [] 2000 [(29, [(0, .inl 0), (1, .inl 14), (2, .inr (false, [(-1, 60)])), (3, .inr (false, [(40, 40)])), (4, .inr (false, [(41, 41)]))], [], kch52),
  (29, [(0, .inl 0), (1, .inl 14), (2, .inr (false, [(1, 60)])), (3, .inr (false, [(40, 40)])), (4, .inr (false, [(42, 42)])), (5, .inr (false, [(-9, -9)]))], [], kch52),
  (29, [(0, .inl 0), (1, .inl 14), (2, .inr (false, [(1, 60)])), (3, .inr (false, [(40, 40)])), (4, .inr (false, [(43, 43)])), (5, .inr (false, [(-9, -9)]))], [], kch52),
  (29, [(0, .inl 0), (1, .inl 14), (2, .inr (false, [(1, 60)])), (3, .inr (false, [(40, 40)])), (4, .inr (false, [(44, 44)])), (5, .inr (false, [(-9, -9)]))], [], kch52)] = true := by decide +kernel
def kch444 : aw_H := [(14, kcx436)]
/-- MiceRegisters.faultOfFigure -/
def kcc668 : ak_C := (18, [.inl 14, .inr (false, [(-1, 60)]), .inr (false, [(41, 41)]), .inr (false, [(0, 0)]), .inr (false, [(0, 7)])], kch21, [], [([], some (.inr (false, [(-9, -9)])), kch444), ([], some (.inr (false, [(-1, 63)])), [])])
def kch445 : aw_H := [(14, kcx438)]
/-- MiceRegisters.faultOfFigure -/
def kcc669 : ak_C := (18, [.inl 14, .inr (false, [(-1, 60)]), .inr (false, [(42, 42)]), .inr (false, [(1, 1)]), .inr (false, [(9, 9)])], kch444, [], [([], some (.inr (false, [(-9, -9)])), kch445), ([], some (.inr (false, [(-1, 63)])), [])])
/-- MiceRegisters.readMouse -/
def kcc670 : ak_C := (19, [.inl 0, .inl 14, .inr (false, [(-1, 60)]), .inr (false, [(40, 40)])], kch55, [24, 29, 30, 31], [([], some (.inr (false, [(-1, 63)])), kch37), ([], some (.inr (false, [(-9, -9)])), kch39)])
theorem kck670 : ai_chk [kcc28, kcc668, kcc669] kcc670 (fun pc => sm_ch sm_t19 pc, sm_Kn 2 6 none, fun x => sm_lk sm_ca2 x, some .int) [24, 29, 30, 31] 6 0 [] [] 2000 [] = true := by decide +kernel
/-- MiceRegisters.readLine -/
def kcc671 : ak_C := (17, [.inl 0, .inl 11, .inr (false, [(-1, 60)]), .inr (false, [(41, 41)])], kch29, [24, 25, 26], [([[], [], [], []], some (.inr (false, [(-1, 60)])), kch26), ([[], [], [(1, 60)], []], some (.inr (false, [(-9, -9)])), kch28)])
theorem kck671 : ai_chk [kcc26] kcc671 (fun pc => sm_ch sm_t17 pc, sm_Kn 2 6 none, fun x => sm_lk sm_ca2 x, some .int) [24, 25, 26] 6 4 [29] [] 2000 [(29, [(0, .inl 0), (1, .inl 11), (2, .inr (false, [(-1, 60)])), (3, .inr (false, [(41, 41)])), (4, .inr (false, [(42, 42)]))], [], kch31),
  (29, [(0, .inl 0), (1, .inl 11), (2, .inr (false, [(1, 60)])), (3, .inr (false, [(41, 41)])), (4, .inr (false, [(43, 43)])), (5, .inr (false, [(-9, -9)]))], [], kch31),
  (29, [(0, .inl 0), (1, .inl 11), (2, .inr (false, [(1, 60)])), (3, .inr (false, [(41, 41)])), (4, .inr (false, [(44, 44)])), (5, .inr (false, [(-9, -9)]))], [], kch31),
  (29, [(0, .inl 0), (1, .inl 11), (2, .inr (false, [(1, 60)])), (3, .inr (false, [(41, 41)])), (4, .inr (false, [(45, 45)])), (5, .inr (false, [(-9, -9)]))], [], kch31)] = true := by decide +kernel
def kcx446 : aw_A := .inr (.inl (1, 60, [], [(42, [(48, 55)])]))
def kch447 : aw_H := [(11, kcx446)]
/-- MiceRegisters.faultOfFigure -/
def kcc672 : ak_C := (18, [.inl 11, .inr (false, [(-1, 60)]), .inr (false, [(42, 42)]), .inr (false, [(0, 0)]), .inr (false, [(0, 7)])], kch24, [], [([], some (.inr (false, [(-9, -9)])), kch447), ([], some (.inr (false, [(-1, 63)])), [])])
def kcx448 : aw_A := .inr (.inl (1, 60, [], [(43, [(49, 57)]), (42, [(48, 55)])]))
def kch449 : aw_H := [(11, kcx448)]
/-- MiceRegisters.faultOfFigure -/
def kcc673 : ak_C := (18, [.inl 11, .inr (false, [(-1, 60)]), .inr (false, [(43, 43)]), .inr (false, [(1, 1)]), .inr (false, [(9, 9)])], kch447, [], [([], some (.inr (false, [(-9, -9)])), kch449), ([], some (.inr (false, [(-1, 63)])), [])])
/-- MiceRegisters.readMouse -/
def kcc674 : ak_C := (19, [.inl 0, .inl 11, .inr (false, [(-1, 60)]), .inr (false, [(41, 41)])], kch40, [24, 29, 30, 31], [([], some (.inr (false, [(-1, 63)])), kch37), ([], some (.inr (false, [(-9, -9)])), kch39)])
theorem kck674 : ai_chk [kcc28, kcc672, kcc673] kcc674 (fun pc => sm_ch sm_t19 pc, sm_Kn 2 6 none, fun x => sm_lk sm_ca2 x, some .int) [24, 29, 30, 31] 6 0 [] [] 2000 [] = true := by decide +kernel
/-- MiceRegisters.readLine -/
def kcc675 : ak_C := (17, [.inl 0, .inl 12, .inr (false, [(-1, 60)]), .inr (false, [(41, 41)])], kch41, [24, 25, 26], [([[], [], [], []], some (.inr (false, [(-1, 60)])), kch26), ([[], [], [(1, 60)], []], some (.inr (false, [(-9, -9)])), kch28)])
theorem kck675 : ai_chk [kcc32] kcc675 (fun pc => sm_ch sm_t17 pc, sm_Kn 2 6 none, fun x => sm_lk sm_ca2 x, some .int) [24, 25, 26] 6 4 [29] [] 2000 [(29, [(0, .inl 0), (1, .inl 12), (2, .inr (false, [(-1, 60)])), (3, .inr (false, [(41, 41)])), (4, .inr (false, [(42, 42)]))], [], kch42),
  (29, [(0, .inl 0), (1, .inl 12), (2, .inr (false, [(1, 60)])), (3, .inr (false, [(41, 41)])), (4, .inr (false, [(43, 43)])), (5, .inr (false, [(-9, -9)]))], [], kch42),
  (29, [(0, .inl 0), (1, .inl 12), (2, .inr (false, [(1, 60)])), (3, .inr (false, [(41, 41)])), (4, .inr (false, [(44, 44)])), (5, .inr (false, [(-9, -9)]))], [], kch42),
  (29, [(0, .inl 0), (1, .inl 12), (2, .inr (false, [(1, 60)])), (3, .inr (false, [(41, 41)])), (4, .inr (false, [(45, 45)])), (5, .inr (false, [(-9, -9)]))], [], kch42)] = true := by decide +kernel
def kch450 : aw_H := [(12, kcx446)]
/-- MiceRegisters.faultOfFigure -/
def kcc676 : ak_C := (18, [.inl 12, .inr (false, [(-1, 60)]), .inr (false, [(42, 42)]), .inr (false, [(0, 0)]), .inr (false, [(0, 7)])], kch23, [], [([], some (.inr (false, [(-9, -9)])), kch450), ([], some (.inr (false, [(-1, 63)])), [])])
def kch451 : aw_H := [(12, kcx448)]
/-- MiceRegisters.faultOfFigure -/
def kcc677 : ak_C := (18, [.inl 12, .inr (false, [(-1, 60)]), .inr (false, [(43, 43)]), .inr (false, [(1, 1)]), .inr (false, [(9, 9)])], kch450, [], [([], some (.inr (false, [(-9, -9)])), kch451), ([], some (.inr (false, [(-1, 63)])), [])])
/-- MiceRegisters.readMouse -/
def kcc678 : ak_C := (19, [.inl 0, .inl 12, .inr (false, [(-1, 60)]), .inr (false, [(41, 41)])], kch45, [24, 29, 30, 31], [([], some (.inr (false, [(-1, 63)])), kch37), ([], some (.inr (false, [(-9, -9)])), kch39)])
theorem kck678 : ai_chk [kcc28, kcc676, kcc677] kcc678 (fun pc => sm_ch sm_t19 pc, sm_Kn 2 6 none, fun x => sm_lk sm_ca2 x, some .int) [24, 29, 30, 31] 6 0 [] [] 2000 [] = true := by decide +kernel
/-- MiceRegisters.readLine -/
def kcc679 : ak_C := (17, [.inl 0, .inl 13, .inr (false, [(-1, 60)]), .inr (false, [(41, 41)])], kch46, [24, 25, 26], [([[], [], [], []], some (.inr (false, [(-1, 60)])), kch26), ([[], [], [(1, 60)], []], some (.inr (false, [(-9, -9)])), kch28)])
theorem kck679 : ai_chk [kcc37] kcc679 (fun pc => sm_ch sm_t17 pc, sm_Kn 2 6 none, fun x => sm_lk sm_ca2 x, some .int) [24, 25, 26] 6 4 [29] [] 2000 [(29, [(0, .inl 0), (1, .inl 13), (2, .inr (false, [(-1, 60)])), (3, .inr (false, [(41, 41)])), (4, .inr (false, [(42, 42)]))], [], kch47),
  (29, [(0, .inl 0), (1, .inl 13), (2, .inr (false, [(1, 60)])), (3, .inr (false, [(41, 41)])), (4, .inr (false, [(43, 43)])), (5, .inr (false, [(-9, -9)]))], [], kch47),
  (29, [(0, .inl 0), (1, .inl 13), (2, .inr (false, [(1, 60)])), (3, .inr (false, [(41, 41)])), (4, .inr (false, [(44, 44)])), (5, .inr (false, [(-9, -9)]))], [], kch47),
  (29, [(0, .inl 0), (1, .inl 13), (2, .inr (false, [(1, 60)])), (3, .inr (false, [(41, 41)])), (4, .inr (false, [(45, 45)])), (5, .inr (false, [(-9, -9)]))], [], kch47)] = true := by decide +kernel
def kch452 : aw_H := [(13, kcx446)]
/-- MiceRegisters.faultOfFigure -/
def kcc680 : ak_C := (18, [.inl 13, .inr (false, [(-1, 60)]), .inr (false, [(42, 42)]), .inr (false, [(0, 0)]), .inr (false, [(0, 7)])], kch22, [], [([], some (.inr (false, [(-9, -9)])), kch452), ([], some (.inr (false, [(-1, 63)])), [])])
def kch453 : aw_H := [(13, kcx448)]
/-- MiceRegisters.faultOfFigure -/
def kcc681 : ak_C := (18, [.inl 13, .inr (false, [(-1, 60)]), .inr (false, [(43, 43)]), .inr (false, [(1, 1)]), .inr (false, [(9, 9)])], kch452, [], [([], some (.inr (false, [(-9, -9)])), kch453), ([], some (.inr (false, [(-1, 63)])), [])])
/-- MiceRegisters.readMouse -/
def kcc682 : ak_C := (19, [.inl 0, .inl 13, .inr (false, [(-1, 60)]), .inr (false, [(41, 41)])], kch50, [24, 29, 30, 31], [([], some (.inr (false, [(-1, 63)])), kch37), ([], some (.inr (false, [(-9, -9)])), kch39)])
theorem kck682 : ai_chk [kcc28, kcc680, kcc681] kcc682 (fun pc => sm_ch sm_t19 pc, sm_Kn 2 6 none, fun x => sm_lk sm_ca2 x, some .int) [24, 29, 30, 31] 6 0 [] [] 2000 [] = true := by decide +kernel
/-- MiceRegisters.readLine -/
def kcc683 : ak_C := (17, [.inl 0, .inl 14, .inr (false, [(-1, 60)]), .inr (false, [(41, 41)])], kch51, [24, 25, 26], [([[], [], [], []], some (.inr (false, [(-1, 60)])), kch26), ([[], [], [(1, 60)], []], some (.inr (false, [(-9, -9)])), kch28)])
theorem kck683 : ai_chk [kcc42] kcc683 (fun pc => sm_ch sm_t17 pc, sm_Kn 2 6 none, fun x => sm_lk sm_ca2 x, some .int) [24, 25, 26] 6 4 [29] [] 2000 [(29, [(0, .inl 0), (1, .inl 14), (2, .inr (false, [(-1, 60)])), (3, .inr (false, [(41, 41)])), (4, .inr (false, [(42, 42)]))], [], kch52),
  (29, [(0, .inl 0), (1, .inl 14), (2, .inr (false, [(1, 60)])), (3, .inr (false, [(41, 41)])), (4, .inr (false, [(43, 43)])), (5, .inr (false, [(-9, -9)]))], [], kch52),
  (29, [(0, .inl 0), (1, .inl 14), (2, .inr (false, [(1, 60)])), (3, .inr (false, [(41, 41)])), (4, .inr (false, [(44, 44)])), (5, .inr (false, [(-9, -9)]))], [], kch52),
  (29, [(0, .inl 0), (1, .inl 14), (2, .inr (false, [(1, 60)])), (3, .inr (false, [(41, 41)])), (4, .inr (false, [(45, 45)])), (5, .inr (false, [(-9, -9)]))], [], kch52)] = true := by decide +kernel
def kch454 : aw_H := [(14, kcx446)]
/-- MiceRegisters.faultOfFigure -/
def kcc684 : ak_C := (18, [.inl 14, .inr (false, [(-1, 60)]), .inr (false, [(42, 42)]), .inr (false, [(0, 0)]), .inr (false, [(0, 7)])], kch21, [], [([], some (.inr (false, [(-9, -9)])), kch454), ([], some (.inr (false, [(-1, 63)])), [])])
def kch455 : aw_H := [(14, kcx448)]
/-- MiceRegisters.faultOfFigure -/
def kcc685 : ak_C := (18, [.inl 14, .inr (false, [(-1, 60)]), .inr (false, [(43, 43)]), .inr (false, [(1, 1)]), .inr (false, [(9, 9)])], kch454, [], [([], some (.inr (false, [(-9, -9)])), kch455), ([], some (.inr (false, [(-1, 63)])), [])])
/-- MiceRegisters.readMouse -/
def kcc686 : ak_C := (19, [.inl 0, .inl 14, .inr (false, [(-1, 60)]), .inr (false, [(41, 41)])], kch55, [24, 29, 30, 31], [([], some (.inr (false, [(-1, 63)])), kch37), ([], some (.inr (false, [(-9, -9)])), kch39)])
theorem kck686 : ai_chk [kcc28, kcc684, kcc685] kcc686 (fun pc => sm_ch sm_t19 pc, sm_Kn 2 6 none, fun x => sm_lk sm_ca2 x, some .int) [24, 29, 30, 31] 6 0 [] [] 2000 [] = true := by decide +kernel
/-- MiceRegisters.readLine -/
def kcc687 : ak_C := (17, [.inl 0, .inl 11, .inr (false, [(-1, 60)]), .inr (false, [(42, 42)])], kch29, [24, 25, 26], [([[], [], [], []], some (.inr (false, [(-1, 60)])), kch26), ([[], [], [(1, 60)], []], some (.inr (false, [(-9, -9)])), kch28)])
theorem kck687 : ai_chk [kcc26] kcc687 (fun pc => sm_ch sm_t17 pc, sm_Kn 2 6 none, fun x => sm_lk sm_ca2 x, some .int) [24, 25, 26] 6 4 [29] [] 2000 [(29, [(0, .inl 0), (1, .inl 11), (2, .inr (false, [(-1, 60)])), (3, .inr (false, [(42, 42)])), (4, .inr (false, [(43, 43)]))], [], kch31),
  (29, [(0, .inl 0), (1, .inl 11), (2, .inr (false, [(1, 60)])), (3, .inr (false, [(42, 42)])), (4, .inr (false, [(44, 44)])), (5, .inr (false, [(-9, -9)]))], [], kch31),
  (29, [(0, .inl 0), (1, .inl 11), (2, .inr (false, [(1, 60)])), (3, .inr (false, [(42, 42)])), (4, .inr (false, [(45, 45)])), (5, .inr (false, [(-9, -9)]))], [], kch31),
  (29, [(0, .inl 0), (1, .inl 11), (2, .inr (false, [(1, 60)])), (3, .inr (false, [(42, 42)])), (4, .inr (false, [(46, 46)])), (5, .inr (false, [(-9, -9)]))], [], kch31)] = true := by decide +kernel
def kcx456 : aw_A := .inr (.inl (1, 60, [], [(43, [(48, 55)])]))
def kch457 : aw_H := [(11, kcx456)]
/-- MiceRegisters.faultOfFigure -/
def kcc688 : ak_C := (18, [.inl 11, .inr (false, [(-1, 60)]), .inr (false, [(43, 43)]), .inr (false, [(0, 0)]), .inr (false, [(0, 7)])], kch24, [], [([], some (.inr (false, [(-9, -9)])), kch457), ([], some (.inr (false, [(-1, 63)])), [])])
def kcx458 : aw_A := .inr (.inl (1, 60, [], [(44, [(49, 57)]), (43, [(48, 55)])]))
def kch459 : aw_H := [(11, kcx458)]
/-- MiceRegisters.faultOfFigure -/
def kcc689 : ak_C := (18, [.inl 11, .inr (false, [(-1, 60)]), .inr (false, [(44, 44)]), .inr (false, [(1, 1)]), .inr (false, [(9, 9)])], kch457, [], [([], some (.inr (false, [(-9, -9)])), kch459), ([], some (.inr (false, [(-1, 63)])), [])])
/-- MiceRegisters.readMouse -/
def kcc690 : ak_C := (19, [.inl 0, .inl 11, .inr (false, [(-1, 60)]), .inr (false, [(42, 42)])], kch40, [24, 29, 30, 31], [([], some (.inr (false, [(-1, 63)])), kch37), ([], some (.inr (false, [(-9, -9)])), kch39)])
theorem kck690 : ai_chk [kcc28, kcc688, kcc689] kcc690 (fun pc => sm_ch sm_t19 pc, sm_Kn 2 6 none, fun x => sm_lk sm_ca2 x, some .int) [24, 29, 30, 31] 6 0 [] [] 2000 [] = true := by decide +kernel
/-- MiceRegisters.readLine -/
def kcc691 : ak_C := (17, [.inl 0, .inl 12, .inr (false, [(-1, 60)]), .inr (false, [(42, 42)])], kch41, [24, 25, 26], [([[], [], [], []], some (.inr (false, [(-1, 60)])), kch26), ([[], [], [(1, 60)], []], some (.inr (false, [(-9, -9)])), kch28)])
theorem kck691 : ai_chk [kcc32] kcc691 (fun pc => sm_ch sm_t17 pc, sm_Kn 2 6 none, fun x => sm_lk sm_ca2 x, some .int) [24, 25, 26] 6 4 [29] [] 2000 [(29, [(0, .inl 0), (1, .inl 12), (2, .inr (false, [(-1, 60)])), (3, .inr (false, [(42, 42)])), (4, .inr (false, [(43, 43)]))], [], kch42),
  (29, [(0, .inl 0), (1, .inl 12), (2, .inr (false, [(1, 60)])), (3, .inr (false, [(42, 42)])), (4, .inr (false, [(44, 44)])), (5, .inr (false, [(-9, -9)]))], [], kch42),
  (29, [(0, .inl 0), (1, .inl 12), (2, .inr (false, [(1, 60)])), (3, .inr (false, [(42, 42)])), (4, .inr (false, [(45, 45)])), (5, .inr (false, [(-9, -9)]))], [], kch42),
  (29, [(0, .inl 0), (1, .inl 12), (2, .inr (false, [(1, 60)])), (3, .inr (false, [(42, 42)])), (4, .inr (false, [(46, 46)])), (5, .inr (false, [(-9, -9)]))], [], kch42)] = true := by decide +kernel
def kch460 : aw_H := [(12, kcx456)]
/-- MiceRegisters.faultOfFigure -/
def kcc692 : ak_C := (18, [.inl 12, .inr (false, [(-1, 60)]), .inr (false, [(43, 43)]), .inr (false, [(0, 0)]), .inr (false, [(0, 7)])], kch23, [], [([], some (.inr (false, [(-9, -9)])), kch460), ([], some (.inr (false, [(-1, 63)])), [])])
def kch461 : aw_H := [(12, kcx458)]
/-- MiceRegisters.faultOfFigure -/
def kcc693 : ak_C := (18, [.inl 12, .inr (false, [(-1, 60)]), .inr (false, [(44, 44)]), .inr (false, [(1, 1)]), .inr (false, [(9, 9)])], kch460, [], [([], some (.inr (false, [(-9, -9)])), kch461), ([], some (.inr (false, [(-1, 63)])), [])])
/-- MiceRegisters.readMouse -/
def kcc694 : ak_C := (19, [.inl 0, .inl 12, .inr (false, [(-1, 60)]), .inr (false, [(42, 42)])], kch45, [24, 29, 30, 31], [([], some (.inr (false, [(-1, 63)])), kch37), ([], some (.inr (false, [(-9, -9)])), kch39)])
theorem kck694 : ai_chk [kcc28, kcc692, kcc693] kcc694 (fun pc => sm_ch sm_t19 pc, sm_Kn 2 6 none, fun x => sm_lk sm_ca2 x, some .int) [24, 29, 30, 31] 6 0 [] [] 2000 [] = true := by decide +kernel
/-- MiceRegisters.readLine -/
def kcc695 : ak_C := (17, [.inl 0, .inl 13, .inr (false, [(-1, 60)]), .inr (false, [(42, 42)])], kch46, [24, 25, 26], [([[], [], [], []], some (.inr (false, [(-1, 60)])), kch26), ([[], [], [(1, 60)], []], some (.inr (false, [(-9, -9)])), kch28)])
theorem kck695 : ai_chk [kcc37] kcc695 (fun pc => sm_ch sm_t17 pc, sm_Kn 2 6 none, fun x => sm_lk sm_ca2 x, some .int) [24, 25, 26] 6 4 [29] [] 2000 [(29, [(0, .inl 0), (1, .inl 13), (2, .inr (false, [(-1, 60)])), (3, .inr (false, [(42, 42)])), (4, .inr (false, [(43, 43)]))], [], kch47),
  (29, [(0, .inl 0), (1, .inl 13), (2, .inr (false, [(1, 60)])), (3, .inr (false, [(42, 42)])), (4, .inr (false, [(44, 44)])), (5, .inr (false, [(-9, -9)]))], [], kch47),
  (29, [(0, .inl 0), (1, .inl 13), (2, .inr (false, [(1, 60)])), (3, .inr (false, [(42, 42)])), (4, .inr (false, [(45, 45)])), (5, .inr (false, [(-9, -9)]))], [], kch47),
  (29, [(0, .inl 0), (1, .inl 13), (2, .inr (false, [(1, 60)])), (3, .inr (false, [(42, 42)])), (4, .inr (false, [(46, 46)])), (5, .inr (false, [(-9, -9)]))], [], kch47)] = true := by decide +kernel
def kch462 : aw_H := [(13, kcx456)]
/-- MiceRegisters.faultOfFigure -/
def kcc696 : ak_C := (18, [.inl 13, .inr (false, [(-1, 60)]), .inr (false, [(43, 43)]), .inr (false, [(0, 0)]), .inr (false, [(0, 7)])], kch22, [], [([], some (.inr (false, [(-9, -9)])), kch462), ([], some (.inr (false, [(-1, 63)])), [])])
def kch463 : aw_H := [(13, kcx458)]
/-- MiceRegisters.faultOfFigure -/
def kcc697 : ak_C := (18, [.inl 13, .inr (false, [(-1, 60)]), .inr (false, [(44, 44)]), .inr (false, [(1, 1)]), .inr (false, [(9, 9)])], kch462, [], [([], some (.inr (false, [(-9, -9)])), kch463), ([], some (.inr (false, [(-1, 63)])), [])])
/-- MiceRegisters.readMouse -/
def kcc698 : ak_C := (19, [.inl 0, .inl 13, .inr (false, [(-1, 60)]), .inr (false, [(42, 42)])], kch50, [24, 29, 30, 31], [([], some (.inr (false, [(-1, 63)])), kch37), ([], some (.inr (false, [(-9, -9)])), kch39)])
theorem kck698 : ai_chk [kcc28, kcc696, kcc697] kcc698 (fun pc => sm_ch sm_t19 pc, sm_Kn 2 6 none, fun x => sm_lk sm_ca2 x, some .int) [24, 29, 30, 31] 6 0 [] [] 2000 [] = true := by decide +kernel
/-- MiceRegisters.readLine -/
def kcc699 : ak_C := (17, [.inl 0, .inl 14, .inr (false, [(-1, 60)]), .inr (false, [(42, 42)])], kch51, [24, 25, 26], [([[], [], [], []], some (.inr (false, [(-1, 60)])), kch26), ([[], [], [(1, 60)], []], some (.inr (false, [(-9, -9)])), kch28)])
theorem kck699 : ai_chk [kcc42] kcc699 (fun pc => sm_ch sm_t17 pc, sm_Kn 2 6 none, fun x => sm_lk sm_ca2 x, some .int) [24, 25, 26] 6 4 [29] [] 2000 [(29, [(0, .inl 0), (1, .inl 14), (2, .inr (false, [(-1, 60)])), (3, .inr (false, [(42, 42)])), (4, .inr (false, [(43, 43)]))], [], kch52),
  (29, [(0, .inl 0), (1, .inl 14), (2, .inr (false, [(1, 60)])), (3, .inr (false, [(42, 42)])), (4, .inr (false, [(44, 44)])), (5, .inr (false, [(-9, -9)]))], [], kch52),
  (29, [(0, .inl 0), (1, .inl 14), (2, .inr (false, [(1, 60)])), (3, .inr (false, [(42, 42)])), (4, .inr (false, [(45, 45)])), (5, .inr (false, [(-9, -9)]))], [], kch52),
  (29, [(0, .inl 0), (1, .inl 14), (2, .inr (false, [(1, 60)])), (3, .inr (false, [(42, 42)])), (4, .inr (false, [(46, 46)])), (5, .inr (false, [(-9, -9)]))], [], kch52)] = true := by decide +kernel
def kch464 : aw_H := [(14, kcx456)]
/-- MiceRegisters.faultOfFigure -/
def kcc700 : ak_C := (18, [.inl 14, .inr (false, [(-1, 60)]), .inr (false, [(43, 43)]), .inr (false, [(0, 0)]), .inr (false, [(0, 7)])], kch21, [], [([], some (.inr (false, [(-9, -9)])), kch464), ([], some (.inr (false, [(-1, 63)])), [])])
def kch465 : aw_H := [(14, kcx458)]
/-- MiceRegisters.faultOfFigure -/
def kcc701 : ak_C := (18, [.inl 14, .inr (false, [(-1, 60)]), .inr (false, [(44, 44)]), .inr (false, [(1, 1)]), .inr (false, [(9, 9)])], kch464, [], [([], some (.inr (false, [(-9, -9)])), kch465), ([], some (.inr (false, [(-1, 63)])), [])])
/-- MiceRegisters.readMouse -/
def kcc702 : ak_C := (19, [.inl 0, .inl 14, .inr (false, [(-1, 60)]), .inr (false, [(42, 42)])], kch55, [24, 29, 30, 31], [([], some (.inr (false, [(-1, 63)])), kch37), ([], some (.inr (false, [(-9, -9)])), kch39)])
theorem kck702 : ai_chk [kcc28, kcc700, kcc701] kcc702 (fun pc => sm_ch sm_t19 pc, sm_Kn 2 6 none, fun x => sm_lk sm_ca2 x, some .int) [24, 29, 30, 31] 6 0 [] [] 2000 [] = true := by decide +kernel
/-- MiceRegisters.readLine -/
def kcc703 : ak_C := (17, [.inl 0, .inl 11, .inr (false, [(-1, 60)]), .inr (false, [(43, 43)])], kch29, [24, 25, 26], [([[], [], [], []], some (.inr (false, [(-1, 60)])), kch26), ([[], [], [(1, 60)], []], some (.inr (false, [(-9, -9)])), kch28)])
theorem kck703 : ai_chk [kcc26] kcc703 (fun pc => sm_ch sm_t17 pc, sm_Kn 2 6 none, fun x => sm_lk sm_ca2 x, some .int) [24, 25, 26] 6 4 [29] [] 2000 [(29, [(0, .inl 0), (1, .inl 11), (2, .inr (false, [(-1, 60)])), (3, .inr (false, [(43, 43)])), (4, .inr (false, [(44, 44)]))], [], kch31),
  (29, [(0, .inl 0), (1, .inl 11), (2, .inr (false, [(1, 60)])), (3, .inr (false, [(43, 43)])), (4, .inr (false, [(45, 45)])), (5, .inr (false, [(-9, -9)]))], [], kch31),
  (29, [(0, .inl 0), (1, .inl 11), (2, .inr (false, [(1, 60)])), (3, .inr (false, [(43, 43)])), (4, .inr (false, [(46, 46)])), (5, .inr (false, [(-9, -9)]))], [], kch31),
  (29, [(0, .inl 0), (1, .inl 11), (2, .inr (false, [(1, 60)])), (3, .inr (false, [(43, 43)])), (4, .inr (false, [(47, 47)])), (5, .inr (false, [(-9, -9)]))], [], kch31)] = true := by decide +kernel
def kcx466 : aw_A := .inr (.inl (1, 60, [], [(44, [(48, 55)])]))
def kch467 : aw_H := [(11, kcx466)]
/-- MiceRegisters.faultOfFigure -/
def kcc704 : ak_C := (18, [.inl 11, .inr (false, [(-1, 60)]), .inr (false, [(44, 44)]), .inr (false, [(0, 0)]), .inr (false, [(0, 7)])], kch24, [], [([], some (.inr (false, [(-9, -9)])), kch467), ([], some (.inr (false, [(-1, 63)])), [])])
def kcx468 : aw_A := .inr (.inl (1, 60, [], [(45, [(49, 57)]), (44, [(48, 55)])]))
def kch469 : aw_H := [(11, kcx468)]
/-- MiceRegisters.faultOfFigure -/
def kcc705 : ak_C := (18, [.inl 11, .inr (false, [(-1, 60)]), .inr (false, [(45, 45)]), .inr (false, [(1, 1)]), .inr (false, [(9, 9)])], kch467, [], [([], some (.inr (false, [(-9, -9)])), kch469), ([], some (.inr (false, [(-1, 63)])), [])])
/-- MiceRegisters.readMouse -/
def kcc706 : ak_C := (19, [.inl 0, .inl 11, .inr (false, [(-1, 60)]), .inr (false, [(43, 43)])], kch40, [24, 29, 30, 31], [([], some (.inr (false, [(-1, 63)])), kch37), ([], some (.inr (false, [(-9, -9)])), kch39)])
theorem kck706 : ai_chk [kcc28, kcc704, kcc705] kcc706 (fun pc => sm_ch sm_t19 pc, sm_Kn 2 6 none, fun x => sm_lk sm_ca2 x, some .int) [24, 29, 30, 31] 6 0 [] [] 2000 [] = true := by decide +kernel
/-- MiceRegisters.readLine -/
def kcc707 : ak_C := (17, [.inl 0, .inl 12, .inr (false, [(-1, 60)]), .inr (false, [(43, 43)])], kch41, [24, 25, 26], [([[], [], [], []], some (.inr (false, [(-1, 60)])), kch26), ([[], [], [(1, 60)], []], some (.inr (false, [(-9, -9)])), kch28)])
theorem kck707 : ai_chk [kcc32] kcc707 (fun pc => sm_ch sm_t17 pc, sm_Kn 2 6 none, fun x => sm_lk sm_ca2 x, some .int) [24, 25, 26] 6 4 [29] [] 2000 [(29, [(0, .inl 0), (1, .inl 12), (2, .inr (false, [(-1, 60)])), (3, .inr (false, [(43, 43)])), (4, .inr (false, [(44, 44)]))], [], kch42),
  (29, [(0, .inl 0), (1, .inl 12), (2, .inr (false, [(1, 60)])), (3, .inr (false, [(43, 43)])), (4, .inr (false, [(45, 45)])), (5, .inr (false, [(-9, -9)]))], [], kch42),
  (29, [(0, .inl 0), (1, .inl 12), (2, .inr (false, [(1, 60)])), (3, .inr (false, [(43, 43)])), (4, .inr (false, [(46, 46)])), (5, .inr (false, [(-9, -9)]))], [], kch42),
  (29, [(0, .inl 0), (1, .inl 12), (2, .inr (false, [(1, 60)])), (3, .inr (false, [(43, 43)])), (4, .inr (false, [(47, 47)])), (5, .inr (false, [(-9, -9)]))], [], kch42)] = true := by decide +kernel
def kch470 : aw_H := [(12, kcx466)]
/-- MiceRegisters.faultOfFigure -/
def kcc708 : ak_C := (18, [.inl 12, .inr (false, [(-1, 60)]), .inr (false, [(44, 44)]), .inr (false, [(0, 0)]), .inr (false, [(0, 7)])], kch23, [], [([], some (.inr (false, [(-9, -9)])), kch470), ([], some (.inr (false, [(-1, 63)])), [])])
def kch471 : aw_H := [(12, kcx468)]
/-- MiceRegisters.faultOfFigure -/
def kcc709 : ak_C := (18, [.inl 12, .inr (false, [(-1, 60)]), .inr (false, [(45, 45)]), .inr (false, [(1, 1)]), .inr (false, [(9, 9)])], kch470, [], [([], some (.inr (false, [(-9, -9)])), kch471), ([], some (.inr (false, [(-1, 63)])), [])])
/-- MiceRegisters.readMouse -/
def kcc710 : ak_C := (19, [.inl 0, .inl 12, .inr (false, [(-1, 60)]), .inr (false, [(43, 43)])], kch45, [24, 29, 30, 31], [([], some (.inr (false, [(-1, 63)])), kch37), ([], some (.inr (false, [(-9, -9)])), kch39)])
theorem kck710 : ai_chk [kcc28, kcc708, kcc709] kcc710 (fun pc => sm_ch sm_t19 pc, sm_Kn 2 6 none, fun x => sm_lk sm_ca2 x, some .int) [24, 29, 30, 31] 6 0 [] [] 2000 [] = true := by decide +kernel
/-- MiceRegisters.readLine -/
def kcc711 : ak_C := (17, [.inl 0, .inl 13, .inr (false, [(-1, 60)]), .inr (false, [(43, 43)])], kch46, [24, 25, 26], [([[], [], [], []], some (.inr (false, [(-1, 60)])), kch26), ([[], [], [(1, 60)], []], some (.inr (false, [(-9, -9)])), kch28)])
theorem kck711 : ai_chk [kcc37] kcc711 (fun pc => sm_ch sm_t17 pc, sm_Kn 2 6 none, fun x => sm_lk sm_ca2 x, some .int) [24, 25, 26] 6 4 [29] [] 2000 [(29, [(0, .inl 0), (1, .inl 13), (2, .inr (false, [(-1, 60)])), (3, .inr (false, [(43, 43)])), (4, .inr (false, [(44, 44)]))], [], kch47),
  (29, [(0, .inl 0), (1, .inl 13), (2, .inr (false, [(1, 60)])), (3, .inr (false, [(43, 43)])), (4, .inr (false, [(45, 45)])), (5, .inr (false, [(-9, -9)]))], [], kch47),
  (29, [(0, .inl 0), (1, .inl 13), (2, .inr (false, [(1, 60)])), (3, .inr (false, [(43, 43)])), (4, .inr (false, [(46, 46)])), (5, .inr (false, [(-9, -9)]))], [], kch47),
  (29, [(0, .inl 0), (1, .inl 13), (2, .inr (false, [(1, 60)])), (3, .inr (false, [(43, 43)])), (4, .inr (false, [(47, 47)])), (5, .inr (false, [(-9, -9)]))], [], kch47)] = true := by decide +kernel
def kch472 : aw_H := [(13, kcx466)]
/-- MiceRegisters.faultOfFigure -/
def kcc712 : ak_C := (18, [.inl 13, .inr (false, [(-1, 60)]), .inr (false, [(44, 44)]), .inr (false, [(0, 0)]), .inr (false, [(0, 7)])], kch22, [], [([], some (.inr (false, [(-9, -9)])), kch472), ([], some (.inr (false, [(-1, 63)])), [])])
def kch473 : aw_H := [(13, kcx468)]
/-- MiceRegisters.faultOfFigure -/
def kcc713 : ak_C := (18, [.inl 13, .inr (false, [(-1, 60)]), .inr (false, [(45, 45)]), .inr (false, [(1, 1)]), .inr (false, [(9, 9)])], kch472, [], [([], some (.inr (false, [(-9, -9)])), kch473), ([], some (.inr (false, [(-1, 63)])), [])])
/-- MiceRegisters.readMouse -/
def kcc714 : ak_C := (19, [.inl 0, .inl 13, .inr (false, [(-1, 60)]), .inr (false, [(43, 43)])], kch50, [24, 29, 30, 31], [([], some (.inr (false, [(-1, 63)])), kch37), ([], some (.inr (false, [(-9, -9)])), kch39)])
theorem kck714 : ai_chk [kcc28, kcc712, kcc713] kcc714 (fun pc => sm_ch sm_t19 pc, sm_Kn 2 6 none, fun x => sm_lk sm_ca2 x, some .int) [24, 29, 30, 31] 6 0 [] [] 2000 [] = true := by decide +kernel
/-- MiceRegisters.readLine -/
def kcc715 : ak_C := (17, [.inl 0, .inl 14, .inr (false, [(-1, 60)]), .inr (false, [(43, 43)])], kch51, [24, 25, 26], [([[], [], [], []], some (.inr (false, [(-1, 60)])), kch26), ([[], [], [(1, 60)], []], some (.inr (false, [(-9, -9)])), kch28)])
theorem kck715 : ai_chk [kcc42] kcc715 (fun pc => sm_ch sm_t17 pc, sm_Kn 2 6 none, fun x => sm_lk sm_ca2 x, some .int) [24, 25, 26] 6 4 [29] [] 2000 [(29, [(0, .inl 0), (1, .inl 14), (2, .inr (false, [(-1, 60)])), (3, .inr (false, [(43, 43)])), (4, .inr (false, [(44, 44)]))], [], kch52),
  (29, [(0, .inl 0), (1, .inl 14), (2, .inr (false, [(1, 60)])), (3, .inr (false, [(43, 43)])), (4, .inr (false, [(45, 45)])), (5, .inr (false, [(-9, -9)]))], [], kch52),
  (29, [(0, .inl 0), (1, .inl 14), (2, .inr (false, [(1, 60)])), (3, .inr (false, [(43, 43)])), (4, .inr (false, [(46, 46)])), (5, .inr (false, [(-9, -9)]))], [], kch52),
  (29, [(0, .inl 0), (1, .inl 14), (2, .inr (false, [(1, 60)])), (3, .inr (false, [(43, 43)])), (4, .inr (false, [(47, 47)])), (5, .inr (false, [(-9, -9)]))], [], kch52)] = true := by decide +kernel
def kch474 : aw_H := [(14, kcx466)]
/-- MiceRegisters.faultOfFigure -/
def kcc716 : ak_C := (18, [.inl 14, .inr (false, [(-1, 60)]), .inr (false, [(44, 44)]), .inr (false, [(0, 0)]), .inr (false, [(0, 7)])], kch21, [], [([], some (.inr (false, [(-9, -9)])), kch474), ([], some (.inr (false, [(-1, 63)])), [])])
def kch475 : aw_H := [(14, kcx468)]
/-- MiceRegisters.faultOfFigure -/
def kcc717 : ak_C := (18, [.inl 14, .inr (false, [(-1, 60)]), .inr (false, [(45, 45)]), .inr (false, [(1, 1)]), .inr (false, [(9, 9)])], kch474, [], [([], some (.inr (false, [(-9, -9)])), kch475), ([], some (.inr (false, [(-1, 63)])), [])])
/-- MiceRegisters.readMouse -/
def kcc718 : ak_C := (19, [.inl 0, .inl 14, .inr (false, [(-1, 60)]), .inr (false, [(43, 43)])], kch55, [24, 29, 30, 31], [([], some (.inr (false, [(-1, 63)])), kch37), ([], some (.inr (false, [(-9, -9)])), kch39)])
theorem kck718 : ai_chk [kcc28, kcc716, kcc717] kcc718 (fun pc => sm_ch sm_t19 pc, sm_Kn 2 6 none, fun x => sm_lk sm_ca2 x, some .int) [24, 29, 30, 31] 6 0 [] [] 2000 [] = true := by decide +kernel
/-- MiceRegisters.readLine -/
def kcc719 : ak_C := (17, [.inl 0, .inl 11, .inr (false, [(-1, 60)]), .inr (false, [(44, 44)])], kch29, [24, 25, 26], [([[], [], [], []], some (.inr (false, [(-1, 60)])), kch26), ([[], [], [(1, 60)], []], some (.inr (false, [(-9, -9)])), kch28)])
theorem kck719 : ai_chk [kcc26] kcc719 (fun pc => sm_ch sm_t17 pc, sm_Kn 2 6 none, fun x => sm_lk sm_ca2 x, some .int) [24, 25, 26] 6 4 [29] [] 2000 [(29, [(0, .inl 0), (1, .inl 11), (2, .inr (false, [(-1, 60)])), (3, .inr (false, [(44, 44)])), (4, .inr (false, [(45, 45)]))], [], kch31),
  (29, [(0, .inl 0), (1, .inl 11), (2, .inr (false, [(1, 60)])), (3, .inr (false, [(44, 44)])), (4, .inr (false, [(46, 46)])), (5, .inr (false, [(-9, -9)]))], [], kch31),
  (29, [(0, .inl 0), (1, .inl 11), (2, .inr (false, [(1, 60)])), (3, .inr (false, [(44, 44)])), (4, .inr (false, [(47, 47)])), (5, .inr (false, [(-9, -9)]))], [], kch31),
  (29, [(0, .inl 0), (1, .inl 11), (2, .inr (false, [(1, 60)])), (3, .inr (false, [(44, 44)])), (4, .inr (false, [(48, 48)])), (5, .inr (false, [(-9, -9)]))], [], kch31)] = true := by decide +kernel
def kcx476 : aw_A := .inr (.inl (1, 60, [], [(45, [(48, 55)])]))
def kch477 : aw_H := [(11, kcx476)]
/-- MiceRegisters.faultOfFigure -/
def kcc720 : ak_C := (18, [.inl 11, .inr (false, [(-1, 60)]), .inr (false, [(45, 45)]), .inr (false, [(0, 0)]), .inr (false, [(0, 7)])], kch24, [], [([], some (.inr (false, [(-9, -9)])), kch477), ([], some (.inr (false, [(-1, 63)])), [])])
def kcx478 : aw_A := .inr (.inl (1, 60, [], [(46, [(49, 57)]), (45, [(48, 55)])]))
def kch479 : aw_H := [(11, kcx478)]
/-- MiceRegisters.faultOfFigure -/
def kcc721 : ak_C := (18, [.inl 11, .inr (false, [(-1, 60)]), .inr (false, [(46, 46)]), .inr (false, [(1, 1)]), .inr (false, [(9, 9)])], kch477, [], [([], some (.inr (false, [(-9, -9)])), kch479), ([], some (.inr (false, [(-1, 63)])), [])])
/-- MiceRegisters.readMouse -/
def kcc722 : ak_C := (19, [.inl 0, .inl 11, .inr (false, [(-1, 60)]), .inr (false, [(44, 44)])], kch40, [24, 29, 30, 31], [([], some (.inr (false, [(-1, 63)])), kch37), ([], some (.inr (false, [(-9, -9)])), kch39)])
theorem kck722 : ai_chk [kcc28, kcc720, kcc721] kcc722 (fun pc => sm_ch sm_t19 pc, sm_Kn 2 6 none, fun x => sm_lk sm_ca2 x, some .int) [24, 29, 30, 31] 6 0 [] [] 2000 [] = true := by decide +kernel
/-- MiceRegisters.readLine -/
def kcc723 : ak_C := (17, [.inl 0, .inl 12, .inr (false, [(-1, 60)]), .inr (false, [(44, 44)])], kch41, [24, 25, 26], [([[], [], [], []], some (.inr (false, [(-1, 60)])), kch26), ([[], [], [(1, 60)], []], some (.inr (false, [(-9, -9)])), kch28)])
theorem kck723 : ai_chk [kcc32] kcc723 (fun pc => sm_ch sm_t17 pc, sm_Kn 2 6 none, fun x => sm_lk sm_ca2 x, some .int) [24, 25, 26] 6 4 [29] [] 2000 [(29, [(0, .inl 0), (1, .inl 12), (2, .inr (false, [(-1, 60)])), (3, .inr (false, [(44, 44)])), (4, .inr (false, [(45, 45)]))], [], kch42),
  (29, [(0, .inl 0), (1, .inl 12), (2, .inr (false, [(1, 60)])), (3, .inr (false, [(44, 44)])), (4, .inr (false, [(46, 46)])), (5, .inr (false, [(-9, -9)]))], [], kch42),
  (29, [(0, .inl 0), (1, .inl 12), (2, .inr (false, [(1, 60)])), (3, .inr (false, [(44, 44)])), (4, .inr (false, [(47, 47)])), (5, .inr (false, [(-9, -9)]))], [], kch42),
  (29, [(0, .inl 0), (1, .inl 12), (2, .inr (false, [(1, 60)])), (3, .inr (false, [(44, 44)])), (4, .inr (false, [(48, 48)])), (5, .inr (false, [(-9, -9)]))], [], kch42)] = true := by decide +kernel
def kch480 : aw_H := [(12, kcx476)]
/-- MiceRegisters.faultOfFigure -/
def kcc724 : ak_C := (18, [.inl 12, .inr (false, [(-1, 60)]), .inr (false, [(45, 45)]), .inr (false, [(0, 0)]), .inr (false, [(0, 7)])], kch23, [], [([], some (.inr (false, [(-9, -9)])), kch480), ([], some (.inr (false, [(-1, 63)])), [])])
def kch481 : aw_H := [(12, kcx478)]
/-- MiceRegisters.faultOfFigure -/
def kcc725 : ak_C := (18, [.inl 12, .inr (false, [(-1, 60)]), .inr (false, [(46, 46)]), .inr (false, [(1, 1)]), .inr (false, [(9, 9)])], kch480, [], [([], some (.inr (false, [(-9, -9)])), kch481), ([], some (.inr (false, [(-1, 63)])), [])])
/-- MiceRegisters.readMouse -/
def kcc726 : ak_C := (19, [.inl 0, .inl 12, .inr (false, [(-1, 60)]), .inr (false, [(44, 44)])], kch45, [24, 29, 30, 31], [([], some (.inr (false, [(-1, 63)])), kch37), ([], some (.inr (false, [(-9, -9)])), kch39)])
theorem kck726 : ai_chk [kcc28, kcc724, kcc725] kcc726 (fun pc => sm_ch sm_t19 pc, sm_Kn 2 6 none, fun x => sm_lk sm_ca2 x, some .int) [24, 29, 30, 31] 6 0 [] [] 2000 [] = true := by decide +kernel
/-- MiceRegisters.readLine -/
def kcc727 : ak_C := (17, [.inl 0, .inl 13, .inr (false, [(-1, 60)]), .inr (false, [(44, 44)])], kch46, [24, 25, 26], [([[], [], [], []], some (.inr (false, [(-1, 60)])), kch26), ([[], [], [(1, 60)], []], some (.inr (false, [(-9, -9)])), kch28)])
theorem kck727 : ai_chk [kcc37] kcc727 (fun pc => sm_ch sm_t17 pc, sm_Kn 2 6 none, fun x => sm_lk sm_ca2 x, some .int) [24, 25, 26] 6 4 [29] [] 2000 [(29, [(0, .inl 0), (1, .inl 13), (2, .inr (false, [(-1, 60)])), (3, .inr (false, [(44, 44)])), (4, .inr (false, [(45, 45)]))], [], kch47),
  (29, [(0, .inl 0), (1, .inl 13), (2, .inr (false, [(1, 60)])), (3, .inr (false, [(44, 44)])), (4, .inr (false, [(46, 46)])), (5, .inr (false, [(-9, -9)]))], [], kch47),
  (29, [(0, .inl 0), (1, .inl 13), (2, .inr (false, [(1, 60)])), (3, .inr (false, [(44, 44)])), (4, .inr (false, [(47, 47)])), (5, .inr (false, [(-9, -9)]))], [], kch47),
  (29, [(0, .inl 0), (1, .inl 13), (2, .inr (false, [(1, 60)])), (3, .inr (false, [(44, 44)])), (4, .inr (false, [(48, 48)])), (5, .inr (false, [(-9, -9)]))], [], kch47)] = true := by decide +kernel
def kch482 : aw_H := [(13, kcx476)]
/-- MiceRegisters.faultOfFigure -/
def kcc728 : ak_C := (18, [.inl 13, .inr (false, [(-1, 60)]), .inr (false, [(45, 45)]), .inr (false, [(0, 0)]), .inr (false, [(0, 7)])], kch22, [], [([], some (.inr (false, [(-9, -9)])), kch482), ([], some (.inr (false, [(-1, 63)])), [])])
def kch483 : aw_H := [(13, kcx478)]
/-- MiceRegisters.faultOfFigure -/
def kcc729 : ak_C := (18, [.inl 13, .inr (false, [(-1, 60)]), .inr (false, [(46, 46)]), .inr (false, [(1, 1)]), .inr (false, [(9, 9)])], kch482, [], [([], some (.inr (false, [(-9, -9)])), kch483), ([], some (.inr (false, [(-1, 63)])), [])])
/-- MiceRegisters.readMouse -/
def kcc730 : ak_C := (19, [.inl 0, .inl 13, .inr (false, [(-1, 60)]), .inr (false, [(44, 44)])], kch50, [24, 29, 30, 31], [([], some (.inr (false, [(-1, 63)])), kch37), ([], some (.inr (false, [(-9, -9)])), kch39)])
theorem kck730 : ai_chk [kcc28, kcc728, kcc729] kcc730 (fun pc => sm_ch sm_t19 pc, sm_Kn 2 6 none, fun x => sm_lk sm_ca2 x, some .int) [24, 29, 30, 31] 6 0 [] [] 2000 [] = true := by decide +kernel
/-- MiceRegisters.readLine -/
def kcc731 : ak_C := (17, [.inl 0, .inl 14, .inr (false, [(-1, 60)]), .inr (false, [(44, 44)])], kch51, [24, 25, 26], [([[], [], [], []], some (.inr (false, [(-1, 60)])), kch26), ([[], [], [(1, 60)], []], some (.inr (false, [(-9, -9)])), kch28)])
theorem kck731 : ai_chk [kcc42] kcc731 (fun pc => sm_ch sm_t17 pc, sm_Kn 2 6 none, fun x => sm_lk sm_ca2 x, some .int) [24, 25, 26] 6 4 [29] [] 2000 [(29, [(0, .inl 0), (1, .inl 14), (2, .inr (false, [(-1, 60)])), (3, .inr (false, [(44, 44)])), (4, .inr (false, [(45, 45)]))], [], kch52),
  (29, [(0, .inl 0), (1, .inl 14), (2, .inr (false, [(1, 60)])), (3, .inr (false, [(44, 44)])), (4, .inr (false, [(46, 46)])), (5, .inr (false, [(-9, -9)]))], [], kch52),
  (29, [(0, .inl 0), (1, .inl 14), (2, .inr (false, [(1, 60)])), (3, .inr (false, [(44, 44)])), (4, .inr (false, [(47, 47)])), (5, .inr (false, [(-9, -9)]))], [], kch52),
  (29, [(0, .inl 0), (1, .inl 14), (2, .inr (false, [(1, 60)])), (3, .inr (false, [(44, 44)])), (4, .inr (false, [(48, 48)])), (5, .inr (false, [(-9, -9)]))], [], kch52)] = true := by decide +kernel
def kch484 : aw_H := [(14, kcx476)]
/-- MiceRegisters.faultOfFigure -/
def kcc732 : ak_C := (18, [.inl 14, .inr (false, [(-1, 60)]), .inr (false, [(45, 45)]), .inr (false, [(0, 0)]), .inr (false, [(0, 7)])], kch21, [], [([], some (.inr (false, [(-9, -9)])), kch484), ([], some (.inr (false, [(-1, 63)])), [])])
def kch485 : aw_H := [(14, kcx478)]
/-- MiceRegisters.faultOfFigure -/
def kcc733 : ak_C := (18, [.inl 14, .inr (false, [(-1, 60)]), .inr (false, [(46, 46)]), .inr (false, [(1, 1)]), .inr (false, [(9, 9)])], kch484, [], [([], some (.inr (false, [(-9, -9)])), kch485), ([], some (.inr (false, [(-1, 63)])), [])])
/-- MiceRegisters.readMouse -/
def kcc734 : ak_C := (19, [.inl 0, .inl 14, .inr (false, [(-1, 60)]), .inr (false, [(44, 44)])], kch55, [24, 29, 30, 31], [([], some (.inr (false, [(-1, 63)])), kch37), ([], some (.inr (false, [(-9, -9)])), kch39)])
theorem kck734 : ai_chk [kcc28, kcc732, kcc733] kcc734 (fun pc => sm_ch sm_t19 pc, sm_Kn 2 6 none, fun x => sm_lk sm_ca2 x, some .int) [24, 29, 30, 31] 6 0 [] [] 2000 [] = true := by decide +kernel
/-- MiceRegisters.readLine -/
def kcc735 : ak_C := (17, [.inl 0, .inl 11, .inr (false, [(-1, 60)]), .inr (false, [(45, 45)])], kch29, [24, 25, 26], [([[], [], [], []], some (.inr (false, [(-1, 60)])), kch26), ([[], [], [(1, 60)], []], some (.inr (false, [(-9, -9)])), kch28)])
theorem kck735 : ai_chk [kcc26] kcc735 (fun pc => sm_ch sm_t17 pc, sm_Kn 2 6 none, fun x => sm_lk sm_ca2 x, some .int) [24, 25, 26] 6 4 [29] [] 2000 [(29, [(0, .inl 0), (1, .inl 11), (2, .inr (false, [(-1, 60)])), (3, .inr (false, [(45, 45)])), (4, .inr (false, [(46, 46)]))], [], kch31),
  (29, [(0, .inl 0), (1, .inl 11), (2, .inr (false, [(1, 60)])), (3, .inr (false, [(45, 45)])), (4, .inr (false, [(47, 47)])), (5, .inr (false, [(-9, -9)]))], [], kch31),
  (29, [(0, .inl 0), (1, .inl 11), (2, .inr (false, [(1, 60)])), (3, .inr (false, [(45, 45)])), (4, .inr (false, [(48, 48)])), (5, .inr (false, [(-9, -9)]))], [], kch31),
  (29, [(0, .inl 0), (1, .inl 11), (2, .inr (false, [(1, 60)])), (3, .inr (false, [(45, 45)])), (4, .inr (false, [(49, 49)])), (5, .inr (false, [(-9, -9)]))], [], kch31)] = true := by decide +kernel
def kcx486 : aw_A := .inr (.inl (1, 60, [], [(46, [(48, 55)])]))
def kch487 : aw_H := [(11, kcx486)]
/-- MiceRegisters.faultOfFigure -/
def kcc736 : ak_C := (18, [.inl 11, .inr (false, [(-1, 60)]), .inr (false, [(46, 46)]), .inr (false, [(0, 0)]), .inr (false, [(0, 7)])], kch24, [], [([], some (.inr (false, [(-9, -9)])), kch487), ([], some (.inr (false, [(-1, 63)])), [])])
def kcx488 : aw_A := .inr (.inl (1, 60, [], [(47, [(49, 57)]), (46, [(48, 55)])]))
def kch489 : aw_H := [(11, kcx488)]
/-- MiceRegisters.faultOfFigure -/
def kcc737 : ak_C := (18, [.inl 11, .inr (false, [(-1, 60)]), .inr (false, [(47, 47)]), .inr (false, [(1, 1)]), .inr (false, [(9, 9)])], kch487, [], [([], some (.inr (false, [(-9, -9)])), kch489), ([], some (.inr (false, [(-1, 63)])), [])])
/-- MiceRegisters.readMouse -/
def kcc738 : ak_C := (19, [.inl 0, .inl 11, .inr (false, [(-1, 60)]), .inr (false, [(45, 45)])], kch40, [24, 29, 30, 31], [([], some (.inr (false, [(-1, 63)])), kch37), ([], some (.inr (false, [(-9, -9)])), kch39)])
theorem kck738 : ai_chk [kcc28, kcc736, kcc737] kcc738 (fun pc => sm_ch sm_t19 pc, sm_Kn 2 6 none, fun x => sm_lk sm_ca2 x, some .int) [24, 29, 30, 31] 6 0 [] [] 2000 [] = true := by decide +kernel
/-- MiceRegisters.readLine -/
def kcc739 : ak_C := (17, [.inl 0, .inl 12, .inr (false, [(-1, 60)]), .inr (false, [(45, 45)])], kch41, [24, 25, 26], [([[], [], [], []], some (.inr (false, [(-1, 60)])), kch26), ([[], [], [(1, 60)], []], some (.inr (false, [(-9, -9)])), kch28)])
theorem kck739 : ai_chk [kcc32] kcc739 (fun pc => sm_ch sm_t17 pc, sm_Kn 2 6 none, fun x => sm_lk sm_ca2 x, some .int) [24, 25, 26] 6 4 [29] [] 2000 [(29, [(0, .inl 0), (1, .inl 12), (2, .inr (false, [(-1, 60)])), (3, .inr (false, [(45, 45)])), (4, .inr (false, [(46, 46)]))], [], kch42),
  (29, [(0, .inl 0), (1, .inl 12), (2, .inr (false, [(1, 60)])), (3, .inr (false, [(45, 45)])), (4, .inr (false, [(47, 47)])), (5, .inr (false, [(-9, -9)]))], [], kch42),
  (29, [(0, .inl 0), (1, .inl 12), (2, .inr (false, [(1, 60)])), (3, .inr (false, [(45, 45)])), (4, .inr (false, [(48, 48)])), (5, .inr (false, [(-9, -9)]))], [], kch42),
  (29, [(0, .inl 0), (1, .inl 12), (2, .inr (false, [(1, 60)])), (3, .inr (false, [(45, 45)])), (4, .inr (false, [(49, 49)])), (5, .inr (false, [(-9, -9)]))], [], kch42)] = true := by decide +kernel
def kch490 : aw_H := [(12, kcx486)]
/-- MiceRegisters.faultOfFigure -/
def kcc740 : ak_C := (18, [.inl 12, .inr (false, [(-1, 60)]), .inr (false, [(46, 46)]), .inr (false, [(0, 0)]), .inr (false, [(0, 7)])], kch23, [], [([], some (.inr (false, [(-9, -9)])), kch490), ([], some (.inr (false, [(-1, 63)])), [])])
def kch491 : aw_H := [(12, kcx488)]
/-- MiceRegisters.faultOfFigure -/
def kcc741 : ak_C := (18, [.inl 12, .inr (false, [(-1, 60)]), .inr (false, [(47, 47)]), .inr (false, [(1, 1)]), .inr (false, [(9, 9)])], kch490, [], [([], some (.inr (false, [(-9, -9)])), kch491), ([], some (.inr (false, [(-1, 63)])), [])])
/-- MiceRegisters.readMouse -/
def kcc742 : ak_C := (19, [.inl 0, .inl 12, .inr (false, [(-1, 60)]), .inr (false, [(45, 45)])], kch45, [24, 29, 30, 31], [([], some (.inr (false, [(-1, 63)])), kch37), ([], some (.inr (false, [(-9, -9)])), kch39)])
theorem kck742 : ai_chk [kcc28, kcc740, kcc741] kcc742 (fun pc => sm_ch sm_t19 pc, sm_Kn 2 6 none, fun x => sm_lk sm_ca2 x, some .int) [24, 29, 30, 31] 6 0 [] [] 2000 [] = true := by decide +kernel
/-- MiceRegisters.readLine -/
def kcc743 : ak_C := (17, [.inl 0, .inl 13, .inr (false, [(-1, 60)]), .inr (false, [(45, 45)])], kch46, [24, 25, 26], [([[], [], [], []], some (.inr (false, [(-1, 60)])), kch26), ([[], [], [(1, 60)], []], some (.inr (false, [(-9, -9)])), kch28)])
theorem kck743 : ai_chk [kcc37] kcc743 (fun pc => sm_ch sm_t17 pc, sm_Kn 2 6 none, fun x => sm_lk sm_ca2 x, some .int) [24, 25, 26] 6 4 [29] [] 2000 [(29, [(0, .inl 0), (1, .inl 13), (2, .inr (false, [(-1, 60)])), (3, .inr (false, [(45, 45)])), (4, .inr (false, [(46, 46)]))], [], kch47),
  (29, [(0, .inl 0), (1, .inl 13), (2, .inr (false, [(1, 60)])), (3, .inr (false, [(45, 45)])), (4, .inr (false, [(47, 47)])), (5, .inr (false, [(-9, -9)]))], [], kch47),
  (29, [(0, .inl 0), (1, .inl 13), (2, .inr (false, [(1, 60)])), (3, .inr (false, [(45, 45)])), (4, .inr (false, [(48, 48)])), (5, .inr (false, [(-9, -9)]))], [], kch47),
  (29, [(0, .inl 0), (1, .inl 13), (2, .inr (false, [(1, 60)])), (3, .inr (false, [(45, 45)])), (4, .inr (false, [(49, 49)])), (5, .inr (false, [(-9, -9)]))], [], kch47)] = true := by decide +kernel
def kch492 : aw_H := [(13, kcx486)]
/-- MiceRegisters.faultOfFigure -/
def kcc744 : ak_C := (18, [.inl 13, .inr (false, [(-1, 60)]), .inr (false, [(46, 46)]), .inr (false, [(0, 0)]), .inr (false, [(0, 7)])], kch22, [], [([], some (.inr (false, [(-9, -9)])), kch492), ([], some (.inr (false, [(-1, 63)])), [])])
def kch493 : aw_H := [(13, kcx488)]
/-- MiceRegisters.faultOfFigure -/
def kcc745 : ak_C := (18, [.inl 13, .inr (false, [(-1, 60)]), .inr (false, [(47, 47)]), .inr (false, [(1, 1)]), .inr (false, [(9, 9)])], kch492, [], [([], some (.inr (false, [(-9, -9)])), kch493), ([], some (.inr (false, [(-1, 63)])), [])])
/-- MiceRegisters.readMouse -/
def kcc746 : ak_C := (19, [.inl 0, .inl 13, .inr (false, [(-1, 60)]), .inr (false, [(45, 45)])], kch50, [24, 29, 30, 31], [([], some (.inr (false, [(-1, 63)])), kch37), ([], some (.inr (false, [(-9, -9)])), kch39)])
theorem kck746 : ai_chk [kcc28, kcc744, kcc745] kcc746 (fun pc => sm_ch sm_t19 pc, sm_Kn 2 6 none, fun x => sm_lk sm_ca2 x, some .int) [24, 29, 30, 31] 6 0 [] [] 2000 [] = true := by decide +kernel
/-- MiceRegisters.readLine -/
def kcc747 : ak_C := (17, [.inl 0, .inl 14, .inr (false, [(-1, 60)]), .inr (false, [(45, 45)])], kch51, [24, 25, 26], [([[], [], [], []], some (.inr (false, [(-1, 60)])), kch26), ([[], [], [(1, 60)], []], some (.inr (false, [(-9, -9)])), kch28)])
theorem kck747 : ai_chk [kcc42] kcc747 (fun pc => sm_ch sm_t17 pc, sm_Kn 2 6 none, fun x => sm_lk sm_ca2 x, some .int) [24, 25, 26] 6 4 [29] [] 2000 [(29, [(0, .inl 0), (1, .inl 14), (2, .inr (false, [(-1, 60)])), (3, .inr (false, [(45, 45)])), (4, .inr (false, [(46, 46)]))], [], kch52),
  (29, [(0, .inl 0), (1, .inl 14), (2, .inr (false, [(1, 60)])), (3, .inr (false, [(45, 45)])), (4, .inr (false, [(47, 47)])), (5, .inr (false, [(-9, -9)]))], [], kch52),
  (29, [(0, .inl 0), (1, .inl 14), (2, .inr (false, [(1, 60)])), (3, .inr (false, [(45, 45)])), (4, .inr (false, [(48, 48)])), (5, .inr (false, [(-9, -9)]))], [], kch52),
  (29, [(0, .inl 0), (1, .inl 14), (2, .inr (false, [(1, 60)])), (3, .inr (false, [(45, 45)])), (4, .inr (false, [(49, 49)])), (5, .inr (false, [(-9, -9)]))], [], kch52)] = true := by decide +kernel
def kch494 : aw_H := [(14, kcx486)]
/-- MiceRegisters.faultOfFigure -/
def kcc748 : ak_C := (18, [.inl 14, .inr (false, [(-1, 60)]), .inr (false, [(46, 46)]), .inr (false, [(0, 0)]), .inr (false, [(0, 7)])], kch21, [], [([], some (.inr (false, [(-9, -9)])), kch494), ([], some (.inr (false, [(-1, 63)])), [])])
def kch495 : aw_H := [(14, kcx488)]
/-- MiceRegisters.faultOfFigure -/
def kcc749 : ak_C := (18, [.inl 14, .inr (false, [(-1, 60)]), .inr (false, [(47, 47)]), .inr (false, [(1, 1)]), .inr (false, [(9, 9)])], kch494, [], [([], some (.inr (false, [(-9, -9)])), kch495), ([], some (.inr (false, [(-1, 63)])), [])])
/-- MiceRegisters.readMouse -/
def kcc750 : ak_C := (19, [.inl 0, .inl 14, .inr (false, [(-1, 60)]), .inr (false, [(45, 45)])], kch55, [24, 29, 30, 31], [([], some (.inr (false, [(-1, 63)])), kch37), ([], some (.inr (false, [(-9, -9)])), kch39)])
theorem kck750 : ai_chk [kcc28, kcc748, kcc749] kcc750 (fun pc => sm_ch sm_t19 pc, sm_Kn 2 6 none, fun x => sm_lk sm_ca2 x, some .int) [24, 29, 30, 31] 6 0 [] [] 2000 [] = true := by decide +kernel
/-- MiceRegisters.readLine -/
def kcc751 : ak_C := (17, [.inl 0, .inl 11, .inr (false, [(-1, 60)]), .inr (false, [(46, 46)])], kch29, [24, 25, 26], [([[], [], [], []], some (.inr (false, [(-1, 60)])), kch26), ([[], [], [(1, 60)], []], some (.inr (false, [(-9, -9)])), kch28)])
theorem kck751 : ai_chk [kcc26] kcc751 (fun pc => sm_ch sm_t17 pc, sm_Kn 2 6 none, fun x => sm_lk sm_ca2 x, some .int) [24, 25, 26] 6 4 [29] [] 2000 [(29, [(0, .inl 0), (1, .inl 11), (2, .inr (false, [(-1, 60)])), (3, .inr (false, [(46, 46)])), (4, .inr (false, [(47, 47)]))], [], kch31),
  (29, [(0, .inl 0), (1, .inl 11), (2, .inr (false, [(1, 60)])), (3, .inr (false, [(46, 46)])), (4, .inr (false, [(48, 48)])), (5, .inr (false, [(-9, -9)]))], [], kch31),
  (29, [(0, .inl 0), (1, .inl 11), (2, .inr (false, [(1, 60)])), (3, .inr (false, [(46, 46)])), (4, .inr (false, [(49, 49)])), (5, .inr (false, [(-9, -9)]))], [], kch31),
  (29, [(0, .inl 0), (1, .inl 11), (2, .inr (false, [(1, 60)])), (3, .inr (false, [(46, 46)])), (4, .inr (false, [(50, 50)])), (5, .inr (false, [(-9, -9)]))], [], kch31)] = true := by decide +kernel
def kcx496 : aw_A := .inr (.inl (1, 60, [], [(47, [(48, 55)])]))
def kch497 : aw_H := [(11, kcx496)]
/-- MiceRegisters.faultOfFigure -/
def kcc752 : ak_C := (18, [.inl 11, .inr (false, [(-1, 60)]), .inr (false, [(47, 47)]), .inr (false, [(0, 0)]), .inr (false, [(0, 7)])], kch24, [], [([], some (.inr (false, [(-9, -9)])), kch497), ([], some (.inr (false, [(-1, 63)])), [])])
def kcx498 : aw_A := .inr (.inl (1, 60, [], [(48, [(49, 57)]), (47, [(48, 55)])]))
def kch499 : aw_H := [(11, kcx498)]
/-- MiceRegisters.faultOfFigure -/
def kcc753 : ak_C := (18, [.inl 11, .inr (false, [(-1, 60)]), .inr (false, [(48, 48)]), .inr (false, [(1, 1)]), .inr (false, [(9, 9)])], kch497, [], [([], some (.inr (false, [(-9, -9)])), kch499), ([], some (.inr (false, [(-1, 63)])), [])])
/-- MiceRegisters.readMouse -/
def kcc754 : ak_C := (19, [.inl 0, .inl 11, .inr (false, [(-1, 60)]), .inr (false, [(46, 46)])], kch40, [24, 29, 30, 31], [([], some (.inr (false, [(-1, 63)])), kch37), ([], some (.inr (false, [(-9, -9)])), kch39)])
theorem kck754 : ai_chk [kcc28, kcc752, kcc753] kcc754 (fun pc => sm_ch sm_t19 pc, sm_Kn 2 6 none, fun x => sm_lk sm_ca2 x, some .int) [24, 29, 30, 31] 6 0 [] [] 2000 [] = true := by decide +kernel
/-- MiceRegisters.readLine -/
def kcc755 : ak_C := (17, [.inl 0, .inl 12, .inr (false, [(-1, 60)]), .inr (false, [(46, 46)])], kch41, [24, 25, 26], [([[], [], [], []], some (.inr (false, [(-1, 60)])), kch26), ([[], [], [(1, 60)], []], some (.inr (false, [(-9, -9)])), kch28)])
theorem kck755 : ai_chk [kcc32] kcc755 (fun pc => sm_ch sm_t17 pc, sm_Kn 2 6 none, fun x => sm_lk sm_ca2 x, some .int) [24, 25, 26] 6 4 [29] [] 2000 [(29, [(0, .inl 0), (1, .inl 12), (2, .inr (false, [(-1, 60)])), (3, .inr (false, [(46, 46)])), (4, .inr (false, [(47, 47)]))], [], kch42),
  (29, [(0, .inl 0), (1, .inl 12), (2, .inr (false, [(1, 60)])), (3, .inr (false, [(46, 46)])), (4, .inr (false, [(48, 48)])), (5, .inr (false, [(-9, -9)]))], [], kch42),
  (29, [(0, .inl 0), (1, .inl 12), (2, .inr (false, [(1, 60)])), (3, .inr (false, [(46, 46)])), (4, .inr (false, [(49, 49)])), (5, .inr (false, [(-9, -9)]))], [], kch42),
  (29, [(0, .inl 0), (1, .inl 12), (2, .inr (false, [(1, 60)])), (3, .inr (false, [(46, 46)])), (4, .inr (false, [(50, 50)])), (5, .inr (false, [(-9, -9)]))], [], kch42)] = true := by decide +kernel
def kch500 : aw_H := [(12, kcx496)]
/-- MiceRegisters.faultOfFigure -/
def kcc756 : ak_C := (18, [.inl 12, .inr (false, [(-1, 60)]), .inr (false, [(47, 47)]), .inr (false, [(0, 0)]), .inr (false, [(0, 7)])], kch23, [], [([], some (.inr (false, [(-9, -9)])), kch500), ([], some (.inr (false, [(-1, 63)])), [])])
def kch501 : aw_H := [(12, kcx498)]
/-- MiceRegisters.faultOfFigure -/
def kcc757 : ak_C := (18, [.inl 12, .inr (false, [(-1, 60)]), .inr (false, [(48, 48)]), .inr (false, [(1, 1)]), .inr (false, [(9, 9)])], kch500, [], [([], some (.inr (false, [(-9, -9)])), kch501), ([], some (.inr (false, [(-1, 63)])), [])])
/-- MiceRegisters.readMouse -/
def kcc758 : ak_C := (19, [.inl 0, .inl 12, .inr (false, [(-1, 60)]), .inr (false, [(46, 46)])], kch45, [24, 29, 30, 31], [([], some (.inr (false, [(-1, 63)])), kch37), ([], some (.inr (false, [(-9, -9)])), kch39)])
theorem kck758 : ai_chk [kcc28, kcc756, kcc757] kcc758 (fun pc => sm_ch sm_t19 pc, sm_Kn 2 6 none, fun x => sm_lk sm_ca2 x, some .int) [24, 29, 30, 31] 6 0 [] [] 2000 [] = true := by decide +kernel
/-- MiceRegisters.readLine -/
def kcc759 : ak_C := (17, [.inl 0, .inl 13, .inr (false, [(-1, 60)]), .inr (false, [(46, 46)])], kch46, [24, 25, 26], [([[], [], [], []], some (.inr (false, [(-1, 60)])), kch26), ([[], [], [(1, 60)], []], some (.inr (false, [(-9, -9)])), kch28)])
theorem kck759 : ai_chk [kcc37] kcc759 (fun pc => sm_ch sm_t17 pc, sm_Kn 2 6 none, fun x => sm_lk sm_ca2 x, some .int) [24, 25, 26] 6 4 [29] [] 2000 [(29, [(0, .inl 0), (1, .inl 13), (2, .inr (false, [(-1, 60)])), (3, .inr (false, [(46, 46)])), (4, .inr (false, [(47, 47)]))], [], kch47),
  (29, [(0, .inl 0), (1, .inl 13), (2, .inr (false, [(1, 60)])), (3, .inr (false, [(46, 46)])), (4, .inr (false, [(48, 48)])), (5, .inr (false, [(-9, -9)]))], [], kch47),
  (29, [(0, .inl 0), (1, .inl 13), (2, .inr (false, [(1, 60)])), (3, .inr (false, [(46, 46)])), (4, .inr (false, [(49, 49)])), (5, .inr (false, [(-9, -9)]))], [], kch47),
  (29, [(0, .inl 0), (1, .inl 13), (2, .inr (false, [(1, 60)])), (3, .inr (false, [(46, 46)])), (4, .inr (false, [(50, 50)])), (5, .inr (false, [(-9, -9)]))], [], kch47)] = true := by decide +kernel
def kch502 : aw_H := [(13, kcx496)]
/-- MiceRegisters.faultOfFigure -/
def kcc760 : ak_C := (18, [.inl 13, .inr (false, [(-1, 60)]), .inr (false, [(47, 47)]), .inr (false, [(0, 0)]), .inr (false, [(0, 7)])], kch22, [], [([], some (.inr (false, [(-9, -9)])), kch502), ([], some (.inr (false, [(-1, 63)])), [])])
def kch503 : aw_H := [(13, kcx498)]
/-- MiceRegisters.faultOfFigure -/
def kcc761 : ak_C := (18, [.inl 13, .inr (false, [(-1, 60)]), .inr (false, [(48, 48)]), .inr (false, [(1, 1)]), .inr (false, [(9, 9)])], kch502, [], [([], some (.inr (false, [(-9, -9)])), kch503), ([], some (.inr (false, [(-1, 63)])), [])])
/-- MiceRegisters.readMouse -/
def kcc762 : ak_C := (19, [.inl 0, .inl 13, .inr (false, [(-1, 60)]), .inr (false, [(46, 46)])], kch50, [24, 29, 30, 31], [([], some (.inr (false, [(-1, 63)])), kch37), ([], some (.inr (false, [(-9, -9)])), kch39)])
theorem kck762 : ai_chk [kcc28, kcc760, kcc761] kcc762 (fun pc => sm_ch sm_t19 pc, sm_Kn 2 6 none, fun x => sm_lk sm_ca2 x, some .int) [24, 29, 30, 31] 6 0 [] [] 2000 [] = true := by decide +kernel
/-- MiceRegisters.readLine -/
def kcc763 : ak_C := (17, [.inl 0, .inl 14, .inr (false, [(-1, 60)]), .inr (false, [(46, 46)])], kch51, [24, 25, 26], [([[], [], [], []], some (.inr (false, [(-1, 60)])), kch26), ([[], [], [(1, 60)], []], some (.inr (false, [(-9, -9)])), kch28)])
theorem kck763 : ai_chk [kcc42] kcc763 (fun pc => sm_ch sm_t17 pc, sm_Kn 2 6 none, fun x => sm_lk sm_ca2 x, some .int) [24, 25, 26] 6 4 [29] [] 2000 [(29, [(0, .inl 0), (1, .inl 14), (2, .inr (false, [(-1, 60)])), (3, .inr (false, [(46, 46)])), (4, .inr (false, [(47, 47)]))], [], kch52),
  (29, [(0, .inl 0), (1, .inl 14), (2, .inr (false, [(1, 60)])), (3, .inr (false, [(46, 46)])), (4, .inr (false, [(48, 48)])), (5, .inr (false, [(-9, -9)]))], [], kch52),
  (29, [(0, .inl 0), (1, .inl 14), (2, .inr (false, [(1, 60)])), (3, .inr (false, [(46, 46)])), (4, .inr (false, [(49, 49)])), (5, .inr (false, [(-9, -9)]))], [], kch52),
  (29, [(0, .inl 0), (1, .inl 14), (2, .inr (false, [(1, 60)])), (3, .inr (false, [(46, 46)])), (4, .inr (false, [(50, 50)])), (5, .inr (false, [(-9, -9)]))], [], kch52)] = true := by decide +kernel
def kch504 : aw_H := [(14, kcx496)]
/-- MiceRegisters.faultOfFigure -/
def kcc764 : ak_C := (18, [.inl 14, .inr (false, [(-1, 60)]), .inr (false, [(47, 47)]), .inr (false, [(0, 0)]), .inr (false, [(0, 7)])], kch21, [], [([], some (.inr (false, [(-9, -9)])), kch504), ([], some (.inr (false, [(-1, 63)])), [])])
def kch505 : aw_H := [(14, kcx498)]
/-- MiceRegisters.faultOfFigure -/
def kcc765 : ak_C := (18, [.inl 14, .inr (false, [(-1, 60)]), .inr (false, [(48, 48)]), .inr (false, [(1, 1)]), .inr (false, [(9, 9)])], kch504, [], [([], some (.inr (false, [(-9, -9)])), kch505), ([], some (.inr (false, [(-1, 63)])), [])])
/-- MiceRegisters.readMouse -/
def kcc766 : ak_C := (19, [.inl 0, .inl 14, .inr (false, [(-1, 60)]), .inr (false, [(46, 46)])], kch55, [24, 29, 30, 31], [([], some (.inr (false, [(-1, 63)])), kch37), ([], some (.inr (false, [(-9, -9)])), kch39)])
theorem kck766 : ai_chk [kcc28, kcc764, kcc765] kcc766 (fun pc => sm_ch sm_t19 pc, sm_Kn 2 6 none, fun x => sm_lk sm_ca2 x, some .int) [24, 29, 30, 31] 6 0 [] [] 2000 [] = true := by decide +kernel
/-- MiceRegisters.readLine -/
def kcc767 : ak_C := (17, [.inl 0, .inl 11, .inr (false, [(-1, 60)]), .inr (false, [(47, 47)])], kch29, [24, 25, 26], [([[], [], [], []], some (.inr (false, [(-1, 60)])), kch26), ([[], [], [(1, 60)], []], some (.inr (false, [(-9, -9)])), kch28)])
theorem kck767 : ai_chk [kcc26] kcc767 (fun pc => sm_ch sm_t17 pc, sm_Kn 2 6 none, fun x => sm_lk sm_ca2 x, some .int) [24, 25, 26] 6 4 [29] [] 2000 [(29, [(0, .inl 0), (1, .inl 11), (2, .inr (false, [(-1, 60)])), (3, .inr (false, [(47, 47)])), (4, .inr (false, [(48, 48)]))], [], kch31),
  (29, [(0, .inl 0), (1, .inl 11), (2, .inr (false, [(1, 60)])), (3, .inr (false, [(47, 47)])), (4, .inr (false, [(49, 49)])), (5, .inr (false, [(-9, -9)]))], [], kch31),
  (29, [(0, .inl 0), (1, .inl 11), (2, .inr (false, [(1, 60)])), (3, .inr (false, [(47, 47)])), (4, .inr (false, [(50, 50)])), (5, .inr (false, [(-9, -9)]))], [], kch31),
  (29, [(0, .inl 0), (1, .inl 11), (2, .inr (false, [(1, 60)])), (3, .inr (false, [(47, 47)])), (4, .inr (false, [(51, 51)])), (5, .inr (false, [(-9, -9)]))], [], kch31)] = true := by decide +kernel
def kcx506 : aw_A := .inr (.inl (1, 60, [], [(48, [(48, 55)])]))
def kch507 : aw_H := [(11, kcx506)]
/-- MiceRegisters.faultOfFigure -/
def kcc768 : ak_C := (18, [.inl 11, .inr (false, [(-1, 60)]), .inr (false, [(48, 48)]), .inr (false, [(0, 0)]), .inr (false, [(0, 7)])], kch24, [], [([], some (.inr (false, [(-9, -9)])), kch507), ([], some (.inr (false, [(-1, 63)])), [])])
def kcx508 : aw_A := .inr (.inl (1, 60, [], [(49, [(49, 57)]), (48, [(48, 55)])]))
def kch509 : aw_H := [(11, kcx508)]
/-- MiceRegisters.faultOfFigure -/
def kcc769 : ak_C := (18, [.inl 11, .inr (false, [(-1, 60)]), .inr (false, [(49, 49)]), .inr (false, [(1, 1)]), .inr (false, [(9, 9)])], kch507, [], [([], some (.inr (false, [(-9, -9)])), kch509), ([], some (.inr (false, [(-1, 63)])), [])])
/-- MiceRegisters.readMouse -/
def kcc770 : ak_C := (19, [.inl 0, .inl 11, .inr (false, [(-1, 60)]), .inr (false, [(47, 47)])], kch40, [24, 29, 30, 31], [([], some (.inr (false, [(-1, 63)])), kch37), ([], some (.inr (false, [(-9, -9)])), kch39)])
theorem kck770 : ai_chk [kcc28, kcc768, kcc769] kcc770 (fun pc => sm_ch sm_t19 pc, sm_Kn 2 6 none, fun x => sm_lk sm_ca2 x, some .int) [24, 29, 30, 31] 6 0 [] [] 2000 [] = true := by decide +kernel
/-- MiceRegisters.readLine -/
def kcc771 : ak_C := (17, [.inl 0, .inl 12, .inr (false, [(-1, 60)]), .inr (false, [(47, 47)])], kch41, [24, 25, 26], [([[], [], [], []], some (.inr (false, [(-1, 60)])), kch26), ([[], [], [(1, 60)], []], some (.inr (false, [(-9, -9)])), kch28)])
theorem kck771 : ai_chk [kcc32] kcc771 (fun pc => sm_ch sm_t17 pc, sm_Kn 2 6 none, fun x => sm_lk sm_ca2 x, some .int) [24, 25, 26] 6 4 [29] [] 2000 [(29, [(0, .inl 0), (1, .inl 12), (2, .inr (false, [(-1, 60)])), (3, .inr (false, [(47, 47)])), (4, .inr (false, [(48, 48)]))], [], kch42),
  (29, [(0, .inl 0), (1, .inl 12), (2, .inr (false, [(1, 60)])), (3, .inr (false, [(47, 47)])), (4, .inr (false, [(49, 49)])), (5, .inr (false, [(-9, -9)]))], [], kch42),
  (29, [(0, .inl 0), (1, .inl 12), (2, .inr (false, [(1, 60)])), (3, .inr (false, [(47, 47)])), (4, .inr (false, [(50, 50)])), (5, .inr (false, [(-9, -9)]))], [], kch42),
  (29, [(0, .inl 0), (1, .inl 12), (2, .inr (false, [(1, 60)])), (3, .inr (false, [(47, 47)])), (4, .inr (false, [(51, 51)])), (5, .inr (false, [(-9, -9)]))], [], kch42)] = true := by decide +kernel
def kch510 : aw_H := [(12, kcx506)]
/-- MiceRegisters.faultOfFigure -/
def kcc772 : ak_C := (18, [.inl 12, .inr (false, [(-1, 60)]), .inr (false, [(48, 48)]), .inr (false, [(0, 0)]), .inr (false, [(0, 7)])], kch23, [], [([], some (.inr (false, [(-9, -9)])), kch510), ([], some (.inr (false, [(-1, 63)])), [])])
def kch511 : aw_H := [(12, kcx508)]
/-- MiceRegisters.faultOfFigure -/
def kcc773 : ak_C := (18, [.inl 12, .inr (false, [(-1, 60)]), .inr (false, [(49, 49)]), .inr (false, [(1, 1)]), .inr (false, [(9, 9)])], kch510, [], [([], some (.inr (false, [(-9, -9)])), kch511), ([], some (.inr (false, [(-1, 63)])), [])])
/-- MiceRegisters.readMouse -/
def kcc774 : ak_C := (19, [.inl 0, .inl 12, .inr (false, [(-1, 60)]), .inr (false, [(47, 47)])], kch45, [24, 29, 30, 31], [([], some (.inr (false, [(-1, 63)])), kch37), ([], some (.inr (false, [(-9, -9)])), kch39)])
theorem kck774 : ai_chk [kcc28, kcc772, kcc773] kcc774 (fun pc => sm_ch sm_t19 pc, sm_Kn 2 6 none, fun x => sm_lk sm_ca2 x, some .int) [24, 29, 30, 31] 6 0 [] [] 2000 [] = true := by decide +kernel
/-- MiceRegisters.readLine -/
def kcc775 : ak_C := (17, [.inl 0, .inl 13, .inr (false, [(-1, 60)]), .inr (false, [(47, 47)])], kch46, [24, 25, 26], [([[], [], [], []], some (.inr (false, [(-1, 60)])), kch26), ([[], [], [(1, 60)], []], some (.inr (false, [(-9, -9)])), kch28)])
theorem kck775 : ai_chk [kcc37] kcc775 (fun pc => sm_ch sm_t17 pc, sm_Kn 2 6 none, fun x => sm_lk sm_ca2 x, some .int) [24, 25, 26] 6 4 [29] [] 2000 [(29, [(0, .inl 0), (1, .inl 13), (2, .inr (false, [(-1, 60)])), (3, .inr (false, [(47, 47)])), (4, .inr (false, [(48, 48)]))], [], kch47),
  (29, [(0, .inl 0), (1, .inl 13), (2, .inr (false, [(1, 60)])), (3, .inr (false, [(47, 47)])), (4, .inr (false, [(49, 49)])), (5, .inr (false, [(-9, -9)]))], [], kch47),
  (29, [(0, .inl 0), (1, .inl 13), (2, .inr (false, [(1, 60)])), (3, .inr (false, [(47, 47)])), (4, .inr (false, [(50, 50)])), (5, .inr (false, [(-9, -9)]))], [], kch47),
  (29, [(0, .inl 0), (1, .inl 13), (2, .inr (false, [(1, 60)])), (3, .inr (false, [(47, 47)])), (4, .inr (false, [(51, 51)])), (5, .inr (false, [(-9, -9)]))], [], kch47)] = true := by decide +kernel
def kch512 : aw_H := [(13, kcx506)]
/-- MiceRegisters.faultOfFigure -/
def kcc776 : ak_C := (18, [.inl 13, .inr (false, [(-1, 60)]), .inr (false, [(48, 48)]), .inr (false, [(0, 0)]), .inr (false, [(0, 7)])], kch22, [], [([], some (.inr (false, [(-9, -9)])), kch512), ([], some (.inr (false, [(-1, 63)])), [])])
def kch513 : aw_H := [(13, kcx508)]
/-- MiceRegisters.faultOfFigure -/
def kcc777 : ak_C := (18, [.inl 13, .inr (false, [(-1, 60)]), .inr (false, [(49, 49)]), .inr (false, [(1, 1)]), .inr (false, [(9, 9)])], kch512, [], [([], some (.inr (false, [(-9, -9)])), kch513), ([], some (.inr (false, [(-1, 63)])), [])])
/-- MiceRegisters.readMouse -/
def kcc778 : ak_C := (19, [.inl 0, .inl 13, .inr (false, [(-1, 60)]), .inr (false, [(47, 47)])], kch50, [24, 29, 30, 31], [([], some (.inr (false, [(-1, 63)])), kch37), ([], some (.inr (false, [(-9, -9)])), kch39)])
theorem kck778 : ai_chk [kcc28, kcc776, kcc777] kcc778 (fun pc => sm_ch sm_t19 pc, sm_Kn 2 6 none, fun x => sm_lk sm_ca2 x, some .int) [24, 29, 30, 31] 6 0 [] [] 2000 [] = true := by decide +kernel
/-- MiceRegisters.readLine -/
def kcc779 : ak_C := (17, [.inl 0, .inl 14, .inr (false, [(-1, 60)]), .inr (false, [(47, 47)])], kch51, [24, 25, 26], [([[], [], [], []], some (.inr (false, [(-1, 60)])), kch26), ([[], [], [(1, 60)], []], some (.inr (false, [(-9, -9)])), kch28)])
theorem kck779 : ai_chk [kcc42] kcc779 (fun pc => sm_ch sm_t17 pc, sm_Kn 2 6 none, fun x => sm_lk sm_ca2 x, some .int) [24, 25, 26] 6 4 [29] [] 2000 [(29, [(0, .inl 0), (1, .inl 14), (2, .inr (false, [(-1, 60)])), (3, .inr (false, [(47, 47)])), (4, .inr (false, [(48, 48)]))], [], kch52),
  (29, [(0, .inl 0), (1, .inl 14), (2, .inr (false, [(1, 60)])), (3, .inr (false, [(47, 47)])), (4, .inr (false, [(49, 49)])), (5, .inr (false, [(-9, -9)]))], [], kch52),
  (29, [(0, .inl 0), (1, .inl 14), (2, .inr (false, [(1, 60)])), (3, .inr (false, [(47, 47)])), (4, .inr (false, [(50, 50)])), (5, .inr (false, [(-9, -9)]))], [], kch52),
  (29, [(0, .inl 0), (1, .inl 14), (2, .inr (false, [(1, 60)])), (3, .inr (false, [(47, 47)])), (4, .inr (false, [(51, 51)])), (5, .inr (false, [(-9, -9)]))], [], kch52)] = true := by decide +kernel
def kch514 : aw_H := [(14, kcx506)]
/-- MiceRegisters.faultOfFigure -/
def kcc780 : ak_C := (18, [.inl 14, .inr (false, [(-1, 60)]), .inr (false, [(48, 48)]), .inr (false, [(0, 0)]), .inr (false, [(0, 7)])], kch21, [], [([], some (.inr (false, [(-9, -9)])), kch514), ([], some (.inr (false, [(-1, 63)])), [])])
def kch515 : aw_H := [(14, kcx508)]
/-- MiceRegisters.faultOfFigure -/
def kcc781 : ak_C := (18, [.inl 14, .inr (false, [(-1, 60)]), .inr (false, [(49, 49)]), .inr (false, [(1, 1)]), .inr (false, [(9, 9)])], kch514, [], [([], some (.inr (false, [(-9, -9)])), kch515), ([], some (.inr (false, [(-1, 63)])), [])])
/-- MiceRegisters.readMouse -/
def kcc782 : ak_C := (19, [.inl 0, .inl 14, .inr (false, [(-1, 60)]), .inr (false, [(47, 47)])], kch55, [24, 29, 30, 31], [([], some (.inr (false, [(-1, 63)])), kch37), ([], some (.inr (false, [(-9, -9)])), kch39)])
theorem kck782 : ai_chk [kcc28, kcc780, kcc781] kcc782 (fun pc => sm_ch sm_t19 pc, sm_Kn 2 6 none, fun x => sm_lk sm_ca2 x, some .int) [24, 29, 30, 31] 6 0 [] [] 2000 [] = true := by decide +kernel
/-- MiceRegisters.readLine -/
def kcc783 : ak_C := (17, [.inl 0, .inl 11, .inr (false, [(-1, 60)]), .inr (false, [(48, 48)])], kch29, [24, 25, 26], [([[], [], [], []], some (.inr (false, [(-1, 60)])), kch26), ([[], [], [(1, 60)], []], some (.inr (false, [(-9, -9)])), kch28)])
theorem kck783 : ai_chk [kcc26] kcc783 (fun pc => sm_ch sm_t17 pc, sm_Kn 2 6 none, fun x => sm_lk sm_ca2 x, some .int) [24, 25, 26] 6 4 [29] [] 2000 [(29, [(0, .inl 0), (1, .inl 11), (2, .inr (false, [(-1, 60)])), (3, .inr (false, [(48, 48)])), (4, .inr (false, [(49, 49)]))], [], kch31),
  (29, [(0, .inl 0), (1, .inl 11), (2, .inr (false, [(1, 60)])), (3, .inr (false, [(48, 48)])), (4, .inr (false, [(50, 50)])), (5, .inr (false, [(-9, -9)]))], [], kch31),
  (29, [(0, .inl 0), (1, .inl 11), (2, .inr (false, [(1, 60)])), (3, .inr (false, [(48, 48)])), (4, .inr (false, [(51, 51)])), (5, .inr (false, [(-9, -9)]))], [], kch31),
  (29, [(0, .inl 0), (1, .inl 11), (2, .inr (false, [(1, 60)])), (3, .inr (false, [(48, 48)])), (4, .inr (false, [(52, 52)])), (5, .inr (false, [(-9, -9)]))], [], kch31)] = true := by decide +kernel
def kcx516 : aw_A := .inr (.inl (1, 60, [], [(49, [(48, 55)])]))
def kch517 : aw_H := [(11, kcx516)]
/-- MiceRegisters.faultOfFigure -/
def kcc784 : ak_C := (18, [.inl 11, .inr (false, [(-1, 60)]), .inr (false, [(49, 49)]), .inr (false, [(0, 0)]), .inr (false, [(0, 7)])], kch24, [], [([], some (.inr (false, [(-9, -9)])), kch517), ([], some (.inr (false, [(-1, 63)])), [])])
def kcx518 : aw_A := .inr (.inl (1, 60, [], [(50, [(49, 57)]), (49, [(48, 55)])]))
def kch519 : aw_H := [(11, kcx518)]
/-- MiceRegisters.faultOfFigure -/
def kcc785 : ak_C := (18, [.inl 11, .inr (false, [(-1, 60)]), .inr (false, [(50, 50)]), .inr (false, [(1, 1)]), .inr (false, [(9, 9)])], kch517, [], [([], some (.inr (false, [(-9, -9)])), kch519), ([], some (.inr (false, [(-1, 63)])), [])])
/-- MiceRegisters.readMouse -/
def kcc786 : ak_C := (19, [.inl 0, .inl 11, .inr (false, [(-1, 60)]), .inr (false, [(48, 48)])], kch40, [24, 29, 30, 31], [([], some (.inr (false, [(-1, 63)])), kch37), ([], some (.inr (false, [(-9, -9)])), kch39)])
theorem kck786 : ai_chk [kcc28, kcc784, kcc785] kcc786 (fun pc => sm_ch sm_t19 pc, sm_Kn 2 6 none, fun x => sm_lk sm_ca2 x, some .int) [24, 29, 30, 31] 6 0 [] [] 2000 [] = true := by decide +kernel
/-- MiceRegisters.readLine -/
def kcc787 : ak_C := (17, [.inl 0, .inl 12, .inr (false, [(-1, 60)]), .inr (false, [(48, 48)])], kch41, [24, 25, 26], [([[], [], [], []], some (.inr (false, [(-1, 60)])), kch26), ([[], [], [(1, 60)], []], some (.inr (false, [(-9, -9)])), kch28)])
theorem kck787 : ai_chk [kcc32] kcc787 (fun pc => sm_ch sm_t17 pc, sm_Kn 2 6 none, fun x => sm_lk sm_ca2 x, some .int) [24, 25, 26] 6 4 [29] [] 2000 [(29, [(0, .inl 0), (1, .inl 12), (2, .inr (false, [(-1, 60)])), (3, .inr (false, [(48, 48)])), (4, .inr (false, [(49, 49)]))], [], kch42),
  (29, [(0, .inl 0), (1, .inl 12), (2, .inr (false, [(1, 60)])), (3, .inr (false, [(48, 48)])), (4, .inr (false, [(50, 50)])), (5, .inr (false, [(-9, -9)]))], [], kch42),
  (29, [(0, .inl 0), (1, .inl 12), (2, .inr (false, [(1, 60)])), (3, .inr (false, [(48, 48)])), (4, .inr (false, [(51, 51)])), (5, .inr (false, [(-9, -9)]))], [], kch42),
  (29, [(0, .inl 0), (1, .inl 12), (2, .inr (false, [(1, 60)])), (3, .inr (false, [(48, 48)])), (4, .inr (false, [(52, 52)])), (5, .inr (false, [(-9, -9)]))], [], kch42)] = true := by decide +kernel
def kch520 : aw_H := [(12, kcx516)]
/-- MiceRegisters.faultOfFigure -/
def kcc788 : ak_C := (18, [.inl 12, .inr (false, [(-1, 60)]), .inr (false, [(49, 49)]), .inr (false, [(0, 0)]), .inr (false, [(0, 7)])], kch23, [], [([], some (.inr (false, [(-9, -9)])), kch520), ([], some (.inr (false, [(-1, 63)])), [])])
def kch521 : aw_H := [(12, kcx518)]
/-- MiceRegisters.faultOfFigure -/
def kcc789 : ak_C := (18, [.inl 12, .inr (false, [(-1, 60)]), .inr (false, [(50, 50)]), .inr (false, [(1, 1)]), .inr (false, [(9, 9)])], kch520, [], [([], some (.inr (false, [(-9, -9)])), kch521), ([], some (.inr (false, [(-1, 63)])), [])])
/-- MiceRegisters.readMouse -/
def kcc790 : ak_C := (19, [.inl 0, .inl 12, .inr (false, [(-1, 60)]), .inr (false, [(48, 48)])], kch45, [24, 29, 30, 31], [([], some (.inr (false, [(-1, 63)])), kch37), ([], some (.inr (false, [(-9, -9)])), kch39)])
theorem kck790 : ai_chk [kcc28, kcc788, kcc789] kcc790 (fun pc => sm_ch sm_t19 pc, sm_Kn 2 6 none, fun x => sm_lk sm_ca2 x, some .int) [24, 29, 30, 31] 6 0 [] [] 2000 [] = true := by decide +kernel
/-- MiceRegisters.readLine -/
def kcc791 : ak_C := (17, [.inl 0, .inl 13, .inr (false, [(-1, 60)]), .inr (false, [(48, 48)])], kch46, [24, 25, 26], [([[], [], [], []], some (.inr (false, [(-1, 60)])), kch26), ([[], [], [(1, 60)], []], some (.inr (false, [(-9, -9)])), kch28)])
theorem kck791 : ai_chk [kcc37] kcc791 (fun pc => sm_ch sm_t17 pc, sm_Kn 2 6 none, fun x => sm_lk sm_ca2 x, some .int) [24, 25, 26] 6 4 [29] [] 2000 [(29, [(0, .inl 0), (1, .inl 13), (2, .inr (false, [(-1, 60)])), (3, .inr (false, [(48, 48)])), (4, .inr (false, [(49, 49)]))], [], kch47),
  (29, [(0, .inl 0), (1, .inl 13), (2, .inr (false, [(1, 60)])), (3, .inr (false, [(48, 48)])), (4, .inr (false, [(50, 50)])), (5, .inr (false, [(-9, -9)]))], [], kch47),
  (29, [(0, .inl 0), (1, .inl 13), (2, .inr (false, [(1, 60)])), (3, .inr (false, [(48, 48)])), (4, .inr (false, [(51, 51)])), (5, .inr (false, [(-9, -9)]))], [], kch47),
  (29, [(0, .inl 0), (1, .inl 13), (2, .inr (false, [(1, 60)])), (3, .inr (false, [(48, 48)])), (4, .inr (false, [(52, 52)])), (5, .inr (false, [(-9, -9)]))], [], kch47)] = true := by decide +kernel
def kch522 : aw_H := [(13, kcx516)]
/-- MiceRegisters.faultOfFigure -/
def kcc792 : ak_C := (18, [.inl 13, .inr (false, [(-1, 60)]), .inr (false, [(49, 49)]), .inr (false, [(0, 0)]), .inr (false, [(0, 7)])], kch22, [], [([], some (.inr (false, [(-9, -9)])), kch522), ([], some (.inr (false, [(-1, 63)])), [])])
def kch523 : aw_H := [(13, kcx518)]
/-- MiceRegisters.faultOfFigure -/
def kcc793 : ak_C := (18, [.inl 13, .inr (false, [(-1, 60)]), .inr (false, [(50, 50)]), .inr (false, [(1, 1)]), .inr (false, [(9, 9)])], kch522, [], [([], some (.inr (false, [(-9, -9)])), kch523), ([], some (.inr (false, [(-1, 63)])), [])])
/-- MiceRegisters.readMouse -/
def kcc794 : ak_C := (19, [.inl 0, .inl 13, .inr (false, [(-1, 60)]), .inr (false, [(48, 48)])], kch50, [24, 29, 30, 31], [([], some (.inr (false, [(-1, 63)])), kch37), ([], some (.inr (false, [(-9, -9)])), kch39)])
theorem kck794 : ai_chk [kcc28, kcc792, kcc793] kcc794 (fun pc => sm_ch sm_t19 pc, sm_Kn 2 6 none, fun x => sm_lk sm_ca2 x, some .int) [24, 29, 30, 31] 6 0 [] [] 2000 [] = true := by decide +kernel
