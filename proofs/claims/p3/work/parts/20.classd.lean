/-! Contracts over ranges of the class, and their checks; printed by a program of mine. -/
/-- MiceRegisters.readLine -/
def kcc267 : ak_C := (17, [.inl 0, .inl 14, .inr (false, [(-1, 60)]), .inr (false, [(15, 15)])], kch51, [24, 25, 26], [([[], [], [], []], some (.inr (false, [(-1, 60)])), kch26), ([[], [], [(1, 60)], []], some (.inr (false, [(-9, -9)])), kch28)])
theorem kck267 : ai_chk [kcc42] kcc267 (fun pc => sm_ch sm_t17 pc, sm_Kn 2 6 none, fun x => sm_lk sm_ca2 x, some .int) [24, 25, 26] 6 4 [29] [] 2000 [(29, [(0, .inl 0), (1, .inl 14), (2, .inr (false, [(-1, 60)])), (3, .inr (false, [(15, 15)])), (4, .inr (false, [(16, 16)]))], [], kch52),
  (29, [(0, .inl 0), (1, .inl 14), (2, .inr (false, [(1, 60)])), (3, .inr (false, [(15, 15)])), (4, .inr (false, [(17, 17)])), (5, .inr (false, [(-9, -9)]))], [], kch52),
  (29, [(0, .inl 0), (1, .inl 14), (2, .inr (false, [(1, 60)])), (3, .inr (false, [(15, 15)])), (4, .inr (false, [(18, 18)])), (5, .inr (false, [(-9, -9)]))], [], kch52),
  (29, [(0, .inl 0), (1, .inl 14), (2, .inr (false, [(1, 60)])), (3, .inr (false, [(15, 15)])), (4, .inr (false, [(19, 19)])), (5, .inr (false, [(-9, -9)]))], [], kch52)] = true := by decide +kernel
def kch194 : aw_H := [(14, kcx186)]
/-- MiceRegisters.faultOfFigure -/
def kcc268 : ak_C := (18, [.inl 14, .inr (false, [(-1, 60)]), .inr (false, [(16, 16)]), .inr (false, [(0, 0)]), .inr (false, [(0, 7)])], kch21, [], [([], some (.inr (false, [(-9, -9)])), kch194), ([], some (.inr (false, [(-1, 63)])), [])])
def kch195 : aw_H := [(14, kcx188)]
/-- MiceRegisters.faultOfFigure -/
def kcc269 : ak_C := (18, [.inl 14, .inr (false, [(-1, 60)]), .inr (false, [(17, 17)]), .inr (false, [(1, 1)]), .inr (false, [(9, 9)])], kch194, [], [([], some (.inr (false, [(-9, -9)])), kch195), ([], some (.inr (false, [(-1, 63)])), [])])
/-- MiceRegisters.readMouse -/
def kcc270 : ak_C := (19, [.inl 0, .inl 14, .inr (false, [(-1, 60)]), .inr (false, [(15, 15)])], kch55, [24, 29, 30, 31], [([], some (.inr (false, [(-1, 63)])), kch37), ([], some (.inr (false, [(-9, -9)])), kch39)])
theorem kck270 : ai_chk [kcc28, kcc268, kcc269] kcc270 (fun pc => sm_ch sm_t19 pc, sm_Kn 2 6 none, fun x => sm_lk sm_ca2 x, some .int) [24, 29, 30, 31] 6 0 [] [] 2000 [] = true := by decide +kernel
/-- MiceRegisters.readLine -/
def kcc271 : ak_C := (17, [.inl 0, .inl 11, .inr (false, [(-1, 60)]), .inr (false, [(16, 16)])], kch29, [24, 25, 26], [([[], [], [], []], some (.inr (false, [(-1, 60)])), kch26), ([[], [], [(1, 60)], []], some (.inr (false, [(-9, -9)])), kch28)])
theorem kck271 : ai_chk [kcc26] kcc271 (fun pc => sm_ch sm_t17 pc, sm_Kn 2 6 none, fun x => sm_lk sm_ca2 x, some .int) [24, 25, 26] 6 4 [29] [] 2000 [(29, [(0, .inl 0), (1, .inl 11), (2, .inr (false, [(-1, 60)])), (3, .inr (false, [(16, 16)])), (4, .inr (false, [(17, 17)]))], [], kch31),
  (29, [(0, .inl 0), (1, .inl 11), (2, .inr (false, [(1, 60)])), (3, .inr (false, [(16, 16)])), (4, .inr (false, [(18, 18)])), (5, .inr (false, [(-9, -9)]))], [], kch31),
  (29, [(0, .inl 0), (1, .inl 11), (2, .inr (false, [(1, 60)])), (3, .inr (false, [(16, 16)])), (4, .inr (false, [(19, 19)])), (5, .inr (false, [(-9, -9)]))], [], kch31),
  (29, [(0, .inl 0), (1, .inl 11), (2, .inr (false, [(1, 60)])), (3, .inr (false, [(16, 16)])), (4, .inr (false, [(20, 20)])), (5, .inr (false, [(-9, -9)]))], [], kch31)] = true := by decide +kernel
def kcx196 : aw_A := .inr (.inl (1, 60, [], [(17, [(48, 55)])]))
def kch197 : aw_H := [(11, kcx196)]
/-- MiceRegisters.faultOfFigure -/
def kcc272 : ak_C := (18, [.inl 11, .inr (false, [(-1, 60)]), .inr (false, [(17, 17)]), .inr (false, [(0, 0)]), .inr (false, [(0, 7)])], kch24, [], [([], some (.inr (false, [(-9, -9)])), kch197), ([], some (.inr (false, [(-1, 63)])), [])])
def kcx198 : aw_A := .inr (.inl (1, 60, [], [(18, [(49, 57)]), (17, [(48, 55)])]))
def kch199 : aw_H := [(11, kcx198)]
/-- MiceRegisters.faultOfFigure -/
def kcc273 : ak_C := (18, [.inl 11, .inr (false, [(-1, 60)]), .inr (false, [(18, 18)]), .inr (false, [(1, 1)]), .inr (false, [(9, 9)])], kch197, [], [([], some (.inr (false, [(-9, -9)])), kch199), ([], some (.inr (false, [(-1, 63)])), [])])
/-- MiceRegisters.readMouse -/
def kcc274 : ak_C := (19, [.inl 0, .inl 11, .inr (false, [(-1, 60)]), .inr (false, [(16, 16)])], kch40, [24, 29, 30, 31], [([], some (.inr (false, [(-1, 63)])), kch37), ([], some (.inr (false, [(-9, -9)])), kch39)])
theorem kck274 : ai_chk [kcc28, kcc272, kcc273] kcc274 (fun pc => sm_ch sm_t19 pc, sm_Kn 2 6 none, fun x => sm_lk sm_ca2 x, some .int) [24, 29, 30, 31] 6 0 [] [] 2000 [] = true := by decide +kernel
/-- MiceRegisters.readLine -/
def kcc275 : ak_C := (17, [.inl 0, .inl 12, .inr (false, [(-1, 60)]), .inr (false, [(16, 16)])], kch41, [24, 25, 26], [([[], [], [], []], some (.inr (false, [(-1, 60)])), kch26), ([[], [], [(1, 60)], []], some (.inr (false, [(-9, -9)])), kch28)])
theorem kck275 : ai_chk [kcc32] kcc275 (fun pc => sm_ch sm_t17 pc, sm_Kn 2 6 none, fun x => sm_lk sm_ca2 x, some .int) [24, 25, 26] 6 4 [29] [] 2000 [(29, [(0, .inl 0), (1, .inl 12), (2, .inr (false, [(-1, 60)])), (3, .inr (false, [(16, 16)])), (4, .inr (false, [(17, 17)]))], [], kch42),
  (29, [(0, .inl 0), (1, .inl 12), (2, .inr (false, [(1, 60)])), (3, .inr (false, [(16, 16)])), (4, .inr (false, [(18, 18)])), (5, .inr (false, [(-9, -9)]))], [], kch42),
  (29, [(0, .inl 0), (1, .inl 12), (2, .inr (false, [(1, 60)])), (3, .inr (false, [(16, 16)])), (4, .inr (false, [(19, 19)])), (5, .inr (false, [(-9, -9)]))], [], kch42),
  (29, [(0, .inl 0), (1, .inl 12), (2, .inr (false, [(1, 60)])), (3, .inr (false, [(16, 16)])), (4, .inr (false, [(20, 20)])), (5, .inr (false, [(-9, -9)]))], [], kch42)] = true := by decide +kernel
def kch200 : aw_H := [(12, kcx196)]
/-- MiceRegisters.faultOfFigure -/
def kcc276 : ak_C := (18, [.inl 12, .inr (false, [(-1, 60)]), .inr (false, [(17, 17)]), .inr (false, [(0, 0)]), .inr (false, [(0, 7)])], kch23, [], [([], some (.inr (false, [(-9, -9)])), kch200), ([], some (.inr (false, [(-1, 63)])), [])])
def kch201 : aw_H := [(12, kcx198)]
/-- MiceRegisters.faultOfFigure -/
def kcc277 : ak_C := (18, [.inl 12, .inr (false, [(-1, 60)]), .inr (false, [(18, 18)]), .inr (false, [(1, 1)]), .inr (false, [(9, 9)])], kch200, [], [([], some (.inr (false, [(-9, -9)])), kch201), ([], some (.inr (false, [(-1, 63)])), [])])
/-- MiceRegisters.readMouse -/
def kcc278 : ak_C := (19, [.inl 0, .inl 12, .inr (false, [(-1, 60)]), .inr (false, [(16, 16)])], kch45, [24, 29, 30, 31], [([], some (.inr (false, [(-1, 63)])), kch37), ([], some (.inr (false, [(-9, -9)])), kch39)])
theorem kck278 : ai_chk [kcc28, kcc276, kcc277] kcc278 (fun pc => sm_ch sm_t19 pc, sm_Kn 2 6 none, fun x => sm_lk sm_ca2 x, some .int) [24, 29, 30, 31] 6 0 [] [] 2000 [] = true := by decide +kernel
/-- MiceRegisters.readLine -/
def kcc279 : ak_C := (17, [.inl 0, .inl 13, .inr (false, [(-1, 60)]), .inr (false, [(16, 16)])], kch46, [24, 25, 26], [([[], [], [], []], some (.inr (false, [(-1, 60)])), kch26), ([[], [], [(1, 60)], []], some (.inr (false, [(-9, -9)])), kch28)])
theorem kck279 : ai_chk [kcc37] kcc279 (fun pc => sm_ch sm_t17 pc, sm_Kn 2 6 none, fun x => sm_lk sm_ca2 x, some .int) [24, 25, 26] 6 4 [29] [] 2000 [(29, [(0, .inl 0), (1, .inl 13), (2, .inr (false, [(-1, 60)])), (3, .inr (false, [(16, 16)])), (4, .inr (false, [(17, 17)]))], [], kch47),
  (29, [(0, .inl 0), (1, .inl 13), (2, .inr (false, [(1, 60)])), (3, .inr (false, [(16, 16)])), (4, .inr (false, [(18, 18)])), (5, .inr (false, [(-9, -9)]))], [], kch47),
  (29, [(0, .inl 0), (1, .inl 13), (2, .inr (false, [(1, 60)])), (3, .inr (false, [(16, 16)])), (4, .inr (false, [(19, 19)])), (5, .inr (false, [(-9, -9)]))], [], kch47),
  (29, [(0, .inl 0), (1, .inl 13), (2, .inr (false, [(1, 60)])), (3, .inr (false, [(16, 16)])), (4, .inr (false, [(20, 20)])), (5, .inr (false, [(-9, -9)]))], [], kch47)] = true := by decide +kernel
def kch202 : aw_H := [(13, kcx196)]
/-- MiceRegisters.faultOfFigure -/
def kcc280 : ak_C := (18, [.inl 13, .inr (false, [(-1, 60)]), .inr (false, [(17, 17)]), .inr (false, [(0, 0)]), .inr (false, [(0, 7)])], kch22, [], [([], some (.inr (false, [(-9, -9)])), kch202), ([], some (.inr (false, [(-1, 63)])), [])])
def kch203 : aw_H := [(13, kcx198)]
/-- MiceRegisters.faultOfFigure -/
def kcc281 : ak_C := (18, [.inl 13, .inr (false, [(-1, 60)]), .inr (false, [(18, 18)]), .inr (false, [(1, 1)]), .inr (false, [(9, 9)])], kch202, [], [([], some (.inr (false, [(-9, -9)])), kch203), ([], some (.inr (false, [(-1, 63)])), [])])
/-- MiceRegisters.readMouse -/
def kcc282 : ak_C := (19, [.inl 0, .inl 13, .inr (false, [(-1, 60)]), .inr (false, [(16, 16)])], kch50, [24, 29, 30, 31], [([], some (.inr (false, [(-1, 63)])), kch37), ([], some (.inr (false, [(-9, -9)])), kch39)])
theorem kck282 : ai_chk [kcc28, kcc280, kcc281] kcc282 (fun pc => sm_ch sm_t19 pc, sm_Kn 2 6 none, fun x => sm_lk sm_ca2 x, some .int) [24, 29, 30, 31] 6 0 [] [] 2000 [] = true := by decide +kernel
/-- MiceRegisters.readLine -/
def kcc283 : ak_C := (17, [.inl 0, .inl 14, .inr (false, [(-1, 60)]), .inr (false, [(16, 16)])], kch51, [24, 25, 26], [([[], [], [], []], some (.inr (false, [(-1, 60)])), kch26), ([[], [], [(1, 60)], []], some (.inr (false, [(-9, -9)])), kch28)])
theorem kck283 : ai_chk [kcc42] kcc283 (fun pc => sm_ch sm_t17 pc, sm_Kn 2 6 none, fun x => sm_lk sm_ca2 x, some .int) [24, 25, 26] 6 4 [29] [] 2000 [(29, [(0, .inl 0), (1, .inl 14), (2, .inr (false, [(-1, 60)])), (3, .inr (false, [(16, 16)])), (4, .inr (false, [(17, 17)]))], [], kch52),
  (29, [(0, .inl 0), (1, .inl 14), (2, .inr (false, [(1, 60)])), (3, .inr (false, [(16, 16)])), (4, .inr (false, [(18, 18)])), (5, .inr (false, [(-9, -9)]))], [], kch52),
  (29, [(0, .inl 0), (1, .inl 14), (2, .inr (false, [(1, 60)])), (3, .inr (false, [(16, 16)])), (4, .inr (false, [(19, 19)])), (5, .inr (false, [(-9, -9)]))], [], kch52),
  (29, [(0, .inl 0), (1, .inl 14), (2, .inr (false, [(1, 60)])), (3, .inr (false, [(16, 16)])), (4, .inr (false, [(20, 20)])), (5, .inr (false, [(-9, -9)]))], [], kch52)] = true := by decide +kernel
def kch204 : aw_H := [(14, kcx196)]
/-- MiceRegisters.faultOfFigure -/
def kcc284 : ak_C := (18, [.inl 14, .inr (false, [(-1, 60)]), .inr (false, [(17, 17)]), .inr (false, [(0, 0)]), .inr (false, [(0, 7)])], kch21, [], [([], some (.inr (false, [(-9, -9)])), kch204), ([], some (.inr (false, [(-1, 63)])), [])])
def kch205 : aw_H := [(14, kcx198)]
/-- MiceRegisters.faultOfFigure -/
def kcc285 : ak_C := (18, [.inl 14, .inr (false, [(-1, 60)]), .inr (false, [(18, 18)]), .inr (false, [(1, 1)]), .inr (false, [(9, 9)])], kch204, [], [([], some (.inr (false, [(-9, -9)])), kch205), ([], some (.inr (false, [(-1, 63)])), [])])
/-- MiceRegisters.readMouse -/
def kcc286 : ak_C := (19, [.inl 0, .inl 14, .inr (false, [(-1, 60)]), .inr (false, [(16, 16)])], kch55, [24, 29, 30, 31], [([], some (.inr (false, [(-1, 63)])), kch37), ([], some (.inr (false, [(-9, -9)])), kch39)])
theorem kck286 : ai_chk [kcc28, kcc284, kcc285] kcc286 (fun pc => sm_ch sm_t19 pc, sm_Kn 2 6 none, fun x => sm_lk sm_ca2 x, some .int) [24, 29, 30, 31] 6 0 [] [] 2000 [] = true := by decide +kernel
/-- MiceRegisters.readLine -/
def kcc287 : ak_C := (17, [.inl 0, .inl 11, .inr (false, [(-1, 60)]), .inr (false, [(17, 17)])], kch29, [24, 25, 26], [([[], [], [], []], some (.inr (false, [(-1, 60)])), kch26), ([[], [], [(1, 60)], []], some (.inr (false, [(-9, -9)])), kch28)])
theorem kck287 : ai_chk [kcc26] kcc287 (fun pc => sm_ch sm_t17 pc, sm_Kn 2 6 none, fun x => sm_lk sm_ca2 x, some .int) [24, 25, 26] 6 4 [29] [] 2000 [(29, [(0, .inl 0), (1, .inl 11), (2, .inr (false, [(-1, 60)])), (3, .inr (false, [(17, 17)])), (4, .inr (false, [(18, 18)]))], [], kch31),
  (29, [(0, .inl 0), (1, .inl 11), (2, .inr (false, [(1, 60)])), (3, .inr (false, [(17, 17)])), (4, .inr (false, [(19, 19)])), (5, .inr (false, [(-9, -9)]))], [], kch31),
  (29, [(0, .inl 0), (1, .inl 11), (2, .inr (false, [(1, 60)])), (3, .inr (false, [(17, 17)])), (4, .inr (false, [(20, 20)])), (5, .inr (false, [(-9, -9)]))], [], kch31),
  (29, [(0, .inl 0), (1, .inl 11), (2, .inr (false, [(1, 60)])), (3, .inr (false, [(17, 17)])), (4, .inr (false, [(21, 21)])), (5, .inr (false, [(-9, -9)]))], [], kch31)] = true := by decide +kernel
def kcx206 : aw_A := .inr (.inl (1, 60, [], [(18, [(48, 55)])]))
def kch207 : aw_H := [(11, kcx206)]
/-- MiceRegisters.faultOfFigure -/
def kcc288 : ak_C := (18, [.inl 11, .inr (false, [(-1, 60)]), .inr (false, [(18, 18)]), .inr (false, [(0, 0)]), .inr (false, [(0, 7)])], kch24, [], [([], some (.inr (false, [(-9, -9)])), kch207), ([], some (.inr (false, [(-1, 63)])), [])])
def kcx208 : aw_A := .inr (.inl (1, 60, [], [(19, [(49, 57)]), (18, [(48, 55)])]))
def kch209 : aw_H := [(11, kcx208)]
/-- MiceRegisters.faultOfFigure -/
def kcc289 : ak_C := (18, [.inl 11, .inr (false, [(-1, 60)]), .inr (false, [(19, 19)]), .inr (false, [(1, 1)]), .inr (false, [(9, 9)])], kch207, [], [([], some (.inr (false, [(-9, -9)])), kch209), ([], some (.inr (false, [(-1, 63)])), [])])
/-- MiceRegisters.readMouse -/
def kcc290 : ak_C := (19, [.inl 0, .inl 11, .inr (false, [(-1, 60)]), .inr (false, [(17, 17)])], kch40, [24, 29, 30, 31], [([], some (.inr (false, [(-1, 63)])), kch37), ([], some (.inr (false, [(-9, -9)])), kch39)])
theorem kck290 : ai_chk [kcc28, kcc288, kcc289] kcc290 (fun pc => sm_ch sm_t19 pc, sm_Kn 2 6 none, fun x => sm_lk sm_ca2 x, some .int) [24, 29, 30, 31] 6 0 [] [] 2000 [] = true := by decide +kernel
/-- MiceRegisters.readLine -/
def kcc291 : ak_C := (17, [.inl 0, .inl 12, .inr (false, [(-1, 60)]), .inr (false, [(17, 17)])], kch41, [24, 25, 26], [([[], [], [], []], some (.inr (false, [(-1, 60)])), kch26), ([[], [], [(1, 60)], []], some (.inr (false, [(-9, -9)])), kch28)])
theorem kck291 : ai_chk [kcc32] kcc291 (fun pc => sm_ch sm_t17 pc, sm_Kn 2 6 none, fun x => sm_lk sm_ca2 x, some .int) [24, 25, 26] 6 4 [29] [] 2000 [(29, [(0, .inl 0), (1, .inl 12), (2, .inr (false, [(-1, 60)])), (3, .inr (false, [(17, 17)])), (4, .inr (false, [(18, 18)]))], [], kch42),
  (29, [(0, .inl 0), (1, .inl 12), (2, .inr (false, [(1, 60)])), (3, .inr (false, [(17, 17)])), (4, .inr (false, [(19, 19)])), (5, .inr (false, [(-9, -9)]))], [], kch42),
  (29, [(0, .inl 0), (1, .inl 12), (2, .inr (false, [(1, 60)])), (3, .inr (false, [(17, 17)])), (4, .inr (false, [(20, 20)])), (5, .inr (false, [(-9, -9)]))], [], kch42),
  (29, [(0, .inl 0), (1, .inl 12), (2, .inr (false, [(1, 60)])), (3, .inr (false, [(17, 17)])), (4, .inr (false, [(21, 21)])), (5, .inr (false, [(-9, -9)]))], [], kch42)] = true := by decide +kernel
def kch210 : aw_H := [(12, kcx206)]
/-- MiceRegisters.faultOfFigure -/
def kcc292 : ak_C := (18, [.inl 12, .inr (false, [(-1, 60)]), .inr (false, [(18, 18)]), .inr (false, [(0, 0)]), .inr (false, [(0, 7)])], kch23, [], [([], some (.inr (false, [(-9, -9)])), kch210), ([], some (.inr (false, [(-1, 63)])), [])])
def kch211 : aw_H := [(12, kcx208)]
/-- MiceRegisters.faultOfFigure -/
def kcc293 : ak_C := (18, [.inl 12, .inr (false, [(-1, 60)]), .inr (false, [(19, 19)]), .inr (false, [(1, 1)]), .inr (false, [(9, 9)])], kch210, [], [([], some (.inr (false, [(-9, -9)])), kch211), ([], some (.inr (false, [(-1, 63)])), [])])
/-- MiceRegisters.readMouse -/
def kcc294 : ak_C := (19, [.inl 0, .inl 12, .inr (false, [(-1, 60)]), .inr (false, [(17, 17)])], kch45, [24, 29, 30, 31], [([], some (.inr (false, [(-1, 63)])), kch37), ([], some (.inr (false, [(-9, -9)])), kch39)])
theorem kck294 : ai_chk [kcc28, kcc292, kcc293] kcc294 (fun pc => sm_ch sm_t19 pc, sm_Kn 2 6 none, fun x => sm_lk sm_ca2 x, some .int) [24, 29, 30, 31] 6 0 [] [] 2000 [] = true := by decide +kernel
/-- MiceRegisters.readLine -/
def kcc295 : ak_C := (17, [.inl 0, .inl 13, .inr (false, [(-1, 60)]), .inr (false, [(17, 17)])], kch46, [24, 25, 26], [([[], [], [], []], some (.inr (false, [(-1, 60)])), kch26), ([[], [], [(1, 60)], []], some (.inr (false, [(-9, -9)])), kch28)])
theorem kck295 : ai_chk [kcc37] kcc295 (fun pc => sm_ch sm_t17 pc, sm_Kn 2 6 none, fun x => sm_lk sm_ca2 x, some .int) [24, 25, 26] 6 4 [29] [] 2000 [(29, [(0, .inl 0), (1, .inl 13), (2, .inr (false, [(-1, 60)])), (3, .inr (false, [(17, 17)])), (4, .inr (false, [(18, 18)]))], [], kch47),
  (29, [(0, .inl 0), (1, .inl 13), (2, .inr (false, [(1, 60)])), (3, .inr (false, [(17, 17)])), (4, .inr (false, [(19, 19)])), (5, .inr (false, [(-9, -9)]))], [], kch47),
  (29, [(0, .inl 0), (1, .inl 13), (2, .inr (false, [(1, 60)])), (3, .inr (false, [(17, 17)])), (4, .inr (false, [(20, 20)])), (5, .inr (false, [(-9, -9)]))], [], kch47),
  (29, [(0, .inl 0), (1, .inl 13), (2, .inr (false, [(1, 60)])), (3, .inr (false, [(17, 17)])), (4, .inr (false, [(21, 21)])), (5, .inr (false, [(-9, -9)]))], [], kch47)] = true := by decide +kernel
def kch212 : aw_H := [(13, kcx206)]
/-- MiceRegisters.faultOfFigure -/
def kcc296 : ak_C := (18, [.inl 13, .inr (false, [(-1, 60)]), .inr (false, [(18, 18)]), .inr (false, [(0, 0)]), .inr (false, [(0, 7)])], kch22, [], [([], some (.inr (false, [(-9, -9)])), kch212), ([], some (.inr (false, [(-1, 63)])), [])])
def kch213 : aw_H := [(13, kcx208)]
/-- MiceRegisters.faultOfFigure -/
def kcc297 : ak_C := (18, [.inl 13, .inr (false, [(-1, 60)]), .inr (false, [(19, 19)]), .inr (false, [(1, 1)]), .inr (false, [(9, 9)])], kch212, [], [([], some (.inr (false, [(-9, -9)])), kch213), ([], some (.inr (false, [(-1, 63)])), [])])
/-- MiceRegisters.readMouse -/
def kcc298 : ak_C := (19, [.inl 0, .inl 13, .inr (false, [(-1, 60)]), .inr (false, [(17, 17)])], kch50, [24, 29, 30, 31], [([], some (.inr (false, [(-1, 63)])), kch37), ([], some (.inr (false, [(-9, -9)])), kch39)])
theorem kck298 : ai_chk [kcc28, kcc296, kcc297] kcc298 (fun pc => sm_ch sm_t19 pc, sm_Kn 2 6 none, fun x => sm_lk sm_ca2 x, some .int) [24, 29, 30, 31] 6 0 [] [] 2000 [] = true := by decide +kernel
/-- MiceRegisters.readLine -/
def kcc299 : ak_C := (17, [.inl 0, .inl 14, .inr (false, [(-1, 60)]), .inr (false, [(17, 17)])], kch51, [24, 25, 26], [([[], [], [], []], some (.inr (false, [(-1, 60)])), kch26), ([[], [], [(1, 60)], []], some (.inr (false, [(-9, -9)])), kch28)])
theorem kck299 : ai_chk [kcc42] kcc299 (fun pc => sm_ch sm_t17 pc, sm_Kn 2 6 none, fun x => sm_lk sm_ca2 x, some .int) [24, 25, 26] 6 4 [29] [] 2000 [(29, [(0, .inl 0), (1, .inl 14), (2, .inr (false, [(-1, 60)])), (3, .inr (false, [(17, 17)])), (4, .inr (false, [(18, 18)]))], [], kch52),
  (29, [(0, .inl 0), (1, .inl 14), (2, .inr (false, [(1, 60)])), (3, .inr (false, [(17, 17)])), (4, .inr (false, [(19, 19)])), (5, .inr (false, [(-9, -9)]))], [], kch52),
  (29, [(0, .inl 0), (1, .inl 14), (2, .inr (false, [(1, 60)])), (3, .inr (false, [(17, 17)])), (4, .inr (false, [(20, 20)])), (5, .inr (false, [(-9, -9)]))], [], kch52),
  (29, [(0, .inl 0), (1, .inl 14), (2, .inr (false, [(1, 60)])), (3, .inr (false, [(17, 17)])), (4, .inr (false, [(21, 21)])), (5, .inr (false, [(-9, -9)]))], [], kch52)] = true := by decide +kernel
def kch214 : aw_H := [(14, kcx206)]
/-- MiceRegisters.faultOfFigure -/
def kcc300 : ak_C := (18, [.inl 14, .inr (false, [(-1, 60)]), .inr (false, [(18, 18)]), .inr (false, [(0, 0)]), .inr (false, [(0, 7)])], kch21, [], [([], some (.inr (false, [(-9, -9)])), kch214), ([], some (.inr (false, [(-1, 63)])), [])])
def kch215 : aw_H := [(14, kcx208)]
/-- MiceRegisters.faultOfFigure -/
def kcc301 : ak_C := (18, [.inl 14, .inr (false, [(-1, 60)]), .inr (false, [(19, 19)]), .inr (false, [(1, 1)]), .inr (false, [(9, 9)])], kch214, [], [([], some (.inr (false, [(-9, -9)])), kch215), ([], some (.inr (false, [(-1, 63)])), [])])
/-- MiceRegisters.readMouse -/
def kcc302 : ak_C := (19, [.inl 0, .inl 14, .inr (false, [(-1, 60)]), .inr (false, [(17, 17)])], kch55, [24, 29, 30, 31], [([], some (.inr (false, [(-1, 63)])), kch37), ([], some (.inr (false, [(-9, -9)])), kch39)])
theorem kck302 : ai_chk [kcc28, kcc300, kcc301] kcc302 (fun pc => sm_ch sm_t19 pc, sm_Kn 2 6 none, fun x => sm_lk sm_ca2 x, some .int) [24, 29, 30, 31] 6 0 [] [] 2000 [] = true := by decide +kernel
/-- MiceRegisters.readLine -/
def kcc303 : ak_C := (17, [.inl 0, .inl 11, .inr (false, [(-1, 60)]), .inr (false, [(18, 18)])], kch29, [24, 25, 26], [([[], [], [], []], some (.inr (false, [(-1, 60)])), kch26), ([[], [], [(1, 60)], []], some (.inr (false, [(-9, -9)])), kch28)])
theorem kck303 : ai_chk [kcc26] kcc303 (fun pc => sm_ch sm_t17 pc, sm_Kn 2 6 none, fun x => sm_lk sm_ca2 x, some .int) [24, 25, 26] 6 4 [29] [] 2000 [(29, [(0, .inl 0), (1, .inl 11), (2, .inr (false, [(-1, 60)])), (3, .inr (false, [(18, 18)])), (4, .inr (false, [(19, 19)]))], [], kch31),
  (29, [(0, .inl 0), (1, .inl 11), (2, .inr (false, [(1, 60)])), (3, .inr (false, [(18, 18)])), (4, .inr (false, [(20, 20)])), (5, .inr (false, [(-9, -9)]))], [], kch31),
  (29, [(0, .inl 0), (1, .inl 11), (2, .inr (false, [(1, 60)])), (3, .inr (false, [(18, 18)])), (4, .inr (false, [(21, 21)])), (5, .inr (false, [(-9, -9)]))], [], kch31),
  (29, [(0, .inl 0), (1, .inl 11), (2, .inr (false, [(1, 60)])), (3, .inr (false, [(18, 18)])), (4, .inr (false, [(22, 22)])), (5, .inr (false, [(-9, -9)]))], [], kch31)] = true := by decide +kernel
def kcx216 : aw_A := .inr (.inl (1, 60, [], [(19, [(48, 55)])]))
def kch217 : aw_H := [(11, kcx216)]
/-- MiceRegisters.faultOfFigure -/
def kcc304 : ak_C := (18, [.inl 11, .inr (false, [(-1, 60)]), .inr (false, [(19, 19)]), .inr (false, [(0, 0)]), .inr (false, [(0, 7)])], kch24, [], [([], some (.inr (false, [(-9, -9)])), kch217), ([], some (.inr (false, [(-1, 63)])), [])])
def kcx218 : aw_A := .inr (.inl (1, 60, [], [(20, [(49, 57)]), (19, [(48, 55)])]))
def kch219 : aw_H := [(11, kcx218)]
/-- MiceRegisters.faultOfFigure -/
def kcc305 : ak_C := (18, [.inl 11, .inr (false, [(-1, 60)]), .inr (false, [(20, 20)]), .inr (false, [(1, 1)]), .inr (false, [(9, 9)])], kch217, [], [([], some (.inr (false, [(-9, -9)])), kch219), ([], some (.inr (false, [(-1, 63)])), [])])
/-- MiceRegisters.readMouse -/
def kcc306 : ak_C := (19, [.inl 0, .inl 11, .inr (false, [(-1, 60)]), .inr (false, [(18, 18)])], kch40, [24, 29, 30, 31], [([], some (.inr (false, [(-1, 63)])), kch37), ([], some (.inr (false, [(-9, -9)])), kch39)])
theorem kck306 : ai_chk [kcc28, kcc304, kcc305] kcc306 (fun pc => sm_ch sm_t19 pc, sm_Kn 2 6 none, fun x => sm_lk sm_ca2 x, some .int) [24, 29, 30, 31] 6 0 [] [] 2000 [] = true := by decide +kernel
/-- MiceRegisters.readLine -/
def kcc307 : ak_C := (17, [.inl 0, .inl 12, .inr (false, [(-1, 60)]), .inr (false, [(18, 18)])], kch41, [24, 25, 26], [([[], [], [], []], some (.inr (false, [(-1, 60)])), kch26), ([[], [], [(1, 60)], []], some (.inr (false, [(-9, -9)])), kch28)])
theorem kck307 : ai_chk [kcc32] kcc307 (fun pc => sm_ch sm_t17 pc, sm_Kn 2 6 none, fun x => sm_lk sm_ca2 x, some .int) [24, 25, 26] 6 4 [29] [] 2000 [(29, [(0, .inl 0), (1, .inl 12), (2, .inr (false, [(-1, 60)])), (3, .inr (false, [(18, 18)])), (4, .inr (false, [(19, 19)]))], [], kch42),
  (29, [(0, .inl 0), (1, .inl 12), (2, .inr (false, [(1, 60)])), (3, .inr (false, [(18, 18)])), (4, .inr (false, [(20, 20)])), (5, .inr (false, [(-9, -9)]))], [], kch42),
  (29, [(0, .inl 0), (1, .inl 12), (2, .inr (false, [(1, 60)])), (3, .inr (false, [(18, 18)])), (4, .inr (false, [(21, 21)])), (5, .inr (false, [(-9, -9)]))], [], kch42),
  (29, [(0, .inl 0), (1, .inl 12), (2, .inr (false, [(1, 60)])), (3, .inr (false, [(18, 18)])), (4, .inr (false, [(22, 22)])), (5, .inr (false, [(-9, -9)]))], [], kch42)] = true := by decide +kernel
def kch220 : aw_H := [(12, kcx216)]
/-- MiceRegisters.faultOfFigure -/
def kcc308 : ak_C := (18, [.inl 12, .inr (false, [(-1, 60)]), .inr (false, [(19, 19)]), .inr (false, [(0, 0)]), .inr (false, [(0, 7)])], kch23, [], [([], some (.inr (false, [(-9, -9)])), kch220), ([], some (.inr (false, [(-1, 63)])), [])])
def kch221 : aw_H := [(12, kcx218)]
/-- MiceRegisters.faultOfFigure -/
def kcc309 : ak_C := (18, [.inl 12, .inr (false, [(-1, 60)]), .inr (false, [(20, 20)]), .inr (false, [(1, 1)]), .inr (false, [(9, 9)])], kch220, [], [([], some (.inr (false, [(-9, -9)])), kch221), ([], some (.inr (false, [(-1, 63)])), [])])
/-- MiceRegisters.readMouse -/
def kcc310 : ak_C := (19, [.inl 0, .inl 12, .inr (false, [(-1, 60)]), .inr (false, [(18, 18)])], kch45, [24, 29, 30, 31], [([], some (.inr (false, [(-1, 63)])), kch37), ([], some (.inr (false, [(-9, -9)])), kch39)])
theorem kck310 : ai_chk [kcc28, kcc308, kcc309] kcc310 (fun pc => sm_ch sm_t19 pc, sm_Kn 2 6 none, fun x => sm_lk sm_ca2 x, some .int) [24, 29, 30, 31] 6 0 [] [] 2000 [] = true := by decide +kernel
/-- MiceRegisters.readLine -/
def kcc311 : ak_C := (17, [.inl 0, .inl 13, .inr (false, [(-1, 60)]), .inr (false, [(18, 18)])], kch46, [24, 25, 26], [([[], [], [], []], some (.inr (false, [(-1, 60)])), kch26), ([[], [], [(1, 60)], []], some (.inr (false, [(-9, -9)])), kch28)])
theorem kck311 : ai_chk [kcc37] kcc311 (fun pc => sm_ch sm_t17 pc, sm_Kn 2 6 none, fun x => sm_lk sm_ca2 x, some .int) [24, 25, 26] 6 4 [29] [] 2000 [(29, [(0, .inl 0), (1, .inl 13), (2, .inr (false, [(-1, 60)])), (3, .inr (false, [(18, 18)])), (4, .inr (false, [(19, 19)]))], [], kch47),
  (29, [(0, .inl 0), (1, .inl 13), (2, .inr (false, [(1, 60)])), (3, .inr (false, [(18, 18)])), (4, .inr (false, [(20, 20)])), (5, .inr (false, [(-9, -9)]))], [], kch47),
  (29, [(0, .inl 0), (1, .inl 13), (2, .inr (false, [(1, 60)])), (3, .inr (false, [(18, 18)])), (4, .inr (false, [(21, 21)])), (5, .inr (false, [(-9, -9)]))], [], kch47),
  (29, [(0, .inl 0), (1, .inl 13), (2, .inr (false, [(1, 60)])), (3, .inr (false, [(18, 18)])), (4, .inr (false, [(22, 22)])), (5, .inr (false, [(-9, -9)]))], [], kch47)] = true := by decide +kernel
def kch222 : aw_H := [(13, kcx216)]
/-- MiceRegisters.faultOfFigure -/
def kcc312 : ak_C := (18, [.inl 13, .inr (false, [(-1, 60)]), .inr (false, [(19, 19)]), .inr (false, [(0, 0)]), .inr (false, [(0, 7)])], kch22, [], [([], some (.inr (false, [(-9, -9)])), kch222), ([], some (.inr (false, [(-1, 63)])), [])])
def kch223 : aw_H := [(13, kcx218)]
/-- MiceRegisters.faultOfFigure -/
def kcc313 : ak_C := (18, [.inl 13, .inr (false, [(-1, 60)]), .inr (false, [(20, 20)]), .inr (false, [(1, 1)]), .inr (false, [(9, 9)])], kch222, [], [([], some (.inr (false, [(-9, -9)])), kch223), ([], some (.inr (false, [(-1, 63)])), [])])
/-- MiceRegisters.readMouse -/
def kcc314 : ak_C := (19, [.inl 0, .inl 13, .inr (false, [(-1, 60)]), .inr (false, [(18, 18)])], kch50, [24, 29, 30, 31], [([], some (.inr (false, [(-1, 63)])), kch37), ([], some (.inr (false, [(-9, -9)])), kch39)])
theorem kck314 : ai_chk [kcc28, kcc312, kcc313] kcc314 (fun pc => sm_ch sm_t19 pc, sm_Kn 2 6 none, fun x => sm_lk sm_ca2 x, some .int) [24, 29, 30, 31] 6 0 [] [] 2000 [] = true := by decide +kernel
/-- MiceRegisters.readLine -/
def kcc315 : ak_C := (17, [.inl 0, .inl 14, .inr (false, [(-1, 60)]), .inr (false, [(18, 18)])], kch51, [24, 25, 26], [([[], [], [], []], some (.inr (false, [(-1, 60)])), kch26), ([[], [], [(1, 60)], []], some (.inr (false, [(-9, -9)])), kch28)])
theorem kck315 : ai_chk [kcc42] kcc315 (fun pc => sm_ch sm_t17 pc, sm_Kn 2 6 none, fun x => sm_lk sm_ca2 x, some .int) [24, 25, 26] 6 4 [29] [] 2000 [(29, [(0, .inl 0), (1, .inl 14), (2, .inr (false, [(-1, 60)])), (3, .inr (false, [(18, 18)])), (4, .inr (false, [(19, 19)]))], [], kch52),
  (29, [(0, .inl 0), (1, .inl 14), (2, .inr (false, [(1, 60)])), (3, .inr (false, [(18, 18)])), (4, .inr (false, [(20, 20)])), (5, .inr (false, [(-9, -9)]))], [], kch52),
  (29, [(0, .inl 0), (1, .inl 14), (2, .inr (false, [(1, 60)])), (3, .inr (false, [(18, 18)])), (4, .inr (false, [(21, 21)])), (5, .inr (false, [(-9, -9)]))], [], kch52),
  (29, [(0, .inl 0), (1, .inl 14), (2, .inr (false, [(1, 60)])), (3, .inr (false, [(18, 18)])), (4, .inr (false, [(22, 22)])), (5, .inr (false, [(-9, -9)]))], [], kch52)] = true := by decide +kernel
def kch224 : aw_H := [(14, kcx216)]
/-- MiceRegisters.faultOfFigure -/
def kcc316 : ak_C := (18, [.inl 14, .inr (false, [(-1, 60)]), .inr (false, [(19, 19)]), .inr (false, [(0, 0)]), .inr (false, [(0, 7)])], kch21, [], [([], some (.inr (false, [(-9, -9)])), kch224), ([], some (.inr (false, [(-1, 63)])), [])])
def kch225 : aw_H := [(14, kcx218)]
/-- MiceRegisters.faultOfFigure -/
def kcc317 : ak_C := (18, [.inl 14, .inr (false, [(-1, 60)]), .inr (false, [(20, 20)]), .inr (false, [(1, 1)]), .inr (false, [(9, 9)])], kch224, [], [([], some (.inr (false, [(-9, -9)])), kch225), ([], some (.inr (false, [(-1, 63)])), [])])
/-- MiceRegisters.readMouse -/
def kcc318 : ak_C := (19, [.inl 0, .inl 14, .inr (false, [(-1, 60)]), .inr (false, [(18, 18)])], kch55, [24, 29, 30, 31], [([], some (.inr (false, [(-1, 63)])), kch37), ([], some (.inr (false, [(-9, -9)])), kch39)])
theorem kck318 : ai_chk [kcc28, kcc316, kcc317] kcc318 (fun pc => sm_ch sm_t19 pc, sm_Kn 2 6 none, fun x => sm_lk sm_ca2 x, some .int) [24, 29, 30, 31] 6 0 [] [] 2000 [] = true := by decide +kernel
/-- MiceRegisters.readLine -/
def kcc319 : ak_C := (17, [.inl 0, .inl 11, .inr (false, [(-1, 60)]), .inr (false, [(19, 19)])], kch29, [24, 25, 26], [([[], [], [], []], some (.inr (false, [(-1, 60)])), kch26), ([[], [], [(1, 60)], []], some (.inr (false, [(-9, -9)])), kch28)])
theorem kck319 : ai_chk [kcc26] kcc319 (fun pc => sm_ch sm_t17 pc, sm_Kn 2 6 none, fun x => sm_lk sm_ca2 x, some .int) [24, 25, 26] 6 4 [29] [] 2000 [(29, [(0, .inl 0), (1, .inl 11), (2, .inr (false, [(-1, 60)])), (3, .inr (false, [(19, 19)])), (4, .inr (false, [(20, 20)]))], [], kch31),
  (29, [(0, .inl 0), (1, .inl 11), (2, .inr (false, [(1, 60)])), (3, .inr (false, [(19, 19)])), (4, .inr (false, [(21, 21)])), (5, .inr (false, [(-9, -9)]))], [], kch31),
  (29, [(0, .inl 0), (1, .inl 11), (2, .inr (false, [(1, 60)])), (3, .inr (false, [(19, 19)])), (4, .inr (false, [(22, 22)])), (5, .inr (false, [(-9, -9)]))], [], kch31),
  (29, [(0, .inl 0), (1, .inl 11), (2, .inr (false, [(1, 60)])), (3, .inr (false, [(19, 19)])), (4, .inr (false, [(23, 23)])), (5, .inr (false, [(-9, -9)]))], [], kch31)] = true := by decide +kernel
def kcx226 : aw_A := .inr (.inl (1, 60, [], [(20, [(48, 55)])]))
def kch227 : aw_H := [(11, kcx226)]
/-- MiceRegisters.faultOfFigure -/
def kcc320 : ak_C := (18, [.inl 11, .inr (false, [(-1, 60)]), .inr (false, [(20, 20)]), .inr (false, [(0, 0)]), .inr (false, [(0, 7)])], kch24, [], [([], some (.inr (false, [(-9, -9)])), kch227), ([], some (.inr (false, [(-1, 63)])), [])])
def kcx228 : aw_A := .inr (.inl (1, 60, [], [(21, [(49, 57)]), (20, [(48, 55)])]))
def kch229 : aw_H := [(11, kcx228)]
/-- MiceRegisters.faultOfFigure -/
def kcc321 : ak_C := (18, [.inl 11, .inr (false, [(-1, 60)]), .inr (false, [(21, 21)]), .inr (false, [(1, 1)]), .inr (false, [(9, 9)])], kch227, [], [([], some (.inr (false, [(-9, -9)])), kch229), ([], some (.inr (false, [(-1, 63)])), [])])
/-- MiceRegisters.readMouse -/
def kcc322 : ak_C := (19, [.inl 0, .inl 11, .inr (false, [(-1, 60)]), .inr (false, [(19, 19)])], kch40, [24, 29, 30, 31], [([], some (.inr (false, [(-1, 63)])), kch37), ([], some (.inr (false, [(-9, -9)])), kch39)])
theorem kck322 : ai_chk [kcc28, kcc320, kcc321] kcc322 (fun pc => sm_ch sm_t19 pc, sm_Kn 2 6 none, fun x => sm_lk sm_ca2 x, some .int) [24, 29, 30, 31] 6 0 [] [] 2000 [] = true := by decide +kernel
/-- MiceRegisters.readLine -/
def kcc323 : ak_C := (17, [.inl 0, .inl 12, .inr (false, [(-1, 60)]), .inr (false, [(19, 19)])], kch41, [24, 25, 26], [([[], [], [], []], some (.inr (false, [(-1, 60)])), kch26), ([[], [], [(1, 60)], []], some (.inr (false, [(-9, -9)])), kch28)])
theorem kck323 : ai_chk [kcc32] kcc323 (fun pc => sm_ch sm_t17 pc, sm_Kn 2 6 none, fun x => sm_lk sm_ca2 x, some .int) [24, 25, 26] 6 4 [29] [] 2000 [(29, [(0, .inl 0), (1, .inl 12), (2, .inr (false, [(-1, 60)])), (3, .inr (false, [(19, 19)])), (4, .inr (false, [(20, 20)]))], [], kch42),
  (29, [(0, .inl 0), (1, .inl 12), (2, .inr (false, [(1, 60)])), (3, .inr (false, [(19, 19)])), (4, .inr (false, [(21, 21)])), (5, .inr (false, [(-9, -9)]))], [], kch42),
  (29, [(0, .inl 0), (1, .inl 12), (2, .inr (false, [(1, 60)])), (3, .inr (false, [(19, 19)])), (4, .inr (false, [(22, 22)])), (5, .inr (false, [(-9, -9)]))], [], kch42),
  (29, [(0, .inl 0), (1, .inl 12), (2, .inr (false, [(1, 60)])), (3, .inr (false, [(19, 19)])), (4, .inr (false, [(23, 23)])), (5, .inr (false, [(-9, -9)]))], [], kch42)] = true := by decide +kernel
def kch230 : aw_H := [(12, kcx226)]
/-- MiceRegisters.faultOfFigure -/
def kcc324 : ak_C := (18, [.inl 12, .inr (false, [(-1, 60)]), .inr (false, [(20, 20)]), .inr (false, [(0, 0)]), .inr (false, [(0, 7)])], kch23, [], [([], some (.inr (false, [(-9, -9)])), kch230), ([], some (.inr (false, [(-1, 63)])), [])])
def kch231 : aw_H := [(12, kcx228)]
/-- MiceRegisters.faultOfFigure -/
def kcc325 : ak_C := (18, [.inl 12, .inr (false, [(-1, 60)]), .inr (false, [(21, 21)]), .inr (false, [(1, 1)]), .inr (false, [(9, 9)])], kch230, [], [([], some (.inr (false, [(-9, -9)])), kch231), ([], some (.inr (false, [(-1, 63)])), [])])
/-- MiceRegisters.readMouse -/
def kcc326 : ak_C := (19, [.inl 0, .inl 12, .inr (false, [(-1, 60)]), .inr (false, [(19, 19)])], kch45, [24, 29, 30, 31], [([], some (.inr (false, [(-1, 63)])), kch37), ([], some (.inr (false, [(-9, -9)])), kch39)])
theorem kck326 : ai_chk [kcc28, kcc324, kcc325] kcc326 (fun pc => sm_ch sm_t19 pc, sm_Kn 2 6 none, fun x => sm_lk sm_ca2 x, some .int) [24, 29, 30, 31] 6 0 [] [] 2000 [] = true := by decide +kernel
/-- MiceRegisters.readLine -/
def kcc327 : ak_C := (17, [.inl 0, .inl 13, .inr (false, [(-1, 60)]), .inr (false, [(19, 19)])], kch46, [24, 25, 26], [([[], [], [], []], some (.inr (false, [(-1, 60)])), kch26), ([[], [], [(1, 60)], []], some (.inr (false, [(-9, -9)])), kch28)])
theorem kck327 : ai_chk [kcc37] kcc327 (fun pc => sm_ch sm_t17 pc, sm_Kn 2 6 none, fun x => sm_lk sm_ca2 x, some .int) [24, 25, 26] 6 4 [29] [] 2000 [(29, [(0, .inl 0), (1, .inl 13), (2, .inr (false, [(-1, 60)])), (3, .inr (false, [(19, 19)])), (4, .inr (false, [(20, 20)]))], [], kch47),
  (29, [(0, .inl 0), (1, .inl 13), (2, .inr (false, [(1, 60)])), (3, .inr (false, [(19, 19)])), (4, .inr (false, [(21, 21)])), (5, .inr (false, [(-9, -9)]))], [], kch47),
  (29, [(0, .inl 0), (1, .inl 13), (2, .inr (false, [(1, 60)])), (3, .inr (false, [(19, 19)])), (4, .inr (false, [(22, 22)])), (5, .inr (false, [(-9, -9)]))], [], kch47),
  (29, [(0, .inl 0), (1, .inl 13), (2, .inr (false, [(1, 60)])), (3, .inr (false, [(19, 19)])), (4, .inr (false, [(23, 23)])), (5, .inr (false, [(-9, -9)]))], [], kch47)] = true := by decide +kernel
def kch232 : aw_H := [(13, kcx226)]
/-- MiceRegisters.faultOfFigure -/
def kcc328 : ak_C := (18, [.inl 13, .inr (false, [(-1, 60)]), .inr (false, [(20, 20)]), .inr (false, [(0, 0)]), .inr (false, [(0, 7)])], kch22, [], [([], some (.inr (false, [(-9, -9)])), kch232), ([], some (.inr (false, [(-1, 63)])), [])])
def kch233 : aw_H := [(13, kcx228)]
/-- MiceRegisters.faultOfFigure -/
def kcc329 : ak_C := (18, [.inl 13, .inr (false, [(-1, 60)]), .inr (false, [(21, 21)]), .inr (false, [(1, 1)]), .inr (false, [(9, 9)])], kch232, [], [([], some (.inr (false, [(-9, -9)])), kch233), ([], some (.inr (false, [(-1, 63)])), [])])
/-- MiceRegisters.readMouse -/
def kcc330 : ak_C := (19, [.inl 0, .inl 13, .inr (false, [(-1, 60)]), .inr (false, [(19, 19)])], kch50, [24, 29, 30, 31], [([], some (.inr (false, [(-1, 63)])), kch37), ([], some (.inr (false, [(-9, -9)])), kch39)])
theorem kck330 : ai_chk [kcc28, kcc328, kcc329] kcc330 (fun pc => sm_ch sm_t19 pc, sm_Kn 2 6 none, fun x => sm_lk sm_ca2 x, some .int) [24, 29, 30, 31] 6 0 [] [] 2000 [] = true := by decide +kernel
/-- MiceRegisters.readLine -/
def kcc331 : ak_C := (17, [.inl 0, .inl 14, .inr (false, [(-1, 60)]), .inr (false, [(19, 19)])], kch51, [24, 25, 26], [([[], [], [], []], some (.inr (false, [(-1, 60)])), kch26), ([[], [], [(1, 60)], []], some (.inr (false, [(-9, -9)])), kch28)])
theorem kck331 : ai_chk [kcc42] kcc331 (fun pc => sm_ch sm_t17 pc, sm_Kn 2 6 none, fun x => sm_lk sm_ca2 x, some .int) [24, 25, 26] 6 4 [29] [] 2000 [(29, [(0, .inl 0), (1, .inl 14), (2, .inr (false, [(-1, 60)])), (3, .inr (false, [(19, 19)])), (4, .inr (false, [(20, 20)]))], [], kch52),
  (29, [(0, .inl 0), (1, .inl 14), (2, .inr (false, [(1, 60)])), (3, .inr (false, [(19, 19)])), (4, .inr (false, [(21, 21)])), (5, .inr (false, [(-9, -9)]))], [], kch52),
  (29, [(0, .inl 0), (1, .inl 14), (2, .inr (false, [(1, 60)])), (3, .inr (false, [(19, 19)])), (4, .inr (false, [(22, 22)])), (5, .inr (false, [(-9, -9)]))], [], kch52),
  (29, [(0, .inl 0), (1, .inl 14), (2, .inr (false, [(1, 60)])), (3, .inr (false, [(19, 19)])), (4, .inr (false, [(23, 23)])), (5, .inr (false, [(-9, -9)]))], [], kch52)] = true := by decide +kernel
def kch234 : aw_H := [(14, kcx226)]
/-- MiceRegisters.faultOfFigure -/
def kcc332 : ak_C := (18, [.inl 14, .inr (false, [(-1, 60)]), .inr (false, [(20, 20)]), .inr (false, [(0, 0)]), .inr (false, [(0, 7)])], kch21, [], [([], some (.inr (false, [(-9, -9)])), kch234), ([], some (.inr (false, [(-1, 63)])), [])])
def kch235 : aw_H := [(14, kcx228)]
/-- MiceRegisters.faultOfFigure -/
def kcc333 : ak_C := (18, [.inl 14, .inr (false, [(-1, 60)]), .inr (false, [(21, 21)]), .inr (false, [(1, 1)]), .inr (false, [(9, 9)])], kch234, [], [([], some (.inr (false, [(-9, -9)])), kch235), ([], some (.inr (false, [(-1, 63)])), [])])
/-- MiceRegisters.readMouse -/
def kcc334 : ak_C := (19, [.inl 0, .inl 14, .inr (false, [(-1, 60)]), .inr (false, [(19, 19)])], kch55, [24, 29, 30, 31], [([], some (.inr (false, [(-1, 63)])), kch37), ([], some (.inr (false, [(-9, -9)])), kch39)])
theorem kck334 : ai_chk [kcc28, kcc332, kcc333] kcc334 (fun pc => sm_ch sm_t19 pc, sm_Kn 2 6 none, fun x => sm_lk sm_ca2 x, some .int) [24, 29, 30, 31] 6 0 [] [] 2000 [] = true := by decide +kernel
/-- MiceRegisters.readLine -/
def kcc335 : ak_C := (17, [.inl 0, .inl 11, .inr (false, [(-1, 60)]), .inr (false, [(20, 20)])], kch29, [24, 25, 26], [([[], [], [], []], some (.inr (false, [(-1, 60)])), kch26), ([[], [], [(1, 60)], []], some (.inr (false, [(-9, -9)])), kch28)])
theorem kck335 : ai_chk [kcc26] kcc335 (fun pc => sm_ch sm_t17 pc, sm_Kn 2 6 none, fun x => sm_lk sm_ca2 x, some .int) [24, 25, 26] 6 4 [29] [] 2000 [(29, [(0, .inl 0), (1, .inl 11), (2, .inr (false, [(-1, 60)])), (3, .inr (false, [(20, 20)])), (4, .inr (false, [(21, 21)]))], [], kch31),
  (29, [(0, .inl 0), (1, .inl 11), (2, .inr (false, [(1, 60)])), (3, .inr (false, [(20, 20)])), (4, .inr (false, [(22, 22)])), (5, .inr (false, [(-9, -9)]))], [], kch31),
  (29, [(0, .inl 0), (1, .inl 11), (2, .inr (false, [(1, 60)])), (3, .inr (false, [(20, 20)])), (4, .inr (false, [(23, 23)])), (5, .inr (false, [(-9, -9)]))], [], kch31),
  (29, [(0, .inl 0), (1, .inl 11), (2, .inr (false, [(1, 60)])), (3, .inr (false, [(20, 20)])), (4, .inr (false, [(24, 24)])), (5, .inr (false, [(-9, -9)]))], [], kch31)] = true := by decide +kernel
def kcx236 : aw_A := .inr (.inl (1, 60, [], [(21, [(48, 55)])]))
def kch237 : aw_H := [(11, kcx236)]
/-- MiceRegisters.faultOfFigure -/
def kcc336 : ak_C := (18, [.inl 11, .inr (false, [(-1, 60)]), .inr (false, [(21, 21)]), .inr (false, [(0, 0)]), .inr (false, [(0, 7)])], kch24, [], [([], some (.inr (false, [(-9, -9)])), kch237), ([], some (.inr (false, [(-1, 63)])), [])])
def kcx238 : aw_A := .inr (.inl (1, 60, [], [(22, [(49, 57)]), (21, [(48, 55)])]))
def kch239 : aw_H := [(11, kcx238)]
/-- MiceRegisters.faultOfFigure -/
def kcc337 : ak_C := (18, [.inl 11, .inr (false, [(-1, 60)]), .inr (false, [(22, 22)]), .inr (false, [(1, 1)]), .inr (false, [(9, 9)])], kch237, [], [([], some (.inr (false, [(-9, -9)])), kch239), ([], some (.inr (false, [(-1, 63)])), [])])
/-- MiceRegisters.readMouse -/
def kcc338 : ak_C := (19, [.inl 0, .inl 11, .inr (false, [(-1, 60)]), .inr (false, [(20, 20)])], kch40, [24, 29, 30, 31], [([], some (.inr (false, [(-1, 63)])), kch37), ([], some (.inr (false, [(-9, -9)])), kch39)])
theorem kck338 : ai_chk [kcc28, kcc336, kcc337] kcc338 (fun pc => sm_ch sm_t19 pc, sm_Kn 2 6 none, fun x => sm_lk sm_ca2 x, some .int) [24, 29, 30, 31] 6 0 [] [] 2000 [] = true := by decide +kernel
/-- MiceRegisters.readLine -/
def kcc339 : ak_C := (17, [.inl 0, .inl 12, .inr (false, [(-1, 60)]), .inr (false, [(20, 20)])], kch41, [24, 25, 26], [([[], [], [], []], some (.inr (false, [(-1, 60)])), kch26), ([[], [], [(1, 60)], []], some (.inr (false, [(-9, -9)])), kch28)])
theorem kck339 : ai_chk [kcc32] kcc339 (fun pc => sm_ch sm_t17 pc, sm_Kn 2 6 none, fun x => sm_lk sm_ca2 x, some .int) [24, 25, 26] 6 4 [29] [] 2000 [(29, [(0, .inl 0), (1, .inl 12), (2, .inr (false, [(-1, 60)])), (3, .inr (false, [(20, 20)])), (4, .inr (false, [(21, 21)]))], [], kch42),
  (29, [(0, .inl 0), (1, .inl 12), (2, .inr (false, [(1, 60)])), (3, .inr (false, [(20, 20)])), (4, .inr (false, [(22, 22)])), (5, .inr (false, [(-9, -9)]))], [], kch42),
  (29, [(0, .inl 0), (1, .inl 12), (2, .inr (false, [(1, 60)])), (3, .inr (false, [(20, 20)])), (4, .inr (false, [(23, 23)])), (5, .inr (false, [(-9, -9)]))], [], kch42),
  (29, [(0, .inl 0), (1, .inl 12), (2, .inr (false, [(1, 60)])), (3, .inr (false, [(20, 20)])), (4, .inr (false, [(24, 24)])), (5, .inr (false, [(-9, -9)]))], [], kch42)] = true := by decide +kernel
def kch240 : aw_H := [(12, kcx236)]
/-- MiceRegisters.faultOfFigure -/
def kcc340 : ak_C := (18, [.inl 12, .inr (false, [(-1, 60)]), .inr (false, [(21, 21)]), .inr (false, [(0, 0)]), .inr (false, [(0, 7)])], kch23, [], [([], some (.inr (false, [(-9, -9)])), kch240), ([], some (.inr (false, [(-1, 63)])), [])])
def kch241 : aw_H := [(12, kcx238)]
/-- MiceRegisters.faultOfFigure -/
def kcc341 : ak_C := (18, [.inl 12, .inr (false, [(-1, 60)]), .inr (false, [(22, 22)]), .inr (false, [(1, 1)]), .inr (false, [(9, 9)])], kch240, [], [([], some (.inr (false, [(-9, -9)])), kch241), ([], some (.inr (false, [(-1, 63)])), [])])
/-- MiceRegisters.readMouse -/
def kcc342 : ak_C := (19, [.inl 0, .inl 12, .inr (false, [(-1, 60)]), .inr (false, [(20, 20)])], kch45, [24, 29, 30, 31], [([], some (.inr (false, [(-1, 63)])), kch37), ([], some (.inr (false, [(-9, -9)])), kch39)])
theorem kck342 : ai_chk [kcc28, kcc340, kcc341] kcc342 (fun pc => sm_ch sm_t19 pc, sm_Kn 2 6 none, fun x => sm_lk sm_ca2 x, some .int) [24, 29, 30, 31] 6 0 [] [] 2000 [] = true := by decide +kernel
/-- MiceRegisters.readLine -/
def kcc343 : ak_C := (17, [.inl 0, .inl 13, .inr (false, [(-1, 60)]), .inr (false, [(20, 20)])], kch46, [24, 25, 26], [([[], [], [], []], some (.inr (false, [(-1, 60)])), kch26), ([[], [], [(1, 60)], []], some (.inr (false, [(-9, -9)])), kch28)])
theorem kck343 : ai_chk [kcc37] kcc343 (fun pc => sm_ch sm_t17 pc, sm_Kn 2 6 none, fun x => sm_lk sm_ca2 x, some .int) [24, 25, 26] 6 4 [29] [] 2000 [(29, [(0, .inl 0), (1, .inl 13), (2, .inr (false, [(-1, 60)])), (3, .inr (false, [(20, 20)])), (4, .inr (false, [(21, 21)]))], [], kch47),
  (29, [(0, .inl 0), (1, .inl 13), (2, .inr (false, [(1, 60)])), (3, .inr (false, [(20, 20)])), (4, .inr (false, [(22, 22)])), (5, .inr (false, [(-9, -9)]))], [], kch47),
  (29, [(0, .inl 0), (1, .inl 13), (2, .inr (false, [(1, 60)])), (3, .inr (false, [(20, 20)])), (4, .inr (false, [(23, 23)])), (5, .inr (false, [(-9, -9)]))], [], kch47),
  (29, [(0, .inl 0), (1, .inl 13), (2, .inr (false, [(1, 60)])), (3, .inr (false, [(20, 20)])), (4, .inr (false, [(24, 24)])), (5, .inr (false, [(-9, -9)]))], [], kch47)] = true := by decide +kernel
def kch242 : aw_H := [(13, kcx236)]
/-- MiceRegisters.faultOfFigure -/
def kcc344 : ak_C := (18, [.inl 13, .inr (false, [(-1, 60)]), .inr (false, [(21, 21)]), .inr (false, [(0, 0)]), .inr (false, [(0, 7)])], kch22, [], [([], some (.inr (false, [(-9, -9)])), kch242), ([], some (.inr (false, [(-1, 63)])), [])])
def kch243 : aw_H := [(13, kcx238)]
/-- MiceRegisters.faultOfFigure -/
def kcc345 : ak_C := (18, [.inl 13, .inr (false, [(-1, 60)]), .inr (false, [(22, 22)]), .inr (false, [(1, 1)]), .inr (false, [(9, 9)])], kch242, [], [([], some (.inr (false, [(-9, -9)])), kch243), ([], some (.inr (false, [(-1, 63)])), [])])
/-- MiceRegisters.readMouse -/
def kcc346 : ak_C := (19, [.inl 0, .inl 13, .inr (false, [(-1, 60)]), .inr (false, [(20, 20)])], kch50, [24, 29, 30, 31], [([], some (.inr (false, [(-1, 63)])), kch37), ([], some (.inr (false, [(-9, -9)])), kch39)])
theorem kck346 : ai_chk [kcc28, kcc344, kcc345] kcc346 (fun pc => sm_ch sm_t19 pc, sm_Kn 2 6 none, fun x => sm_lk sm_ca2 x, some .int) [24, 29, 30, 31] 6 0 [] [] 2000 [] = true := by decide +kernel
/-- MiceRegisters.readLine -/
def kcc347 : ak_C := (17, [.inl 0, .inl 14, .inr (false, [(-1, 60)]), .inr (false, [(20, 20)])], kch51, [24, 25, 26], [([[], [], [], []], some (.inr (false, [(-1, 60)])), kch26), ([[], [], [(1, 60)], []], some (.inr (false, [(-9, -9)])), kch28)])
theorem kck347 : ai_chk [kcc42] kcc347 (fun pc => sm_ch sm_t17 pc, sm_Kn 2 6 none, fun x => sm_lk sm_ca2 x, some .int) [24, 25, 26] 6 4 [29] [] 2000 [(29, [(0, .inl 0), (1, .inl 14), (2, .inr (false, [(-1, 60)])), (3, .inr (false, [(20, 20)])), (4, .inr (false, [(21, 21)]))], [], kch52),
  (29, [(0, .inl 0), (1, .inl 14), (2, .inr (false, [(1, 60)])), (3, .inr (false, [(20, 20)])), (4, .inr (false, [(22, 22)])), (5, .inr (false, [(-9, -9)]))], [], kch52),
  (29, [(0, .inl 0), (1, .inl 14), (2, .inr (false, [(1, 60)])), (3, .inr (false, [(20, 20)])), (4, .inr (false, [(23, 23)])), (5, .inr (false, [(-9, -9)]))], [], kch52),
  (29, [(0, .inl 0), (1, .inl 14), (2, .inr (false, [(1, 60)])), (3, .inr (false, [(20, 20)])), (4, .inr (false, [(24, 24)])), (5, .inr (false, [(-9, -9)]))], [], kch52)] = true := by decide +kernel
def kch244 : aw_H := [(14, kcx236)]
/-- MiceRegisters.faultOfFigure -/
def kcc348 : ak_C := (18, [.inl 14, .inr (false, [(-1, 60)]), .inr (false, [(21, 21)]), .inr (false, [(0, 0)]), .inr (false, [(0, 7)])], kch21, [], [([], some (.inr (false, [(-9, -9)])), kch244), ([], some (.inr (false, [(-1, 63)])), [])])
def kch245 : aw_H := [(14, kcx238)]
/-- MiceRegisters.faultOfFigure -/
def kcc349 : ak_C := (18, [.inl 14, .inr (false, [(-1, 60)]), .inr (false, [(22, 22)]), .inr (false, [(1, 1)]), .inr (false, [(9, 9)])], kch244, [], [([], some (.inr (false, [(-9, -9)])), kch245), ([], some (.inr (false, [(-1, 63)])), [])])
/-- MiceRegisters.readMouse -/
def kcc350 : ak_C := (19, [.inl 0, .inl 14, .inr (false, [(-1, 60)]), .inr (false, [(20, 20)])], kch55, [24, 29, 30, 31], [([], some (.inr (false, [(-1, 63)])), kch37), ([], some (.inr (false, [(-9, -9)])), kch39)])
theorem kck350 : ai_chk [kcc28, kcc348, kcc349] kcc350 (fun pc => sm_ch sm_t19 pc, sm_Kn 2 6 none, fun x => sm_lk sm_ca2 x, some .int) [24, 29, 30, 31] 6 0 [] [] 2000 [] = true := by decide +kernel
/-- MiceRegisters.readLine -/
def kcc351 : ak_C := (17, [.inl 0, .inl 11, .inr (false, [(-1, 60)]), .inr (false, [(21, 21)])], kch29, [24, 25, 26], [([[], [], [], []], some (.inr (false, [(-1, 60)])), kch26), ([[], [], [(1, 60)], []], some (.inr (false, [(-9, -9)])), kch28)])
theorem kck351 : ai_chk [kcc26] kcc351 (fun pc => sm_ch sm_t17 pc, sm_Kn 2 6 none, fun x => sm_lk sm_ca2 x, some .int) [24, 25, 26] 6 4 [29] [] 2000 [(29, [(0, .inl 0), (1, .inl 11), (2, .inr (false, [(-1, 60)])), (3, .inr (false, [(21, 21)])), (4, .inr (false, [(22, 22)]))], [], kch31),
  (29, [(0, .inl 0), (1, .inl 11), (2, .inr (false, [(1, 60)])), (3, .inr (false, [(21, 21)])), (4, .inr (false, [(23, 23)])), (5, .inr (false, [(-9, -9)]))], [], kch31),
  (29, [(0, .inl 0), (1, .inl 11), (2, .inr (false, [(1, 60)])), (3, .inr (false, [(21, 21)])), (4, .inr (false, [(24, 24)])), (5, .inr (false, [(-9, -9)]))], [], kch31),
  (29, [(0, .inl 0), (1, .inl 11), (2, .inr (false, [(1, 60)])), (3, .inr (false, [(21, 21)])), (4, .inr (false, [(25, 25)])), (5, .inr (false, [(-9, -9)]))], [], kch31)] = true := by decide +kernel
def kcx246 : aw_A := .inr (.inl (1, 60, [], [(22, [(48, 55)])]))
def kch247 : aw_H := [(11, kcx246)]
/-- MiceRegisters.faultOfFigure -/
def kcc352 : ak_C := (18, [.inl 11, .inr (false, [(-1, 60)]), .inr (false, [(22, 22)]), .inr (false, [(0, 0)]), .inr (false, [(0, 7)])], kch24, [], [([], some (.inr (false, [(-9, -9)])), kch247), ([], some (.inr (false, [(-1, 63)])), [])])
def kcx248 : aw_A := .inr (.inl (1, 60, [], [(23, [(49, 57)]), (22, [(48, 55)])]))
def kch249 : aw_H := [(11, kcx248)]
/-- MiceRegisters.faultOfFigure -/
def kcc353 : ak_C := (18, [.inl 11, .inr (false, [(-1, 60)]), .inr (false, [(23, 23)]), .inr (false, [(1, 1)]), .inr (false, [(9, 9)])], kch247, [], [([], some (.inr (false, [(-9, -9)])), kch249), ([], some (.inr (false, [(-1, 63)])), [])])
/-- MiceRegisters.readMouse -/
def kcc354 : ak_C := (19, [.inl 0, .inl 11, .inr (false, [(-1, 60)]), .inr (false, [(21, 21)])], kch40, [24, 29, 30, 31], [([], some (.inr (false, [(-1, 63)])), kch37), ([], some (.inr (false, [(-9, -9)])), kch39)])
theorem kck354 : ai_chk [kcc28, kcc352, kcc353] kcc354 (fun pc => sm_ch sm_t19 pc, sm_Kn 2 6 none, fun x => sm_lk sm_ca2 x, some .int) [24, 29, 30, 31] 6 0 [] [] 2000 [] = true := by decide +kernel
/-- MiceRegisters.readLine -/
def kcc355 : ak_C := (17, [.inl 0, .inl 12, .inr (false, [(-1, 60)]), .inr (false, [(21, 21)])], kch41, [24, 25, 26], [([[], [], [], []], some (.inr (false, [(-1, 60)])), kch26), ([[], [], [(1, 60)], []], some (.inr (false, [(-9, -9)])), kch28)])
theorem kck355 : ai_chk [kcc32] kcc355 (fun pc => sm_ch sm_t17 pc, sm_Kn 2 6 none, fun x => sm_lk sm_ca2 x, some .int) [24, 25, 26] 6 4 [29] [] 2000 [(29, [(0, .inl 0), (1, .inl 12), (2, .inr (false, [(-1, 60)])), (3, .inr (false, [(21, 21)])), (4, .inr (false, [(22, 22)]))], [], kch42),
  (29, [(0, .inl 0), (1, .inl 12), (2, .inr (false, [(1, 60)])), (3, .inr (false, [(21, 21)])), (4, .inr (false, [(23, 23)])), (5, .inr (false, [(-9, -9)]))], [], kch42),
  (29, [(0, .inl 0), (1, .inl 12), (2, .inr (false, [(1, 60)])), (3, .inr (false, [(21, 21)])), (4, .inr (false, [(24, 24)])), (5, .inr (false, [(-9, -9)]))], [], kch42),
  (29, [(0, .inl 0), (1, .inl 12), (2, .inr (false, [(1, 60)])), (3, .inr (false, [(21, 21)])), (4, .inr (false, [(25, 25)])), (5, .inr (false, [(-9, -9)]))], [], kch42)] = true := by decide +kernel
def kch250 : aw_H := [(12, kcx246)]
/-- MiceRegisters.faultOfFigure -/
def kcc356 : ak_C := (18, [.inl 12, .inr (false, [(-1, 60)]), .inr (false, [(22, 22)]), .inr (false, [(0, 0)]), .inr (false, [(0, 7)])], kch23, [], [([], some (.inr (false, [(-9, -9)])), kch250), ([], some (.inr (false, [(-1, 63)])), [])])
def kch251 : aw_H := [(12, kcx248)]
/-- MiceRegisters.faultOfFigure -/
def kcc357 : ak_C := (18, [.inl 12, .inr (false, [(-1, 60)]), .inr (false, [(23, 23)]), .inr (false, [(1, 1)]), .inr (false, [(9, 9)])], kch250, [], [([], some (.inr (false, [(-9, -9)])), kch251), ([], some (.inr (false, [(-1, 63)])), [])])
/-- MiceRegisters.readMouse -/
def kcc358 : ak_C := (19, [.inl 0, .inl 12, .inr (false, [(-1, 60)]), .inr (false, [(21, 21)])], kch45, [24, 29, 30, 31], [([], some (.inr (false, [(-1, 63)])), kch37), ([], some (.inr (false, [(-9, -9)])), kch39)])
theorem kck358 : ai_chk [kcc28, kcc356, kcc357] kcc358 (fun pc => sm_ch sm_t19 pc, sm_Kn 2 6 none, fun x => sm_lk sm_ca2 x, some .int) [24, 29, 30, 31] 6 0 [] [] 2000 [] = true := by decide +kernel
/-- MiceRegisters.readLine -/
def kcc359 : ak_C := (17, [.inl 0, .inl 13, .inr (false, [(-1, 60)]), .inr (false, [(21, 21)])], kch46, [24, 25, 26], [([[], [], [], []], some (.inr (false, [(-1, 60)])), kch26), ([[], [], [(1, 60)], []], some (.inr (false, [(-9, -9)])), kch28)])
theorem kck359 : ai_chk [kcc37] kcc359 (fun pc => sm_ch sm_t17 pc, sm_Kn 2 6 none, fun x => sm_lk sm_ca2 x, some .int) [24, 25, 26] 6 4 [29] [] 2000 [(29, [(0, .inl 0), (1, .inl 13), (2, .inr (false, [(-1, 60)])), (3, .inr (false, [(21, 21)])), (4, .inr (false, [(22, 22)]))], [], kch47),
  (29, [(0, .inl 0), (1, .inl 13), (2, .inr (false, [(1, 60)])), (3, .inr (false, [(21, 21)])), (4, .inr (false, [(23, 23)])), (5, .inr (false, [(-9, -9)]))], [], kch47),
  (29, [(0, .inl 0), (1, .inl 13), (2, .inr (false, [(1, 60)])), (3, .inr (false, [(21, 21)])), (4, .inr (false, [(24, 24)])), (5, .inr (false, [(-9, -9)]))], [], kch47),
  (29, [(0, .inl 0), (1, .inl 13), (2, .inr (false, [(1, 60)])), (3, .inr (false, [(21, 21)])), (4, .inr (false, [(25, 25)])), (5, .inr (false, [(-9, -9)]))], [], kch47)] = true := by decide +kernel
def kch252 : aw_H := [(13, kcx246)]
/-- MiceRegisters.faultOfFigure -/
def kcc360 : ak_C := (18, [.inl 13, .inr (false, [(-1, 60)]), .inr (false, [(22, 22)]), .inr (false, [(0, 0)]), .inr (false, [(0, 7)])], kch22, [], [([], some (.inr (false, [(-9, -9)])), kch252), ([], some (.inr (false, [(-1, 63)])), [])])
def kch253 : aw_H := [(13, kcx248)]
/-- MiceRegisters.faultOfFigure -/
def kcc361 : ak_C := (18, [.inl 13, .inr (false, [(-1, 60)]), .inr (false, [(23, 23)]), .inr (false, [(1, 1)]), .inr (false, [(9, 9)])], kch252, [], [([], some (.inr (false, [(-9, -9)])), kch253), ([], some (.inr (false, [(-1, 63)])), [])])
/-- MiceRegisters.readMouse -/
def kcc362 : ak_C := (19, [.inl 0, .inl 13, .inr (false, [(-1, 60)]), .inr (false, [(21, 21)])], kch50, [24, 29, 30, 31], [([], some (.inr (false, [(-1, 63)])), kch37), ([], some (.inr (false, [(-9, -9)])), kch39)])
theorem kck362 : ai_chk [kcc28, kcc360, kcc361] kcc362 (fun pc => sm_ch sm_t19 pc, sm_Kn 2 6 none, fun x => sm_lk sm_ca2 x, some .int) [24, 29, 30, 31] 6 0 [] [] 2000 [] = true := by decide +kernel
/-- MiceRegisters.readLine -/
def kcc363 : ak_C := (17, [.inl 0, .inl 14, .inr (false, [(-1, 60)]), .inr (false, [(21, 21)])], kch51, [24, 25, 26], [([[], [], [], []], some (.inr (false, [(-1, 60)])), kch26), ([[], [], [(1, 60)], []], some (.inr (false, [(-9, -9)])), kch28)])
theorem kck363 : ai_chk [kcc42] kcc363 (fun pc => sm_ch sm_t17 pc, sm_Kn 2 6 none, fun x => sm_lk sm_ca2 x, some .int) [24, 25, 26] 6 4 [29] [] 2000 [(29, [(0, .inl 0), (1, .inl 14), (2, .inr (false, [(-1, 60)])), (3, .inr (false, [(21, 21)])), (4, .inr (false, [(22, 22)]))], [], kch52),
  (29, [(0, .inl 0), (1, .inl 14), (2, .inr (false, [(1, 60)])), (3, .inr (false, [(21, 21)])), (4, .inr (false, [(23, 23)])), (5, .inr (false, [(-9, -9)]))], [], kch52),
  (29, [(0, .inl 0), (1, .inl 14), (2, .inr (false, [(1, 60)])), (3, .inr (false, [(21, 21)])), (4, .inr (false, [(24, 24)])), (5, .inr (false, [(-9, -9)]))], [], kch52),
  (29, [(0, .inl 0), (1, .inl 14), (2, .inr (false, [(1, 60)])), (3, .inr (false, [(21, 21)])), (4, .inr (false, [(25, 25)])), (5, .inr (false, [(-9, -9)]))], [], kch52)] = true := by decide +kernel
def kch254 : aw_H := [(14, kcx246)]
/-- MiceRegisters.faultOfFigure -/
def kcc364 : ak_C := (18, [.inl 14, .inr (false, [(-1, 60)]), .inr (false, [(22, 22)]), .inr (false, [(0, 0)]), .inr (false, [(0, 7)])], kch21, [], [([], some (.inr (false, [(-9, -9)])), kch254), ([], some (.inr (false, [(-1, 63)])), [])])
def kch255 : aw_H := [(14, kcx248)]
/-- MiceRegisters.faultOfFigure -/
def kcc365 : ak_C := (18, [.inl 14, .inr (false, [(-1, 60)]), .inr (false, [(23, 23)]), .inr (false, [(1, 1)]), .inr (false, [(9, 9)])], kch254, [], [([], some (.inr (false, [(-9, -9)])), kch255), ([], some (.inr (false, [(-1, 63)])), [])])
/-- MiceRegisters.readMouse -/
def kcc366 : ak_C := (19, [.inl 0, .inl 14, .inr (false, [(-1, 60)]), .inr (false, [(21, 21)])], kch55, [24, 29, 30, 31], [([], some (.inr (false, [(-1, 63)])), kch37), ([], some (.inr (false, [(-9, -9)])), kch39)])
theorem kck366 : ai_chk [kcc28, kcc364, kcc365] kcc366 (fun pc => sm_ch sm_t19 pc, sm_Kn 2 6 none, fun x => sm_lk sm_ca2 x, some .int) [24, 29, 30, 31] 6 0 [] [] 2000 [] = true := by decide +kernel
/-- MiceRegisters.readLine -/
def kcc367 : ak_C := (17, [.inl 0, .inl 11, .inr (false, [(-1, 60)]), .inr (false, [(22, 22)])], kch29, [24, 25, 26], [([[], [], [], []], some (.inr (false, [(-1, 60)])), kch26), ([[], [], [(1, 60)], []], some (.inr (false, [(-9, -9)])), kch28)])
theorem kck367 : ai_chk [kcc26] kcc367 (fun pc => sm_ch sm_t17 pc, sm_Kn 2 6 none, fun x => sm_lk sm_ca2 x, some .int) [24, 25, 26] 6 4 [29] [] 2000 [(29, [(0, .inl 0), (1, .inl 11), (2, .inr (false, [(-1, 60)])), (3, .inr (false, [(22, 22)])), (4, .inr (false, [(23, 23)]))], [], kch31),
  (29, [(0, .inl 0), (1, .inl 11), (2, .inr (false, [(1, 60)])), (3, .inr (false, [(22, 22)])), (4, .inr (false, [(24, 24)])), (5, .inr (false, [(-9, -9)]))], [], kch31),
  (29, [(0, .inl 0), (1, .inl 11), (2, .inr (false, [(1, 60)])), (3, .inr (false, [(22, 22)])), (4, .inr (false, [(25, 25)])), (5, .inr (false, [(-9, -9)]))], [], kch31),
  (29, [(0, .inl 0), (1, .inl 11), (2, .inr (false, [(1, 60)])), (3, .inr (false, [(22, 22)])), (4, .inr (false, [(26, 26)])), (5, .inr (false, [(-9, -9)]))], [], kch31)] = true := by decide +kernel
def kcx256 : aw_A := .inr (.inl (1, 60, [], [(23, [(48, 55)])]))
def kch257 : aw_H := [(11, kcx256)]
/-- MiceRegisters.faultOfFigure -/
def kcc368 : ak_C := (18, [.inl 11, .inr (false, [(-1, 60)]), .inr (false, [(23, 23)]), .inr (false, [(0, 0)]), .inr (false, [(0, 7)])], kch24, [], [([], some (.inr (false, [(-9, -9)])), kch257), ([], some (.inr (false, [(-1, 63)])), [])])
def kcx258 : aw_A := .inr (.inl (1, 60, [], [(24, [(49, 57)]), (23, [(48, 55)])]))
def kch259 : aw_H := [(11, kcx258)]
/-- MiceRegisters.faultOfFigure -/
def kcc369 : ak_C := (18, [.inl 11, .inr (false, [(-1, 60)]), .inr (false, [(24, 24)]), .inr (false, [(1, 1)]), .inr (false, [(9, 9)])], kch257, [], [([], some (.inr (false, [(-9, -9)])), kch259), ([], some (.inr (false, [(-1, 63)])), [])])
/-- MiceRegisters.readMouse -/
def kcc370 : ak_C := (19, [.inl 0, .inl 11, .inr (false, [(-1, 60)]), .inr (false, [(22, 22)])], kch40, [24, 29, 30, 31], [([], some (.inr (false, [(-1, 63)])), kch37), ([], some (.inr (false, [(-9, -9)])), kch39)])
theorem kck370 : ai_chk [kcc28, kcc368, kcc369] kcc370 (fun pc => sm_ch sm_t19 pc, sm_Kn 2 6 none, fun x => sm_lk sm_ca2 x, some .int) [24, 29, 30, 31] 6 0 [] [] 2000 [] = true := by decide +kernel
/-- MiceRegisters.readLine -/
def kcc371 : ak_C := (17, [.inl 0, .inl 12, .inr (false, [(-1, 60)]), .inr (false, [(22, 22)])], kch41, [24, 25, 26], [([[], [], [], []], some (.inr (false, [(-1, 60)])), kch26), ([[], [], [(1, 60)], []], some (.inr (false, [(-9, -9)])), kch28)])
theorem kck371 : ai_chk [kcc32] kcc371 (fun pc => sm_ch sm_t17 pc, sm_Kn 2 6 none, fun x => sm_lk sm_ca2 x, some .int) [24, 25, 26] 6 4 [29] [] 2000 [(29, [(0, .inl 0), (1, .inl 12), (2, .inr (false, [(-1, 60)])), (3, .inr (false, [(22, 22)])), (4, .inr (false, [(23, 23)]))], [], kch42),
  (29, [(0, .inl 0), (1, .inl 12), (2, .inr (false, [(1, 60)])), (3, .inr (false, [(22, 22)])), (4, .inr (false, [(24, 24)])), (5, .inr (false, [(-9, -9)]))], [], kch42),
  (29, [(0, .inl 0), (1, .inl 12), (2, .inr (false, [(1, 60)])), (3, .inr (false, [(22, 22)])), (4, .inr (false, [(25, 25)])), (5, .inr (false, [(-9, -9)]))], [], kch42),
  (29, [(0, .inl 0), (1, .inl 12), (2, .inr (false, [(1, 60)])), (3, .inr (false, [(22, 22)])), (4, .inr (false, [(26, 26)])), (5, .inr (false, [(-9, -9)]))], [], kch42)] = true := by decide +kernel
def kch260 : aw_H := [(12, kcx256)]
/-- MiceRegisters.faultOfFigure -/
def kcc372 : ak_C := (18, [.inl 12, .inr (false, [(-1, 60)]), .inr (false, [(23, 23)]), .inr (false, [(0, 0)]), .inr (false, [(0, 7)])], kch23, [], [([], some (.inr (false, [(-9, -9)])), kch260), ([], some (.inr (false, [(-1, 63)])), [])])
def kch261 : aw_H := [(12, kcx258)]
/-- MiceRegisters.faultOfFigure -/
def kcc373 : ak_C := (18, [.inl 12, .inr (false, [(-1, 60)]), .inr (false, [(24, 24)]), .inr (false, [(1, 1)]), .inr (false, [(9, 9)])], kch260, [], [([], some (.inr (false, [(-9, -9)])), kch261), ([], some (.inr (false, [(-1, 63)])), [])])
/-- MiceRegisters.readMouse -/
def kcc374 : ak_C := (19, [.inl 0, .inl 12, .inr (false, [(-1, 60)]), .inr (false, [(22, 22)])], kch45, [24, 29, 30, 31], [([], some (.inr (false, [(-1, 63)])), kch37), ([], some (.inr (false, [(-9, -9)])), kch39)])
theorem kck374 : ai_chk [kcc28, kcc372, kcc373] kcc374 (fun pc => sm_ch sm_t19 pc, sm_Kn 2 6 none, fun x => sm_lk sm_ca2 x, some .int) [24, 29, 30, 31] 6 0 [] [] 2000 [] = true := by decide +kernel
/-- MiceRegisters.readLine -/
def kcc375 : ak_C := (17, [.inl 0, .inl 13, .inr (false, [(-1, 60)]), .inr (false, [(22, 22)])], kch46, [24, 25, 26], [([[], [], [], []], some (.inr (false, [(-1, 60)])), kch26), ([[], [], [(1, 60)], []], some (.inr (false, [(-9, -9)])), kch28)])
theorem kck375 : ai_chk [kcc37] kcc375 (fun pc => sm_ch sm_t17 pc, sm_Kn 2 6 none, fun x => sm_lk sm_ca2 x, some .int) [24, 25, 26] 6 4 [29] [] 2000 [(29, [(0, .inl 0), (1, .inl 13), (2, .inr (false, [(-1, 60)])), (3, .inr (false, [(22, 22)])), (4, .inr (false, [(23, 23)]))], [], kch47),
  (29, [(0, .inl 0), (1, .inl 13), (2, .inr (false, [(1, 60)])), (3, .inr (false, [(22, 22)])), (4, .inr (false, [(24, 24)])), (5, .inr (false, [(-9, -9)]))], [], kch47),
  (29, [(0, .inl 0), (1, .inl 13), (2, .inr (false, [(1, 60)])), (3, .inr (false, [(22, 22)])), (4, .inr (false, [(25, 25)])), (5, .inr (false, [(-9, -9)]))], [], kch47),
  (29, [(0, .inl 0), (1, .inl 13), (2, .inr (false, [(1, 60)])), (3, .inr (false, [(22, 22)])), (4, .inr (false, [(26, 26)])), (5, .inr (false, [(-9, -9)]))], [], kch47)] = true := by decide +kernel
def kch262 : aw_H := [(13, kcx256)]
/-- MiceRegisters.faultOfFigure -/
def kcc376 : ak_C := (18, [.inl 13, .inr (false, [(-1, 60)]), .inr (false, [(23, 23)]), .inr (false, [(0, 0)]), .inr (false, [(0, 7)])], kch22, [], [([], some (.inr (false, [(-9, -9)])), kch262), ([], some (.inr (false, [(-1, 63)])), [])])
def kch263 : aw_H := [(13, kcx258)]
/-- MiceRegisters.faultOfFigure -/
def kcc377 : ak_C := (18, [.inl 13, .inr (false, [(-1, 60)]), .inr (false, [(24, 24)]), .inr (false, [(1, 1)]), .inr (false, [(9, 9)])], kch262, [], [([], some (.inr (false, [(-9, -9)])), kch263), ([], some (.inr (false, [(-1, 63)])), [])])
/-- MiceRegisters.readMouse -/
def kcc378 : ak_C := (19, [.inl 0, .inl 13, .inr (false, [(-1, 60)]), .inr (false, [(22, 22)])], kch50, [24, 29, 30, 31], [([], some (.inr (false, [(-1, 63)])), kch37), ([], some (.inr (false, [(-9, -9)])), kch39)])
theorem kck378 : ai_chk [kcc28, kcc376, kcc377] kcc378 (fun pc => sm_ch sm_t19 pc, sm_Kn 2 6 none, fun x => sm_lk sm_ca2 x, some .int) [24, 29, 30, 31] 6 0 [] [] 2000 [] = true := by decide +kernel
/-- MiceRegisters.readLine -/
def kcc379 : ak_C := (17, [.inl 0, .inl 14, .inr (false, [(-1, 60)]), .inr (false, [(22, 22)])], kch51, [24, 25, 26], [([[], [], [], []], some (.inr (false, [(-1, 60)])), kch26), ([[], [], [(1, 60)], []], some (.inr (false, [(-9, -9)])), kch28)])
theorem kck379 : ai_chk [kcc42] kcc379 (fun pc => sm_ch sm_t17 pc, sm_Kn 2 6 none, fun x => sm_lk sm_ca2 x, some .int) [24, 25, 26] 6 4 [29] [] 2000 [(29, [(0, .inl 0), (1, .inl 14), (2, .inr (false, [(-1, 60)])), (3, .inr (false, [(22, 22)])), (4, .inr (false, [(23, 23)]))], [], kch52),
  (29, [(0, .inl 0), (1, .inl 14), (2, .inr (false, [(1, 60)])), (3, .inr (false, [(22, 22)])), (4, .inr (false, [(24, 24)])), (5, .inr (false, [(-9, -9)]))], [], kch52),
  (29, [(0, .inl 0), (1, .inl 14), (2, .inr (false, [(1, 60)])), (3, .inr (false, [(22, 22)])), (4, .inr (false, [(25, 25)])), (5, .inr (false, [(-9, -9)]))], [], kch52),
  (29, [(0, .inl 0), (1, .inl 14), (2, .inr (false, [(1, 60)])), (3, .inr (false, [(22, 22)])), (4, .inr (false, [(26, 26)])), (5, .inr (false, [(-9, -9)]))], [], kch52)] = true := by decide +kernel
def kch264 : aw_H := [(14, kcx256)]
/-- MiceRegisters.faultOfFigure -/
def kcc380 : ak_C := (18, [.inl 14, .inr (false, [(-1, 60)]), .inr (false, [(23, 23)]), .inr (false, [(0, 0)]), .inr (false, [(0, 7)])], kch21, [], [([], some (.inr (false, [(-9, -9)])), kch264), ([], some (.inr (false, [(-1, 63)])), [])])
def kch265 : aw_H := [(14, kcx258)]
/-- MiceRegisters.faultOfFigure -/
def kcc381 : ak_C := (18, [.inl 14, .inr (false, [(-1, 60)]), .inr (false, [(24, 24)]), .inr (false, [(1, 1)]), .inr (false, [(9, 9)])], kch264, [], [([], some (.inr (false, [(-9, -9)])), kch265), ([], some (.inr (false, [(-1, 63)])), [])])
/-- MiceRegisters.readMouse -/
def kcc382 : ak_C := (19, [.inl 0, .inl 14, .inr (false, [(-1, 60)]), .inr (false, [(22, 22)])], kch55, [24, 29, 30, 31], [([], some (.inr (false, [(-1, 63)])), kch37), ([], some (.inr (false, [(-9, -9)])), kch39)])
theorem kck382 : ai_chk [kcc28, kcc380, kcc381] kcc382 (fun pc => sm_ch sm_t19 pc, sm_Kn 2 6 none, fun x => sm_lk sm_ca2 x, some .int) [24, 29, 30, 31] 6 0 [] [] 2000 [] = true := by decide +kernel
/-- MiceRegisters.readLine -/
def kcc383 : ak_C := (17, [.inl 0, .inl 11, .inr (false, [(-1, 60)]), .inr (false, [(23, 23)])], kch29, [24, 25, 26], [([[], [], [], []], some (.inr (false, [(-1, 60)])), kch26), ([[], [], [(1, 60)], []], some (.inr (false, [(-9, -9)])), kch28)])
theorem kck383 : ai_chk [kcc26] kcc383 (fun pc => sm_ch sm_t17 pc, sm_Kn 2 6 none, fun x => sm_lk sm_ca2 x, some .int) [24, 25, 26] 6 4 [29] [] 2000 [(29, [(0, .inl 0), (1, .inl 11), (2, .inr (false, [(-1, 60)])), (3, .inr (false, [(23, 23)])), (4, .inr (false, [(24, 24)]))], [], kch31),
  (29, [(0, .inl 0), (1, .inl 11), (2, .inr (false, [(1, 60)])), (3, .inr (false, [(23, 23)])), (4, .inr (false, [(25, 25)])), (5, .inr (false, [(-9, -9)]))], [], kch31),
  (29, [(0, .inl 0), (1, .inl 11), (2, .inr (false, [(1, 60)])), (3, .inr (false, [(23, 23)])), (4, .inr (false, [(26, 26)])), (5, .inr (false, [(-9, -9)]))], [], kch31),
  (29, [(0, .inl 0), (1, .inl 11), (2, .inr (false, [(1, 60)])), (3, .inr (false, [(23, 23)])), (4, .inr (false, [(27, 27)])), (5, .inr (false, [(-9, -9)]))], [], kch31)] = true := by decide +kernel
def kcx266 : aw_A := .inr (.inl (1, 60, [], [(24, [(48, 55)])]))
def kch267 : aw_H := [(11, kcx266)]
/-- MiceRegisters.faultOfFigure -/
def kcc384 : ak_C := (18, [.inl 11, .inr (false, [(-1, 60)]), .inr (false, [(24, 24)]), .inr (false, [(0, 0)]), .inr (false, [(0, 7)])], kch24, [], [([], some (.inr (false, [(-9, -9)])), kch267), ([], some (.inr (false, [(-1, 63)])), [])])
def kcx268 : aw_A := .inr (.inl (1, 60, [], [(25, [(49, 57)]), (24, [(48, 55)])]))
def kch269 : aw_H := [(11, kcx268)]
/-- MiceRegisters.faultOfFigure -/
def kcc385 : ak_C := (18, [.inl 11, .inr (false, [(-1, 60)]), .inr (false, [(25, 25)]), .inr (false, [(1, 1)]), .inr (false, [(9, 9)])], kch267, [], [([], some (.inr (false, [(-9, -9)])), kch269), ([], some (.inr (false, [(-1, 63)])), [])])
/-- MiceRegisters.readMouse -/
def kcc386 : ak_C := (19, [.inl 0, .inl 11, .inr (false, [(-1, 60)]), .inr (false, [(23, 23)])], kch40, [24, 29, 30, 31], [([], some (.inr (false, [(-1, 63)])), kch37), ([], some (.inr (false, [(-9, -9)])), kch39)])
theorem kck386 : ai_chk [kcc28, kcc384, kcc385] kcc386 (fun pc => sm_ch sm_t19 pc, sm_Kn 2 6 none, fun x => sm_lk sm_ca2 x, some .int) [24, 29, 30, 31] 6 0 [] [] 2000 [] = true := by decide +kernel
/-- MiceRegisters.readLine -/
def kcc387 : ak_C := (17, [.inl 0, .inl 12, .inr (false, [(-1, 60)]), .inr (false, [(23, 23)])], kch41, [24, 25, 26], [([[], [], [], []], some (.inr (false, [(-1, 60)])), kch26), ([[], [], [(1, 60)], []], some (.inr (false, [(-9, -9)])), kch28)])
theorem kck387 : ai_chk [kcc32] kcc387 (fun pc => sm_ch sm_t17 pc, sm_Kn 2 6 none, fun x => sm_lk sm_ca2 x, some .int) [24, 25, 26] 6 4 [29] [] 2000 [(29, [(0, .inl 0), (1, .inl 12), (2, .inr (false, [(-1, 60)])), (3, .inr (false, [(23, 23)])), (4, .inr (false, [(24, 24)]))], [], kch42),
  (29, [(0, .inl 0), (1, .inl 12), (2, .inr (false, [(1, 60)])), (3, .inr (false, [(23, 23)])), (4, .inr (false, [(25, 25)])), (5, .inr (false, [(-9, -9)]))], [], kch42),
  (29, [(0, .inl 0), (1, .inl 12), (2, .inr (false, [(1, 60)])), (3, .inr (false, [(23, 23)])), (4, .inr (false, [(26, 26)])), (5, .inr (false, [(-9, -9)]))], [], kch42),
  (29, [(0, .inl 0), (1, .inl 12), (2, .inr (false, [(1, 60)])), (3, .inr (false, [(23, 23)])), (4, .inr (false, [(27, 27)])), (5, .inr (false, [(-9, -9)]))], [], kch42)] = true := by decide +kernel
def kch270 : aw_H := [(12, kcx266)]
/-- MiceRegisters.faultOfFigure -/
def kcc388 : ak_C := (18, [.inl 12, .inr (false, [(-1, 60)]), .inr (false, [(24, 24)]), .inr (false, [(0, 0)]), .inr (false, [(0, 7)])], kch23, [], [([], some (.inr (false, [(-9, -9)])), kch270), ([], some (.inr (false, [(-1, 63)])), [])])
def kch271 : aw_H := [(12, kcx268)]
/-- MiceRegisters.faultOfFigure -/
def kcc389 : ak_C := (18, [.inl 12, .inr (false, [(-1, 60)]), .inr (false, [(25, 25)]), .inr (false, [(1, 1)]), .inr (false, [(9, 9)])], kch270, [], [([], some (.inr (false, [(-9, -9)])), kch271), ([], some (.inr (false, [(-1, 63)])), [])])
/-- MiceRegisters.readMouse -/
def kcc390 : ak_C := (19, [.inl 0, .inl 12, .inr (false, [(-1, 60)]), .inr (false, [(23, 23)])], kch45, [24, 29, 30, 31], [([], some (.inr (false, [(-1, 63)])), kch37), ([], some (.inr (false, [(-9, -9)])), kch39)])
theorem kck390 : ai_chk [kcc28, kcc388, kcc389] kcc390 (fun pc => sm_ch sm_t19 pc, sm_Kn 2 6 none, fun x => sm_lk sm_ca2 x, some .int) [24, 29, 30, 31] 6 0 [] [] 2000 [] = true := by decide +kernel
/-- MiceRegisters.readLine -/
def kcc391 : ak_C := (17, [.inl 0, .inl 13, .inr (false, [(-1, 60)]), .inr (false, [(23, 23)])], kch46, [24, 25, 26], [([[], [], [], []], some (.inr (false, [(-1, 60)])), kch26), ([[], [], [(1, 60)], []], some (.inr (false, [(-9, -9)])), kch28)])
theorem kck391 : ai_chk [kcc37] kcc391 (fun pc => sm_ch sm_t17 pc, sm_Kn 2 6 none, fun x => sm_lk sm_ca2 x, some .int) [24, 25, 26] 6 4 [29] [] 2000 [(29, [(0, .inl 0), (1, .inl 13), (2, .inr (false, [(-1, 60)])), (3, .inr (false, [(23, 23)])), (4, .inr (false, [(24, 24)]))], [], kch47),
  (29, [(0, .inl 0), (1, .inl 13), (2, .inr (false, [(1, 60)])), (3, .inr (false, [(23, 23)])), (4, .inr (false, [(25, 25)])), (5, .inr (false, [(-9, -9)]))], [], kch47),
  (29, [(0, .inl 0), (1, .inl 13), (2, .inr (false, [(1, 60)])), (3, .inr (false, [(23, 23)])), (4, .inr (false, [(26, 26)])), (5, .inr (false, [(-9, -9)]))], [], kch47),
  (29, [(0, .inl 0), (1, .inl 13), (2, .inr (false, [(1, 60)])), (3, .inr (false, [(23, 23)])), (4, .inr (false, [(27, 27)])), (5, .inr (false, [(-9, -9)]))], [], kch47)] = true := by decide +kernel
def kch272 : aw_H := [(13, kcx266)]
/-- MiceRegisters.faultOfFigure -/
def kcc392 : ak_C := (18, [.inl 13, .inr (false, [(-1, 60)]), .inr (false, [(24, 24)]), .inr (false, [(0, 0)]), .inr (false, [(0, 7)])], kch22, [], [([], some (.inr (false, [(-9, -9)])), kch272), ([], some (.inr (false, [(-1, 63)])), [])])
def kch273 : aw_H := [(13, kcx268)]
/-- MiceRegisters.faultOfFigure -/
def kcc393 : ak_C := (18, [.inl 13, .inr (false, [(-1, 60)]), .inr (false, [(25, 25)]), .inr (false, [(1, 1)]), .inr (false, [(9, 9)])], kch272, [], [([], some (.inr (false, [(-9, -9)])), kch273), ([], some (.inr (false, [(-1, 63)])), [])])
/-- MiceRegisters.readMouse -/
def kcc394 : ak_C := (19, [.inl 0, .inl 13, .inr (false, [(-1, 60)]), .inr (false, [(23, 23)])], kch50, [24, 29, 30, 31], [([], some (.inr (false, [(-1, 63)])), kch37), ([], some (.inr (false, [(-9, -9)])), kch39)])
theorem kck394 : ai_chk [kcc28, kcc392, kcc393] kcc394 (fun pc => sm_ch sm_t19 pc, sm_Kn 2 6 none, fun x => sm_lk sm_ca2 x, some .int) [24, 29, 30, 31] 6 0 [] [] 2000 [] = true := by decide +kernel
/-- MiceRegisters.readLine -/
def kcc395 : ak_C := (17, [.inl 0, .inl 14, .inr (false, [(-1, 60)]), .inr (false, [(23, 23)])], kch51, [24, 25, 26], [([[], [], [], []], some (.inr (false, [(-1, 60)])), kch26), ([[], [], [(1, 60)], []], some (.inr (false, [(-9, -9)])), kch28)])
theorem kck395 : ai_chk [kcc42] kcc395 (fun pc => sm_ch sm_t17 pc, sm_Kn 2 6 none, fun x => sm_lk sm_ca2 x, some .int) [24, 25, 26] 6 4 [29] [] 2000 [(29, [(0, .inl 0), (1, .inl 14), (2, .inr (false, [(-1, 60)])), (3, .inr (false, [(23, 23)])), (4, .inr (false, [(24, 24)]))], [], kch52),
  (29, [(0, .inl 0), (1, .inl 14), (2, .inr (false, [(1, 60)])), (3, .inr (false, [(23, 23)])), (4, .inr (false, [(25, 25)])), (5, .inr (false, [(-9, -9)]))], [], kch52),
  (29, [(0, .inl 0), (1, .inl 14), (2, .inr (false, [(1, 60)])), (3, .inr (false, [(23, 23)])), (4, .inr (false, [(26, 26)])), (5, .inr (false, [(-9, -9)]))], [], kch52),
  (29, [(0, .inl 0), (1, .inl 14), (2, .inr (false, [(1, 60)])), (3, .inr (false, [(23, 23)])), (4, .inr (false, [(27, 27)])), (5, .inr (false, [(-9, -9)]))], [], kch52)] = true := by decide +kernel
def kch274 : aw_H := [(14, kcx266)]
/-- MiceRegisters.faultOfFigure -/
def kcc396 : ak_C := (18, [.inl 14, .inr (false, [(-1, 60)]), .inr (false, [(24, 24)]), .inr (false, [(0, 0)]), .inr (false, [(0, 7)])], kch21, [], [([], some (.inr (false, [(-9, -9)])), kch274), ([], some (.inr (false, [(-1, 63)])), [])])
def kch275 : aw_H := [(14, kcx268)]
/-- MiceRegisters.faultOfFigure -/
def kcc397 : ak_C := (18, [.inl 14, .inr (false, [(-1, 60)]), .inr (false, [(25, 25)]), .inr (false, [(1, 1)]), .inr (false, [(9, 9)])], kch274, [], [([], some (.inr (false, [(-9, -9)])), kch275), ([], some (.inr (false, [(-1, 63)])), [])])
/-- MiceRegisters.readMouse -/
def kcc398 : ak_C := (19, [.inl 0, .inl 14, .inr (false, [(-1, 60)]), .inr (false, [(23, 23)])], kch55, [24, 29, 30, 31], [([], some (.inr (false, [(-1, 63)])), kch37), ([], some (.inr (false, [(-9, -9)])), kch39)])
theorem kck398 : ai_chk [kcc28, kcc396, kcc397] kcc398 (fun pc => sm_ch sm_t19 pc, sm_Kn 2 6 none, fun x => sm_lk sm_ca2 x, some .int) [24, 29, 30, 31] 6 0 [] [] 2000 [] = true := by decide +kernel
