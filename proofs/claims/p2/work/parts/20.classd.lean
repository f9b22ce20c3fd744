/-! Contracts over ranges of the class, and their checks; printed by a program of mine. -/
def kcx189 : aw_A := .inr (.inl (1, 60, [], [(21, [(48, 55)])]))
def kch190 : aw_H := [(14, kcx189)]
/-- MiceRegisters.faultOfFigure -/
def kcc184 : ak_C := (18, [.inl 14, .inr (false, [(-1, 60)]), .inr (false, [(21, 21)]), .inr (false, [(0, 0)]), .inr (false, [(0, 7)])], kch21, [], [([], some (.inr (false, [(-9, -9)])), kch190), ([], some (.inr (false, [(-1, 63)])), [])])
def kcx191 : aw_A := .inr (.inl (1, 60, [], [(22, [(49, 57)]), (21, [(48, 55)])]))
def kch192 : aw_H := [(14, kcx191)]
/-- MiceRegisters.faultOfFigure -/
def kcc185 : ak_C := (18, [.inl 14, .inr (false, [(-1, 60)]), .inr (false, [(22, 22)]), .inr (false, [(1, 1)]), .inr (false, [(9, 9)])], kch190, [], [([], some (.inr (false, [(-9, -9)])), kch192), ([], some (.inr (false, [(-1, 63)])), [])])
/-- MiceRegisters.readMouse -/
def kcc186 : ak_C := (19, [.inl 0, .inl 14, .inr (false, [(-1, 60)]), .inr (false, [(20, 20)])], kch39, [24, 29, 30, 31], [([], some (.inr (false, [(-1, 63)])), kch36), ([], some (.inr (false, [(-9, -9)])), kch38)])
theorem kck186 : ai_chk [kcc28, kcc184, kcc185] kcc186 (fun pc => sm_ch sm_t19 pc, sm_Kn 2 6 none, fun x => sm_lk sm_ca2 x, some .int) [24, 29, 30, 31] 6 0 [] [] 2000 [] = true := by decide +kernel
/-- MiceRegisters.readLine -/
def kcc187 : ak_C := (17, [.inl 0, .inl 14, .inr (false, [(-1, 60)]), .inr (false, [(19, 19)])], kch43, [24, 25, 26], [([[], [], [], []], some (.inr (false, [(-1, 60)])), kch40), ([[], [], [(1, 60)], []], some (.inr (false, [(-9, -9)])), kch42)])
theorem kck187 : ai_chk [kcc26] kcc187 (fun pc => sm_ch sm_t17 pc, sm_Kn 2 6 none, fun x => sm_lk sm_ca2 x, some .int) [24, 25, 26] 6 4 [29] [] 2000 [(29, [(0, .inl 0), (1, .inl 14), (2, .inr (false, [(-1, 60)])), (3, .inr (false, [(19, 19)])), (4, .inr (false, [(20, 20)]))], [], kch44),
  (29, [(0, .inl 0), (1, .inl 14), (2, .inr (false, [(1, 60)])), (3, .inr (false, [(19, 19)])), (4, .inr (false, [(21, 21)])), (5, .inr (false, [(-9, -9)]))], [], kch44),
  (29, [(0, .inl 0), (1, .inl 14), (2, .inr (false, [(1, 60)])), (3, .inr (false, [(19, 19)])), (4, .inr (false, [(22, 22)])), (5, .inr (false, [(-9, -9)]))], [], kch44),
  (29, [(0, .inl 0), (1, .inl 14), (2, .inr (false, [(1, 60)])), (3, .inr (false, [(19, 19)])), (4, .inr (false, [(23, 23)])), (5, .inr (false, [(-9, -9)]))], [], kch44)] = true := by decide +kernel
def kcx193 : aw_A := .inr (.inl (1, 60, [], [(20, [(48, 55)])]))
def kch194 : aw_H := [(14, kcx193)]
/-- MiceRegisters.faultOfFigure -/
def kcc188 : ak_C := (18, [.inl 14, .inr (false, [(-1, 60)]), .inr (false, [(20, 20)]), .inr (false, [(0, 0)]), .inr (false, [(0, 7)])], kch21, [], [([], some (.inr (false, [(-9, -9)])), kch194), ([], some (.inr (false, [(-1, 63)])), [])])
def kcx195 : aw_A := .inr (.inl (1, 60, [], [(21, [(49, 57)]), (20, [(48, 55)])]))
def kch196 : aw_H := [(14, kcx195)]
/-- MiceRegisters.faultOfFigure -/
def kcc189 : ak_C := (18, [.inl 14, .inr (false, [(-1, 60)]), .inr (false, [(21, 21)]), .inr (false, [(1, 1)]), .inr (false, [(9, 9)])], kch194, [], [([], some (.inr (false, [(-9, -9)])), kch196), ([], some (.inr (false, [(-1, 63)])), [])])
/-- MiceRegisters.readMouse -/
def kcc190 : ak_C := (19, [.inl 0, .inl 14, .inr (false, [(-1, 60)]), .inr (false, [(19, 19)])], kch39, [24, 29, 30, 31], [([], some (.inr (false, [(-1, 63)])), kch36), ([], some (.inr (false, [(-9, -9)])), kch38)])
theorem kck190 : ai_chk [kcc28, kcc188, kcc189] kcc190 (fun pc => sm_ch sm_t19 pc, sm_Kn 2 6 none, fun x => sm_lk sm_ca2 x, some .int) [24, 29, 30, 31] 6 0 [] [] 2000 [] = true := by decide +kernel
/-- MiceRegisters.readLine -/
def kcc191 : ak_C := (17, [.inl 0, .inl 14, .inr (false, [(-1, 60)]), .inr (false, [(18, 18)])], kch43, [24, 25, 26], [([[], [], [], []], some (.inr (false, [(-1, 60)])), kch40), ([[], [], [(1, 60)], []], some (.inr (false, [(-9, -9)])), kch42)])
theorem kck191 : ai_chk [kcc26] kcc191 (fun pc => sm_ch sm_t17 pc, sm_Kn 2 6 none, fun x => sm_lk sm_ca2 x, some .int) [24, 25, 26] 6 4 [29] [] 2000 [(29, [(0, .inl 0), (1, .inl 14), (2, .inr (false, [(-1, 60)])), (3, .inr (false, [(18, 18)])), (4, .inr (false, [(19, 19)]))], [], kch44),
  (29, [(0, .inl 0), (1, .inl 14), (2, .inr (false, [(1, 60)])), (3, .inr (false, [(18, 18)])), (4, .inr (false, [(20, 20)])), (5, .inr (false, [(-9, -9)]))], [], kch44),
  (29, [(0, .inl 0), (1, .inl 14), (2, .inr (false, [(1, 60)])), (3, .inr (false, [(18, 18)])), (4, .inr (false, [(21, 21)])), (5, .inr (false, [(-9, -9)]))], [], kch44),
  (29, [(0, .inl 0), (1, .inl 14), (2, .inr (false, [(1, 60)])), (3, .inr (false, [(18, 18)])), (4, .inr (false, [(22, 22)])), (5, .inr (false, [(-9, -9)]))], [], kch44)] = true := by decide +kernel
def kcx197 : aw_A := .inr (.inl (1, 60, [], [(19, [(48, 55)])]))
def kch198 : aw_H := [(14, kcx197)]
/-- MiceRegisters.faultOfFigure -/
def kcc192 : ak_C := (18, [.inl 14, .inr (false, [(-1, 60)]), .inr (false, [(19, 19)]), .inr (false, [(0, 0)]), .inr (false, [(0, 7)])], kch21, [], [([], some (.inr (false, [(-9, -9)])), kch198), ([], some (.inr (false, [(-1, 63)])), [])])
def kcx199 : aw_A := .inr (.inl (1, 60, [], [(20, [(49, 57)]), (19, [(48, 55)])]))
def kch200 : aw_H := [(14, kcx199)]
/-- MiceRegisters.faultOfFigure -/
def kcc193 : ak_C := (18, [.inl 14, .inr (false, [(-1, 60)]), .inr (false, [(20, 20)]), .inr (false, [(1, 1)]), .inr (false, [(9, 9)])], kch198, [], [([], some (.inr (false, [(-9, -9)])), kch200), ([], some (.inr (false, [(-1, 63)])), [])])
/-- MiceRegisters.readMouse -/
def kcc194 : ak_C := (19, [.inl 0, .inl 14, .inr (false, [(-1, 60)]), .inr (false, [(18, 18)])], kch39, [24, 29, 30, 31], [([], some (.inr (false, [(-1, 63)])), kch36), ([], some (.inr (false, [(-9, -9)])), kch38)])
theorem kck194 : ai_chk [kcc28, kcc192, kcc193] kcc194 (fun pc => sm_ch sm_t19 pc, sm_Kn 2 6 none, fun x => sm_lk sm_ca2 x, some .int) [24, 29, 30, 31] 6 0 [] [] 2000 [] = true := by decide +kernel
/-- MiceRegisters.readLine -/
def kcc195 : ak_C := (17, [.inl 0, .inl 14, .inr (false, [(-1, 60)]), .inr (false, [(17, 17)])], kch43, [24, 25, 26], [([[], [], [], []], some (.inr (false, [(-1, 60)])), kch40), ([[], [], [(1, 60)], []], some (.inr (false, [(-9, -9)])), kch42)])
theorem kck195 : ai_chk [kcc26] kcc195 (fun pc => sm_ch sm_t17 pc, sm_Kn 2 6 none, fun x => sm_lk sm_ca2 x, some .int) [24, 25, 26] 6 4 [29] [] 2000 [(29, [(0, .inl 0), (1, .inl 14), (2, .inr (false, [(-1, 60)])), (3, .inr (false, [(17, 17)])), (4, .inr (false, [(18, 18)]))], [], kch44),
  (29, [(0, .inl 0), (1, .inl 14), (2, .inr (false, [(1, 60)])), (3, .inr (false, [(17, 17)])), (4, .inr (false, [(19, 19)])), (5, .inr (false, [(-9, -9)]))], [], kch44),
  (29, [(0, .inl 0), (1, .inl 14), (2, .inr (false, [(1, 60)])), (3, .inr (false, [(17, 17)])), (4, .inr (false, [(20, 20)])), (5, .inr (false, [(-9, -9)]))], [], kch44),
  (29, [(0, .inl 0), (1, .inl 14), (2, .inr (false, [(1, 60)])), (3, .inr (false, [(17, 17)])), (4, .inr (false, [(21, 21)])), (5, .inr (false, [(-9, -9)]))], [], kch44)] = true := by decide +kernel
def kcx201 : aw_A := .inr (.inl (1, 60, [], [(18, [(48, 55)])]))
def kch202 : aw_H := [(14, kcx201)]
/-- MiceRegisters.faultOfFigure -/
def kcc196 : ak_C := (18, [.inl 14, .inr (false, [(-1, 60)]), .inr (false, [(18, 18)]), .inr (false, [(0, 0)]), .inr (false, [(0, 7)])], kch21, [], [([], some (.inr (false, [(-9, -9)])), kch202), ([], some (.inr (false, [(-1, 63)])), [])])
def kcx203 : aw_A := .inr (.inl (1, 60, [], [(19, [(49, 57)]), (18, [(48, 55)])]))
def kch204 : aw_H := [(14, kcx203)]
/-- MiceRegisters.faultOfFigure -/
def kcc197 : ak_C := (18, [.inl 14, .inr (false, [(-1, 60)]), .inr (false, [(19, 19)]), .inr (false, [(1, 1)]), .inr (false, [(9, 9)])], kch202, [], [([], some (.inr (false, [(-9, -9)])), kch204), ([], some (.inr (false, [(-1, 63)])), [])])
/-- MiceRegisters.readMouse -/
def kcc198 : ak_C := (19, [.inl 0, .inl 14, .inr (false, [(-1, 60)]), .inr (false, [(17, 17)])], kch39, [24, 29, 30, 31], [([], some (.inr (false, [(-1, 63)])), kch36), ([], some (.inr (false, [(-9, -9)])), kch38)])
theorem kck198 : ai_chk [kcc28, kcc196, kcc197] kcc198 (fun pc => sm_ch sm_t19 pc, sm_Kn 2 6 none, fun x => sm_lk sm_ca2 x, some .int) [24, 29, 30, 31] 6 0 [] [] 2000 [] = true := by decide +kernel
/-- MiceRegisters.readLine -/
def kcc199 : ak_C := (17, [.inl 0, .inl 14, .inr (false, [(-1, 60)]), .inr (false, [(16, 16)])], kch43, [24, 25, 26], [([[], [], [], []], some (.inr (false, [(-1, 60)])), kch40), ([[], [], [(1, 60)], []], some (.inr (false, [(-9, -9)])), kch42)])
theorem kck199 : ai_chk [kcc26] kcc199 (fun pc => sm_ch sm_t17 pc, sm_Kn 2 6 none, fun x => sm_lk sm_ca2 x, some .int) [24, 25, 26] 6 4 [29] [] 2000 [(29, [(0, .inl 0), (1, .inl 14), (2, .inr (false, [(-1, 60)])), (3, .inr (false, [(16, 16)])), (4, .inr (false, [(17, 17)]))], [], kch44),
  (29, [(0, .inl 0), (1, .inl 14), (2, .inr (false, [(1, 60)])), (3, .inr (false, [(16, 16)])), (4, .inr (false, [(18, 18)])), (5, .inr (false, [(-9, -9)]))], [], kch44),
  (29, [(0, .inl 0), (1, .inl 14), (2, .inr (false, [(1, 60)])), (3, .inr (false, [(16, 16)])), (4, .inr (false, [(19, 19)])), (5, .inr (false, [(-9, -9)]))], [], kch44),
  (29, [(0, .inl 0), (1, .inl 14), (2, .inr (false, [(1, 60)])), (3, .inr (false, [(16, 16)])), (4, .inr (false, [(20, 20)])), (5, .inr (false, [(-9, -9)]))], [], kch44)] = true := by decide +kernel
def kcx205 : aw_A := .inr (.inl (1, 60, [], [(17, [(48, 55)])]))
def kch206 : aw_H := [(14, kcx205)]
/-- MiceRegisters.faultOfFigure -/
def kcc200 : ak_C := (18, [.inl 14, .inr (false, [(-1, 60)]), .inr (false, [(17, 17)]), .inr (false, [(0, 0)]), .inr (false, [(0, 7)])], kch21, [], [([], some (.inr (false, [(-9, -9)])), kch206), ([], some (.inr (false, [(-1, 63)])), [])])
def kcx207 : aw_A := .inr (.inl (1, 60, [], [(18, [(49, 57)]), (17, [(48, 55)])]))
def kch208 : aw_H := [(14, kcx207)]
/-- MiceRegisters.faultOfFigure -/
def kcc201 : ak_C := (18, [.inl 14, .inr (false, [(-1, 60)]), .inr (false, [(18, 18)]), .inr (false, [(1, 1)]), .inr (false, [(9, 9)])], kch206, [], [([], some (.inr (false, [(-9, -9)])), kch208), ([], some (.inr (false, [(-1, 63)])), [])])
/-- MiceRegisters.readMouse -/
def kcc202 : ak_C := (19, [.inl 0, .inl 14, .inr (false, [(-1, 60)]), .inr (false, [(16, 16)])], kch39, [24, 29, 30, 31], [([], some (.inr (false, [(-1, 63)])), kch36), ([], some (.inr (false, [(-9, -9)])), kch38)])
theorem kck202 : ai_chk [kcc28, kcc200, kcc201] kcc202 (fun pc => sm_ch sm_t19 pc, sm_Kn 2 6 none, fun x => sm_lk sm_ca2 x, some .int) [24, 29, 30, 31] 6 0 [] [] 2000 [] = true := by decide +kernel
/-- MiceRegisters.readLine -/
def kcc203 : ak_C := (17, [.inl 0, .inl 14, .inr (false, [(-1, 60)]), .inr (false, [(15, 15)])], kch43, [24, 25, 26], [([[], [], [], []], some (.inr (false, [(-1, 60)])), kch40), ([[], [], [(1, 60)], []], some (.inr (false, [(-9, -9)])), kch42)])
theorem kck203 : ai_chk [kcc26] kcc203 (fun pc => sm_ch sm_t17 pc, sm_Kn 2 6 none, fun x => sm_lk sm_ca2 x, some .int) [24, 25, 26] 6 4 [29] [] 2000 [(29, [(0, .inl 0), (1, .inl 14), (2, .inr (false, [(-1, 60)])), (3, .inr (false, [(15, 15)])), (4, .inr (false, [(16, 16)]))], [], kch44),
  (29, [(0, .inl 0), (1, .inl 14), (2, .inr (false, [(1, 60)])), (3, .inr (false, [(15, 15)])), (4, .inr (false, [(17, 17)])), (5, .inr (false, [(-9, -9)]))], [], kch44),
  (29, [(0, .inl 0), (1, .inl 14), (2, .inr (false, [(1, 60)])), (3, .inr (false, [(15, 15)])), (4, .inr (false, [(18, 18)])), (5, .inr (false, [(-9, -9)]))], [], kch44),
  (29, [(0, .inl 0), (1, .inl 14), (2, .inr (false, [(1, 60)])), (3, .inr (false, [(15, 15)])), (4, .inr (false, [(19, 19)])), (5, .inr (false, [(-9, -9)]))], [], kch44)] = true := by decide +kernel
def kcx209 : aw_A := .inr (.inl (1, 60, [], [(16, [(48, 55)])]))
def kch210 : aw_H := [(14, kcx209)]
/-- MiceRegisters.faultOfFigure -/
def kcc204 : ak_C := (18, [.inl 14, .inr (false, [(-1, 60)]), .inr (false, [(16, 16)]), .inr (false, [(0, 0)]), .inr (false, [(0, 7)])], kch21, [], [([], some (.inr (false, [(-9, -9)])), kch210), ([], some (.inr (false, [(-1, 63)])), [])])
def kcx211 : aw_A := .inr (.inl (1, 60, [], [(17, [(49, 57)]), (16, [(48, 55)])]))
def kch212 : aw_H := [(14, kcx211)]
/-- MiceRegisters.faultOfFigure -/
def kcc205 : ak_C := (18, [.inl 14, .inr (false, [(-1, 60)]), .inr (false, [(17, 17)]), .inr (false, [(1, 1)]), .inr (false, [(9, 9)])], kch210, [], [([], some (.inr (false, [(-9, -9)])), kch212), ([], some (.inr (false, [(-1, 63)])), [])])
/-- MiceRegisters.readMouse -/
def kcc206 : ak_C := (19, [.inl 0, .inl 14, .inr (false, [(-1, 60)]), .inr (false, [(15, 15)])], kch39, [24, 29, 30, 31], [([], some (.inr (false, [(-1, 63)])), kch36), ([], some (.inr (false, [(-9, -9)])), kch38)])
theorem kck206 : ai_chk [kcc28, kcc204, kcc205] kcc206 (fun pc => sm_ch sm_t19 pc, sm_Kn 2 6 none, fun x => sm_lk sm_ca2 x, some .int) [24, 29, 30, 31] 6 0 [] [] 2000 [] = true := by decide +kernel
/-- MiceRegisters.readLine -/
def kcc207 : ak_C := (17, [.inl 0, .inl 14, .inr (false, [(-1, 60)]), .inr (false, [(14, 14)])], kch43, [24, 25, 26], [([[], [], [], []], some (.inr (false, [(-1, 60)])), kch40), ([[], [], [(1, 60)], []], some (.inr (false, [(-9, -9)])), kch42)])
theorem kck207 : ai_chk [kcc26] kcc207 (fun pc => sm_ch sm_t17 pc, sm_Kn 2 6 none, fun x => sm_lk sm_ca2 x, some .int) [24, 25, 26] 6 4 [29] [] 2000 [(29, [(0, .inl 0), (1, .inl 14), (2, .inr (false, [(-1, 60)])), (3, .inr (false, [(14, 14)])), (4, .inr (false, [(15, 15)]))], [], kch44),
  (29, [(0, .inl 0), (1, .inl 14), (2, .inr (false, [(1, 60)])), (3, .inr (false, [(14, 14)])), (4, .inr (false, [(16, 16)])), (5, .inr (false, [(-9, -9)]))], [], kch44),
  (29, [(0, .inl 0), (1, .inl 14), (2, .inr (false, [(1, 60)])), (3, .inr (false, [(14, 14)])), (4, .inr (false, [(17, 17)])), (5, .inr (false, [(-9, -9)]))], [], kch44),
  (29, [(0, .inl 0), (1, .inl 14), (2, .inr (false, [(1, 60)])), (3, .inr (false, [(14, 14)])), (4, .inr (false, [(18, 18)])), (5, .inr (false, [(-9, -9)]))], [], kch44)] = true := by decide +kernel
def kcx213 : aw_A := .inr (.inl (1, 60, [], [(15, [(48, 55)])]))
def kch214 : aw_H := [(14, kcx213)]
/-- MiceRegisters.faultOfFigure -/
def kcc208 : ak_C := (18, [.inl 14, .inr (false, [(-1, 60)]), .inr (false, [(15, 15)]), .inr (false, [(0, 0)]), .inr (false, [(0, 7)])], kch21, [], [([], some (.inr (false, [(-9, -9)])), kch214), ([], some (.inr (false, [(-1, 63)])), [])])
def kcx215 : aw_A := .inr (.inl (1, 60, [], [(16, [(49, 57)]), (15, [(48, 55)])]))
def kch216 : aw_H := [(14, kcx215)]
/-- MiceRegisters.faultOfFigure -/
def kcc209 : ak_C := (18, [.inl 14, .inr (false, [(-1, 60)]), .inr (false, [(16, 16)]), .inr (false, [(1, 1)]), .inr (false, [(9, 9)])], kch214, [], [([], some (.inr (false, [(-9, -9)])), kch216), ([], some (.inr (false, [(-1, 63)])), [])])
/-- MiceRegisters.readMouse -/
def kcc210 : ak_C := (19, [.inl 0, .inl 14, .inr (false, [(-1, 60)]), .inr (false, [(14, 14)])], kch39, [24, 29, 30, 31], [([], some (.inr (false, [(-1, 63)])), kch36), ([], some (.inr (false, [(-9, -9)])), kch38)])
theorem kck210 : ai_chk [kcc28, kcc208, kcc209] kcc210 (fun pc => sm_ch sm_t19 pc, sm_Kn 2 6 none, fun x => sm_lk sm_ca2 x, some .int) [24, 29, 30, 31] 6 0 [] [] 2000 [] = true := by decide +kernel
/-- MiceRegisters.readLine -/
def kcc211 : ak_C := (17, [.inl 0, .inl 14, .inr (false, [(-1, 60)]), .inr (false, [(13, 13)])], kch43, [24, 25, 26], [([[], [], [], []], some (.inr (false, [(-1, 60)])), kch40), ([[], [], [(1, 60)], []], some (.inr (false, [(-9, -9)])), kch42)])
theorem kck211 : ai_chk [kcc26] kcc211 (fun pc => sm_ch sm_t17 pc, sm_Kn 2 6 none, fun x => sm_lk sm_ca2 x, some .int) [24, 25, 26] 6 4 [29] [] 2000 [(29, [(0, .inl 0), (1, .inl 14), (2, .inr (false, [(-1, 60)])), (3, .inr (false, [(13, 13)])), (4, .inr (false, [(14, 14)]))], [], kch44),
  (29, [(0, .inl 0), (1, .inl 14), (2, .inr (false, [(1, 60)])), (3, .inr (false, [(13, 13)])), (4, .inr (false, [(15, 15)])), (5, .inr (false, [(-9, -9)]))], [], kch44),
  (29, [(0, .inl 0), (1, .inl 14), (2, .inr (false, [(1, 60)])), (3, .inr (false, [(13, 13)])), (4, .inr (false, [(16, 16)])), (5, .inr (false, [(-9, -9)]))], [], kch44),
  (29, [(0, .inl 0), (1, .inl 14), (2, .inr (false, [(1, 60)])), (3, .inr (false, [(13, 13)])), (4, .inr (false, [(17, 17)])), (5, .inr (false, [(-9, -9)]))], [], kch44)] = true := by decide +kernel
def kcx217 : aw_A := .inr (.inl (1, 60, [], [(14, [(48, 55)])]))
def kch218 : aw_H := [(14, kcx217)]
/-- MiceRegisters.faultOfFigure -/
def kcc212 : ak_C := (18, [.inl 14, .inr (false, [(-1, 60)]), .inr (false, [(14, 14)]), .inr (false, [(0, 0)]), .inr (false, [(0, 7)])], kch21, [], [([], some (.inr (false, [(-9, -9)])), kch218), ([], some (.inr (false, [(-1, 63)])), [])])
def kcx219 : aw_A := .inr (.inl (1, 60, [], [(15, [(49, 57)]), (14, [(48, 55)])]))
def kch220 : aw_H := [(14, kcx219)]
/-- MiceRegisters.faultOfFigure -/
def kcc213 : ak_C := (18, [.inl 14, .inr (false, [(-1, 60)]), .inr (false, [(15, 15)]), .inr (false, [(1, 1)]), .inr (false, [(9, 9)])], kch218, [], [([], some (.inr (false, [(-9, -9)])), kch220), ([], some (.inr (false, [(-1, 63)])), [])])
/-- MiceRegisters.readMouse -/
def kcc214 : ak_C := (19, [.inl 0, .inl 14, .inr (false, [(-1, 60)]), .inr (false, [(13, 13)])], kch39, [24, 29, 30, 31], [([], some (.inr (false, [(-1, 63)])), kch36), ([], some (.inr (false, [(-9, -9)])), kch38)])
theorem kck214 : ai_chk [kcc28, kcc212, kcc213] kcc214 (fun pc => sm_ch sm_t19 pc, sm_Kn 2 6 none, fun x => sm_lk sm_ca2 x, some .int) [24, 29, 30, 31] 6 0 [] [] 2000 [] = true := by decide +kernel
/-- MiceRegisters.readLine -/
def kcc215 : ak_C := (17, [.inl 0, .inl 14, .inr (false, [(-1, 60)]), .inr (false, [(12, 12)])], kch43, [24, 25, 26], [([[], [], [], []], some (.inr (false, [(-1, 60)])), kch40), ([[], [], [(1, 60)], []], some (.inr (false, [(-9, -9)])), kch42)])
theorem kck215 : ai_chk [kcc26] kcc215 (fun pc => sm_ch sm_t17 pc, sm_Kn 2 6 none, fun x => sm_lk sm_ca2 x, some .int) [24, 25, 26] 6 4 [29] [] 2000 [(29, [(0, .inl 0), (1, .inl 14), (2, .inr (false, [(-1, 60)])), (3, .inr (false, [(12, 12)])), (4, .inr (false, [(13, 13)]))], [], kch44),
  (29, [(0, .inl 0), (1, .inl 14), (2, .inr (false, [(1, 60)])), (3, .inr (false, [(12, 12)])), (4, .inr (false, [(14, 14)])), (5, .inr (false, [(-9, -9)]))], [], kch44),
  (29, [(0, .inl 0), (1, .inl 14), (2, .inr (false, [(1, 60)])), (3, .inr (false, [(12, 12)])), (4, .inr (false, [(15, 15)])), (5, .inr (false, [(-9, -9)]))], [], kch44),
  (29, [(0, .inl 0), (1, .inl 14), (2, .inr (false, [(1, 60)])), (3, .inr (false, [(12, 12)])), (4, .inr (false, [(16, 16)])), (5, .inr (false, [(-9, -9)]))], [], kch44)] = true := by decide +kernel
def kcx221 : aw_A := .inr (.inl (1, 60, [], [(13, [(48, 55)])]))
def kch222 : aw_H := [(14, kcx221)]
/-- MiceRegisters.faultOfFigure -/
def kcc216 : ak_C := (18, [.inl 14, .inr (false, [(-1, 60)]), .inr (false, [(13, 13)]), .inr (false, [(0, 0)]), .inr (false, [(0, 7)])], kch21, [], [([], some (.inr (false, [(-9, -9)])), kch222), ([], some (.inr (false, [(-1, 63)])), [])])
def kcx223 : aw_A := .inr (.inl (1, 60, [], [(14, [(49, 57)]), (13, [(48, 55)])]))
def kch224 : aw_H := [(14, kcx223)]
/-- MiceRegisters.faultOfFigure -/
def kcc217 : ak_C := (18, [.inl 14, .inr (false, [(-1, 60)]), .inr (false, [(14, 14)]), .inr (false, [(1, 1)]), .inr (false, [(9, 9)])], kch222, [], [([], some (.inr (false, [(-9, -9)])), kch224), ([], some (.inr (false, [(-1, 63)])), [])])
/-- MiceRegisters.readMouse -/
def kcc218 : ak_C := (19, [.inl 0, .inl 14, .inr (false, [(-1, 60)]), .inr (false, [(12, 12)])], kch39, [24, 29, 30, 31], [([], some (.inr (false, [(-1, 63)])), kch36), ([], some (.inr (false, [(-9, -9)])), kch38)])
theorem kck218 : ai_chk [kcc28, kcc216, kcc217] kcc218 (fun pc => sm_ch sm_t19 pc, sm_Kn 2 6 none, fun x => sm_lk sm_ca2 x, some .int) [24, 29, 30, 31] 6 0 [] [] 2000 [] = true := by decide +kernel
/-- MiceRegisters.readLine -/
def kcc219 : ak_C := (17, [.inl 0, .inl 14, .inr (false, [(-1, 60)]), .inr (false, [(11, 11)])], kch43, [24, 25, 26], [([[], [], [], []], some (.inr (false, [(-1, 60)])), kch40), ([[], [], [(1, 60)], []], some (.inr (false, [(-9, -9)])), kch42)])
theorem kck219 : ai_chk [kcc26] kcc219 (fun pc => sm_ch sm_t17 pc, sm_Kn 2 6 none, fun x => sm_lk sm_ca2 x, some .int) [24, 25, 26] 6 4 [29] [] 2000 [(29, [(0, .inl 0), (1, .inl 14), (2, .inr (false, [(-1, 60)])), (3, .inr (false, [(11, 11)])), (4, .inr (false, [(12, 12)]))], [], kch44),
  (29, [(0, .inl 0), (1, .inl 14), (2, .inr (false, [(1, 60)])), (3, .inr (false, [(11, 11)])), (4, .inr (false, [(13, 13)])), (5, .inr (false, [(-9, -9)]))], [], kch44),
  (29, [(0, .inl 0), (1, .inl 14), (2, .inr (false, [(1, 60)])), (3, .inr (false, [(11, 11)])), (4, .inr (false, [(14, 14)])), (5, .inr (false, [(-9, -9)]))], [], kch44),
  (29, [(0, .inl 0), (1, .inl 14), (2, .inr (false, [(1, 60)])), (3, .inr (false, [(11, 11)])), (4, .inr (false, [(15, 15)])), (5, .inr (false, [(-9, -9)]))], [], kch44)] = true := by decide +kernel
def kcx225 : aw_A := .inr (.inl (1, 60, [], [(12, [(48, 55)])]))
def kch226 : aw_H := [(14, kcx225)]
/-- MiceRegisters.faultOfFigure -/
def kcc220 : ak_C := (18, [.inl 14, .inr (false, [(-1, 60)]), .inr (false, [(12, 12)]), .inr (false, [(0, 0)]), .inr (false, [(0, 7)])], kch21, [], [([], some (.inr (false, [(-9, -9)])), kch226), ([], some (.inr (false, [(-1, 63)])), [])])
def kcx227 : aw_A := .inr (.inl (1, 60, [], [(13, [(49, 57)]), (12, [(48, 55)])]))
def kch228 : aw_H := [(14, kcx227)]
/-- MiceRegisters.faultOfFigure -/
def kcc221 : ak_C := (18, [.inl 14, .inr (false, [(-1, 60)]), .inr (false, [(13, 13)]), .inr (false, [(1, 1)]), .inr (false, [(9, 9)])], kch226, [], [([], some (.inr (false, [(-9, -9)])), kch228), ([], some (.inr (false, [(-1, 63)])), [])])
/-- MiceRegisters.readMouse -/
def kcc222 : ak_C := (19, [.inl 0, .inl 14, .inr (false, [(-1, 60)]), .inr (false, [(11, 11)])], kch39, [24, 29, 30, 31], [([], some (.inr (false, [(-1, 63)])), kch36), ([], some (.inr (false, [(-9, -9)])), kch38)])
theorem kck222 : ai_chk [kcc28, kcc220, kcc221] kcc222 (fun pc => sm_ch sm_t19 pc, sm_Kn 2 6 none, fun x => sm_lk sm_ca2 x, some .int) [24, 29, 30, 31] 6 0 [] [] 2000 [] = true := by decide +kernel
/-- MiceRegisters.readLine -/
def kcc223 : ak_C := (17, [.inl 0, .inl 14, .inr (false, [(-1, 60)]), .inr (false, [(10, 10)])], kch43, [24, 25, 26], [([[], [], [], []], some (.inr (false, [(-1, 60)])), kch40), ([[], [], [(1, 60)], []], some (.inr (false, [(-9, -9)])), kch42)])
theorem kck223 : ai_chk [kcc26] kcc223 (fun pc => sm_ch sm_t17 pc, sm_Kn 2 6 none, fun x => sm_lk sm_ca2 x, some .int) [24, 25, 26] 6 4 [29] [] 2000 [(29, [(0, .inl 0), (1, .inl 14), (2, .inr (false, [(-1, 60)])), (3, .inr (false, [(10, 10)])), (4, .inr (false, [(11, 11)]))], [], kch44),
  (29, [(0, .inl 0), (1, .inl 14), (2, .inr (false, [(1, 60)])), (3, .inr (false, [(10, 10)])), (4, .inr (false, [(12, 12)])), (5, .inr (false, [(-9, -9)]))], [], kch44),
  (29, [(0, .inl 0), (1, .inl 14), (2, .inr (false, [(1, 60)])), (3, .inr (false, [(10, 10)])), (4, .inr (false, [(13, 13)])), (5, .inr (false, [(-9, -9)]))], [], kch44),
  (29, [(0, .inl 0), (1, .inl 14), (2, .inr (false, [(1, 60)])), (3, .inr (false, [(10, 10)])), (4, .inr (false, [(14, 14)])), (5, .inr (false, [(-9, -9)]))], [], kch44)] = true := by decide +kernel
def kcx229 : aw_A := .inr (.inl (1, 60, [], [(11, [(48, 55)])]))
def kch230 : aw_H := [(14, kcx229)]
/-- MiceRegisters.faultOfFigure -/
def kcc224 : ak_C := (18, [.inl 14, .inr (false, [(-1, 60)]), .inr (false, [(11, 11)]), .inr (false, [(0, 0)]), .inr (false, [(0, 7)])], kch21, [], [([], some (.inr (false, [(-9, -9)])), kch230), ([], some (.inr (false, [(-1, 63)])), [])])
def kcx231 : aw_A := .inr (.inl (1, 60, [], [(12, [(49, 57)]), (11, [(48, 55)])]))
def kch232 : aw_H := [(14, kcx231)]
/-- MiceRegisters.faultOfFigure -/
def kcc225 : ak_C := (18, [.inl 14, .inr (false, [(-1, 60)]), .inr (false, [(12, 12)]), .inr (false, [(1, 1)]), .inr (false, [(9, 9)])], kch230, [], [([], some (.inr (false, [(-9, -9)])), kch232), ([], some (.inr (false, [(-1, 63)])), [])])
/-- MiceRegisters.readMouse -/
def kcc226 : ak_C := (19, [.inl 0, .inl 14, .inr (false, [(-1, 60)]), .inr (false, [(10, 10)])], kch39, [24, 29, 30, 31], [([], some (.inr (false, [(-1, 63)])), kch36), ([], some (.inr (false, [(-9, -9)])), kch38)])
theorem kck226 : ai_chk [kcc28, kcc224, kcc225] kcc226 (fun pc => sm_ch sm_t19 pc, sm_Kn 2 6 none, fun x => sm_lk sm_ca2 x, some .int) [24, 29, 30, 31] 6 0 [] [] 2000 [] = true := by decide +kernel
/-- MiceRegisters.readLine -/
def kcc227 : ak_C := (17, [.inl 0, .inl 14, .inr (false, [(-1, 60)]), .inr (false, [(9, 9)])], kch43, [24, 25, 26], [([[], [], [], []], some (.inr (false, [(-1, 60)])), kch40), ([[], [], [(1, 60)], []], some (.inr (false, [(-9, -9)])), kch42)])
theorem kck227 : ai_chk [kcc26] kcc227 (fun pc => sm_ch sm_t17 pc, sm_Kn 2 6 none, fun x => sm_lk sm_ca2 x, some .int) [24, 25, 26] 6 4 [29] [] 2000 [(29, [(0, .inl 0), (1, .inl 14), (2, .inr (false, [(-1, 60)])), (3, .inr (false, [(9, 9)])), (4, .inr (false, [(10, 10)]))], [], kch44),
  (29, [(0, .inl 0), (1, .inl 14), (2, .inr (false, [(1, 60)])), (3, .inr (false, [(9, 9)])), (4, .inr (false, [(11, 11)])), (5, .inr (false, [(-9, -9)]))], [], kch44),
  (29, [(0, .inl 0), (1, .inl 14), (2, .inr (false, [(1, 60)])), (3, .inr (false, [(9, 9)])), (4, .inr (false, [(12, 12)])), (5, .inr (false, [(-9, -9)]))], [], kch44),
  (29, [(0, .inl 0), (1, .inl 14), (2, .inr (false, [(1, 60)])), (3, .inr (false, [(9, 9)])), (4, .inr (false, [(13, 13)])), (5, .inr (false, [(-9, -9)]))], [], kch44)] = true := by decide +kernel
def kcx233 : aw_A := .inr (.inl (1, 60, [], [(10, [(48, 55)])]))
def kch234 : aw_H := [(14, kcx233)]
/-- MiceRegisters.faultOfFigure -/
def kcc228 : ak_C := (18, [.inl 14, .inr (false, [(-1, 60)]), .inr (false, [(10, 10)]), .inr (false, [(0, 0)]), .inr (false, [(0, 7)])], kch21, [], [([], some (.inr (false, [(-9, -9)])), kch234), ([], some (.inr (false, [(-1, 63)])), [])])
def kcx235 : aw_A := .inr (.inl (1, 60, [], [(11, [(49, 57)]), (10, [(48, 55)])]))
def kch236 : aw_H := [(14, kcx235)]
/-- MiceRegisters.faultOfFigure -/
def kcc229 : ak_C := (18, [.inl 14, .inr (false, [(-1, 60)]), .inr (false, [(11, 11)]), .inr (false, [(1, 1)]), .inr (false, [(9, 9)])], kch234, [], [([], some (.inr (false, [(-9, -9)])), kch236), ([], some (.inr (false, [(-1, 63)])), [])])
/-- MiceRegisters.readMouse -/
def kcc230 : ak_C := (19, [.inl 0, .inl 14, .inr (false, [(-1, 60)]), .inr (false, [(9, 9)])], kch39, [24, 29, 30, 31], [([], some (.inr (false, [(-1, 63)])), kch36), ([], some (.inr (false, [(-9, -9)])), kch38)])
theorem kck230 : ai_chk [kcc28, kcc228, kcc229] kcc230 (fun pc => sm_ch sm_t19 pc, sm_Kn 2 6 none, fun x => sm_lk sm_ca2 x, some .int) [24, 29, 30, 31] 6 0 [] [] 2000 [] = true := by decide +kernel
/-- MiceRegisters.readLine -/
def kcc231 : ak_C := (17, [.inl 0, .inl 14, .inr (false, [(-1, 60)]), .inr (false, [(8, 8)])], kch43, [24, 25, 26], [([[], [], [], []], some (.inr (false, [(-1, 60)])), kch40), ([[], [], [(1, 60)], []], some (.inr (false, [(-9, -9)])), kch42)])
theorem kck231 : ai_chk [kcc26] kcc231 (fun pc => sm_ch sm_t17 pc, sm_Kn 2 6 none, fun x => sm_lk sm_ca2 x, some .int) [24, 25, 26] 6 4 [29] [] 2000 [(29, [(0, .inl 0), (1, .inl 14), (2, .inr (false, [(-1, 60)])), (3, .inr (false, [(8, 8)])), (4, .inr (false, [(9, 9)]))], [], kch44),
  (29, [(0, .inl 0), (1, .inl 14), (2, .inr (false, [(1, 60)])), (3, .inr (false, [(8, 8)])), (4, .inr (false, [(10, 10)])), (5, .inr (false, [(-9, -9)]))], [], kch44),
  (29, [(0, .inl 0), (1, .inl 14), (2, .inr (false, [(1, 60)])), (3, .inr (false, [(8, 8)])), (4, .inr (false, [(11, 11)])), (5, .inr (false, [(-9, -9)]))], [], kch44),
  (29, [(0, .inl 0), (1, .inl 14), (2, .inr (false, [(1, 60)])), (3, .inr (false, [(8, 8)])), (4, .inr (false, [(12, 12)])), (5, .inr (false, [(-9, -9)]))], [], kch44)] = true := by decide +kernel
def kcx237 : aw_A := .inr (.inl (1, 60, [], [(9, [(48, 55)])]))
def kch238 : aw_H := [(14, kcx237)]
/-- MiceRegisters.faultOfFigure -/
def kcc232 : ak_C := (18, [.inl 14, .inr (false, [(-1, 60)]), .inr (false, [(9, 9)]), .inr (false, [(0, 0)]), .inr (false, [(0, 7)])], kch21, [], [([], some (.inr (false, [(-9, -9)])), kch238), ([], some (.inr (false, [(-1, 63)])), [])])
def kcx239 : aw_A := .inr (.inl (1, 60, [], [(10, [(49, 57)]), (9, [(48, 55)])]))
def kch240 : aw_H := [(14, kcx239)]
/-- MiceRegisters.faultOfFigure -/
def kcc233 : ak_C := (18, [.inl 14, .inr (false, [(-1, 60)]), .inr (false, [(10, 10)]), .inr (false, [(1, 1)]), .inr (false, [(9, 9)])], kch238, [], [([], some (.inr (false, [(-9, -9)])), kch240), ([], some (.inr (false, [(-1, 63)])), [])])
/-- MiceRegisters.readMouse -/
def kcc234 : ak_C := (19, [.inl 0, .inl 14, .inr (false, [(-1, 60)]), .inr (false, [(8, 8)])], kch39, [24, 29, 30, 31], [([], some (.inr (false, [(-1, 63)])), kch36), ([], some (.inr (false, [(-9, -9)])), kch38)])
theorem kck234 : ai_chk [kcc28, kcc232, kcc233] kcc234 (fun pc => sm_ch sm_t19 pc, sm_Kn 2 6 none, fun x => sm_lk sm_ca2 x, some .int) [24, 29, 30, 31] 6 0 [] [] 2000 [] = true := by decide +kernel
/-- MiceRegisters.readLine -/
def kcc235 : ak_C := (17, [.inl 0, .inl 14, .inr (false, [(-1, 60)]), .inr (false, [(7, 7)])], kch43, [24, 25, 26], [([[], [], [], []], some (.inr (false, [(-1, 60)])), kch40), ([[], [], [(1, 60)], []], some (.inr (false, [(-9, -9)])), kch42)])
theorem kck235 : ai_chk [kcc26] kcc235 (fun pc => sm_ch sm_t17 pc, sm_Kn 2 6 none, fun x => sm_lk sm_ca2 x, some .int) [24, 25, 26] 6 4 [29] [] 2000 [(29, [(0, .inl 0), (1, .inl 14), (2, .inr (false, [(-1, 60)])), (3, .inr (false, [(7, 7)])), (4, .inr (false, [(8, 8)]))], [], kch44),
  (29, [(0, .inl 0), (1, .inl 14), (2, .inr (false, [(1, 60)])), (3, .inr (false, [(7, 7)])), (4, .inr (false, [(9, 9)])), (5, .inr (false, [(-9, -9)]))], [], kch44),
  (29, [(0, .inl 0), (1, .inl 14), (2, .inr (false, [(1, 60)])), (3, .inr (false, [(7, 7)])), (4, .inr (false, [(10, 10)])), (5, .inr (false, [(-9, -9)]))], [], kch44),
  (29, [(0, .inl 0), (1, .inl 14), (2, .inr (false, [(1, 60)])), (3, .inr (false, [(7, 7)])), (4, .inr (false, [(11, 11)])), (5, .inr (false, [(-9, -9)]))], [], kch44)] = true := by decide +kernel
def kcx241 : aw_A := .inr (.inl (1, 60, [], [(8, [(48, 55)])]))
def kch242 : aw_H := [(14, kcx241)]
/-- MiceRegisters.faultOfFigure -/
def kcc236 : ak_C := (18, [.inl 14, .inr (false, [(-1, 60)]), .inr (false, [(8, 8)]), .inr (false, [(0, 0)]), .inr (false, [(0, 7)])], kch21, [], [([], some (.inr (false, [(-9, -9)])), kch242), ([], some (.inr (false, [(-1, 63)])), [])])
def kcx243 : aw_A := .inr (.inl (1, 60, [], [(9, [(49, 57)]), (8, [(48, 55)])]))
def kch244 : aw_H := [(14, kcx243)]
/-- MiceRegisters.faultOfFigure -/
def kcc237 : ak_C := (18, [.inl 14, .inr (false, [(-1, 60)]), .inr (false, [(9, 9)]), .inr (false, [(1, 1)]), .inr (false, [(9, 9)])], kch242, [], [([], some (.inr (false, [(-9, -9)])), kch244), ([], some (.inr (false, [(-1, 63)])), [])])
/-- MiceRegisters.readMouse -/
def kcc238 : ak_C := (19, [.inl 0, .inl 14, .inr (false, [(-1, 60)]), .inr (false, [(7, 7)])], kch39, [24, 29, 30, 31], [([], some (.inr (false, [(-1, 63)])), kch36), ([], some (.inr (false, [(-9, -9)])), kch38)])
theorem kck238 : ai_chk [kcc28, kcc236, kcc237] kcc238 (fun pc => sm_ch sm_t19 pc, sm_Kn 2 6 none, fun x => sm_lk sm_ca2 x, some .int) [24, 29, 30, 31] 6 0 [] [] 2000 [] = true := by decide +kernel
/-- MiceRegisters.readLine -/
def kcc239 : ak_C := (17, [.inl 0, .inl 14, .inr (false, [(-1, 60)]), .inr (false, [(6, 6)])], kch43, [24, 25, 26], [([[], [], [], []], some (.inr (false, [(-1, 60)])), kch40), ([[], [], [(1, 60)], []], some (.inr (false, [(-9, -9)])), kch42)])
theorem kck239 : ai_chk [kcc26] kcc239 (fun pc => sm_ch sm_t17 pc, sm_Kn 2 6 none, fun x => sm_lk sm_ca2 x, some .int) [24, 25, 26] 6 4 [29] [] 2000 [(29, [(0, .inl 0), (1, .inl 14), (2, .inr (false, [(-1, 60)])), (3, .inr (false, [(6, 6)])), (4, .inr (false, [(7, 7)]))], [], kch44),
  (29, [(0, .inl 0), (1, .inl 14), (2, .inr (false, [(1, 60)])), (3, .inr (false, [(6, 6)])), (4, .inr (false, [(8, 8)])), (5, .inr (false, [(-9, -9)]))], [], kch44),
  (29, [(0, .inl 0), (1, .inl 14), (2, .inr (false, [(1, 60)])), (3, .inr (false, [(6, 6)])), (4, .inr (false, [(9, 9)])), (5, .inr (false, [(-9, -9)]))], [], kch44),
  (29, [(0, .inl 0), (1, .inl 14), (2, .inr (false, [(1, 60)])), (3, .inr (false, [(6, 6)])), (4, .inr (false, [(10, 10)])), (5, .inr (false, [(-9, -9)]))], [], kch44)] = true := by decide +kernel
def kcx245 : aw_A := .inr (.inl (1, 60, [], [(7, [(48, 55)])]))
def kch246 : aw_H := [(14, kcx245)]
/-- MiceRegisters.faultOfFigure -/
def kcc240 : ak_C := (18, [.inl 14, .inr (false, [(-1, 60)]), .inr (false, [(7, 7)]), .inr (false, [(0, 0)]), .inr (false, [(0, 7)])], kch21, [], [([], some (.inr (false, [(-9, -9)])), kch246), ([], some (.inr (false, [(-1, 63)])), [])])
def kcx247 : aw_A := .inr (.inl (1, 60, [], [(8, [(49, 57)]), (7, [(48, 55)])]))
def kch248 : aw_H := [(14, kcx247)]
/-- MiceRegisters.faultOfFigure -/
def kcc241 : ak_C := (18, [.inl 14, .inr (false, [(-1, 60)]), .inr (false, [(8, 8)]), .inr (false, [(1, 1)]), .inr (false, [(9, 9)])], kch246, [], [([], some (.inr (false, [(-9, -9)])), kch248), ([], some (.inr (false, [(-1, 63)])), [])])
/-- MiceRegisters.readMouse -/
def kcc242 : ak_C := (19, [.inl 0, .inl 14, .inr (false, [(-1, 60)]), .inr (false, [(6, 6)])], kch39, [24, 29, 30, 31], [([], some (.inr (false, [(-1, 63)])), kch36), ([], some (.inr (false, [(-9, -9)])), kch38)])
theorem kck242 : ai_chk [kcc28, kcc240, kcc241] kcc242 (fun pc => sm_ch sm_t19 pc, sm_Kn 2 6 none, fun x => sm_lk sm_ca2 x, some .int) [24, 29, 30, 31] 6 0 [] [] 2000 [] = true := by decide +kernel
/-- MiceRegisters.readLine -/
def kcc243 : ak_C := (17, [.inl 0, .inl 14, .inr (false, [(-1, 60)]), .inr (false, [(5, 5)])], kch43, [24, 25, 26], [([[], [], [], []], some (.inr (false, [(-1, 60)])), kch40), ([[], [], [(1, 60)], []], some (.inr (false, [(-9, -9)])), kch42)])
theorem kck243 : ai_chk [kcc26] kcc243 (fun pc => sm_ch sm_t17 pc, sm_Kn 2 6 none, fun x => sm_lk sm_ca2 x, some .int) [24, 25, 26] 6 4 [29] [] 2000 [(29, [(0, .inl 0), (1, .inl 14), (2, .inr (false, [(-1, 60)])), (3, .inr (false, [(5, 5)])), (4, .inr (false, [(6, 6)]))], [], kch44),
  (29, [(0, .inl 0), (1, .inl 14), (2, .inr (false, [(1, 60)])), (3, .inr (false, [(5, 5)])), (4, .inr (false, [(7, 7)])), (5, .inr (false, [(-9, -9)]))], [], kch44),
  (29, [(0, .inl 0), (1, .inl 14), (2, .inr (false, [(1, 60)])), (3, .inr (false, [(5, 5)])), (4, .inr (false, [(8, 8)])), (5, .inr (false, [(-9, -9)]))], [], kch44),
  (29, [(0, .inl 0), (1, .inl 14), (2, .inr (false, [(1, 60)])), (3, .inr (false, [(5, 5)])), (4, .inr (false, [(9, 9)])), (5, .inr (false, [(-9, -9)]))], [], kch44)] = true := by decide +kernel
def kcx249 : aw_A := .inr (.inl (1, 60, [], [(6, [(48, 55)])]))
def kch250 : aw_H := [(14, kcx249)]
/-- MiceRegisters.faultOfFigure -/
def kcc244 : ak_C := (18, [.inl 14, .inr (false, [(-1, 60)]), .inr (false, [(6, 6)]), .inr (false, [(0, 0)]), .inr (false, [(0, 7)])], kch21, [], [([], some (.inr (false, [(-9, -9)])), kch250), ([], some (.inr (false, [(-1, 63)])), [])])
def kcx251 : aw_A := .inr (.inl (1, 60, [], [(7, [(49, 57)]), (6, [(48, 55)])]))
def kch252 : aw_H := [(14, kcx251)]
/-- MiceRegisters.faultOfFigure -/
def kcc245 : ak_C := (18, [.inl 14, .inr (false, [(-1, 60)]), .inr (false, [(7, 7)]), .inr (false, [(1, 1)]), .inr (false, [(9, 9)])], kch250, [], [([], some (.inr (false, [(-9, -9)])), kch252), ([], some (.inr (false, [(-1, 63)])), [])])
/-- MiceRegisters.readMouse -/
def kcc246 : ak_C := (19, [.inl 0, .inl 14, .inr (false, [(-1, 60)]), .inr (false, [(5, 5)])], kch39, [24, 29, 30, 31], [([], some (.inr (false, [(-1, 63)])), kch36), ([], some (.inr (false, [(-9, -9)])), kch38)])
theorem kck246 : ai_chk [kcc28, kcc244, kcc245] kcc246 (fun pc => sm_ch sm_t19 pc, sm_Kn 2 6 none, fun x => sm_lk sm_ca2 x, some .int) [24, 29, 30, 31] 6 0 [] [] 2000 [] = true := by decide +kernel
/-- MiceRegisters.readLine -/
def kcc247 : ak_C := (17, [.inl 0, .inl 14, .inr (false, [(-1, 60)]), .inr (false, [(4, 4)])], kch43, [24, 25, 26], [([[], [], [], []], some (.inr (false, [(-1, 60)])), kch40), ([[], [], [(1, 60)], []], some (.inr (false, [(-9, -9)])), kch42)])
theorem kck247 : ai_chk [kcc26] kcc247 (fun pc => sm_ch sm_t17 pc, sm_Kn 2 6 none, fun x => sm_lk sm_ca2 x, some .int) [24, 25, 26] 6 4 [29] [] 2000 [(29, [(0, .inl 0), (1, .inl 14), (2, .inr (false, [(-1, 60)])), (3, .inr (false, [(4, 4)])), (4, .inr (false, [(5, 5)]))], [], kch44),
  (29, [(0, .inl 0), (1, .inl 14), (2, .inr (false, [(1, 60)])), (3, .inr (false, [(4, 4)])), (4, .inr (false, [(6, 6)])), (5, .inr (false, [(-9, -9)]))], [], kch44),
  (29, [(0, .inl 0), (1, .inl 14), (2, .inr (false, [(1, 60)])), (3, .inr (false, [(4, 4)])), (4, .inr (false, [(7, 7)])), (5, .inr (false, [(-9, -9)]))], [], kch44),
  (29, [(0, .inl 0), (1, .inl 14), (2, .inr (false, [(1, 60)])), (3, .inr (false, [(4, 4)])), (4, .inr (false, [(8, 8)])), (5, .inr (false, [(-9, -9)]))], [], kch44)] = true := by decide +kernel
def kcx253 : aw_A := .inr (.inl (1, 60, [], [(5, [(48, 55)])]))
def kch254 : aw_H := [(14, kcx253)]
/-- MiceRegisters.faultOfFigure -/
def kcc248 : ak_C := (18, [.inl 14, .inr (false, [(-1, 60)]), .inr (false, [(5, 5)]), .inr (false, [(0, 0)]), .inr (false, [(0, 7)])], kch21, [], [([], some (.inr (false, [(-9, -9)])), kch254), ([], some (.inr (false, [(-1, 63)])), [])])
def kcx255 : aw_A := .inr (.inl (1, 60, [], [(6, [(49, 57)]), (5, [(48, 55)])]))
def kch256 : aw_H := [(14, kcx255)]
/-- MiceRegisters.faultOfFigure -/
def kcc249 : ak_C := (18, [.inl 14, .inr (false, [(-1, 60)]), .inr (false, [(6, 6)]), .inr (false, [(1, 1)]), .inr (false, [(9, 9)])], kch254, [], [([], some (.inr (false, [(-9, -9)])), kch256), ([], some (.inr (false, [(-1, 63)])), [])])
/-- MiceRegisters.readMouse -/
def kcc250 : ak_C := (19, [.inl 0, .inl 14, .inr (false, [(-1, 60)]), .inr (false, [(4, 4)])], kch39, [24, 29, 30, 31], [([], some (.inr (false, [(-1, 63)])), kch36), ([], some (.inr (false, [(-9, -9)])), kch38)])
theorem kck250 : ai_chk [kcc28, kcc248, kcc249] kcc250 (fun pc => sm_ch sm_t19 pc, sm_Kn 2 6 none, fun x => sm_lk sm_ca2 x, some .int) [24, 29, 30, 31] 6 0 [] [] 2000 [] = true := by decide +kernel
/-- MiceRegisters.readLine -/
def kcc251 : ak_C := (17, [.inl 0, .inl 14, .inr (false, [(-1, 60)]), .inr (false, [(3, 3)])], kch43, [24, 25, 26], [([[], [], [], []], some (.inr (false, [(-1, 60)])), kch40), ([[], [], [(1, 60)], []], some (.inr (false, [(-9, -9)])), kch42)])
theorem kck251 : ai_chk [kcc26] kcc251 (fun pc => sm_ch sm_t17 pc, sm_Kn 2 6 none, fun x => sm_lk sm_ca2 x, some .int) [24, 25, 26] 6 4 [29] [] 2000 [(29, [(0, .inl 0), (1, .inl 14), (2, .inr (false, [(-1, 60)])), (3, .inr (false, [(3, 3)])), (4, .inr (false, [(4, 4)]))], [], kch44),
  (29, [(0, .inl 0), (1, .inl 14), (2, .inr (false, [(1, 60)])), (3, .inr (false, [(3, 3)])), (4, .inr (false, [(5, 5)])), (5, .inr (false, [(-9, -9)]))], [], kch44),
  (29, [(0, .inl 0), (1, .inl 14), (2, .inr (false, [(1, 60)])), (3, .inr (false, [(3, 3)])), (4, .inr (false, [(6, 6)])), (5, .inr (false, [(-9, -9)]))], [], kch44),
  (29, [(0, .inl 0), (1, .inl 14), (2, .inr (false, [(1, 60)])), (3, .inr (false, [(3, 3)])), (4, .inr (false, [(7, 7)])), (5, .inr (false, [(-9, -9)]))], [], kch44)] = true := by decide +kernel
def kcx257 : aw_A := .inr (.inl (1, 60, [], [(4, [(48, 55)])]))
def kch258 : aw_H := [(14, kcx257)]
/-- MiceRegisters.faultOfFigure -/
def kcc252 : ak_C := (18, [.inl 14, .inr (false, [(-1, 60)]), .inr (false, [(4, 4)]), .inr (false, [(0, 0)]), .inr (false, [(0, 7)])], kch21, [], [([], some (.inr (false, [(-9, -9)])), kch258), ([], some (.inr (false, [(-1, 63)])), [])])
def kcx259 : aw_A := .inr (.inl (1, 60, [], [(5, [(49, 57)]), (4, [(48, 55)])]))
def kch260 : aw_H := [(14, kcx259)]
/-- MiceRegisters.faultOfFigure -/
def kcc253 : ak_C := (18, [.inl 14, .inr (false, [(-1, 60)]), .inr (false, [(5, 5)]), .inr (false, [(1, 1)]), .inr (false, [(9, 9)])], kch258, [], [([], some (.inr (false, [(-9, -9)])), kch260), ([], some (.inr (false, [(-1, 63)])), [])])
/-- MiceRegisters.readMouse -/
def kcc254 : ak_C := (19, [.inl 0, .inl 14, .inr (false, [(-1, 60)]), .inr (false, [(3, 3)])], kch39, [24, 29, 30, 31], [([], some (.inr (false, [(-1, 63)])), kch36), ([], some (.inr (false, [(-9, -9)])), kch38)])
theorem kck254 : ai_chk [kcc28, kcc252, kcc253] kcc254 (fun pc => sm_ch sm_t19 pc, sm_Kn 2 6 none, fun x => sm_lk sm_ca2 x, some .int) [24, 29, 30, 31] 6 0 [] [] 2000 [] = true := by decide +kernel
/-- MiceRegisters.readLine -/
def kcc255 : ak_C := (17, [.inl 0, .inl 14, .inr (false, [(-1, 60)]), .inr (false, [(2, 2)])], kch43, [24, 25, 26], [([[], [], [], []], some (.inr (false, [(-1, 60)])), kch40), ([[], [], [(1, 60)], []], some (.inr (false, [(-9, -9)])), kch42)])
theorem kck255 : ai_chk [kcc26] kcc255 (fun pc => sm_ch sm_t17 pc, sm_Kn 2 6 none, fun x => sm_lk sm_ca2 x, some .int) [24, 25, 26] 6 4 [29] [] 2000 [(29, [(0, .inl 0), (1, .inl 14), (2, .inr (false, [(-1, 60)])), (3, .inr (false, [(2, 2)])), (4, .inr (false, [(3, 3)]))], [], kch44),
  (29, [(0, .inl 0), (1, .inl 14), (2, .inr (false, [(1, 60)])), (3, .inr (false, [(2, 2)])), (4, .inr (false, [(4, 4)])), (5, .inr (false, [(-9, -9)]))], [], kch44),
  (29, [(0, .inl 0), (1, .inl 14), (2, .inr (false, [(1, 60)])), (3, .inr (false, [(2, 2)])), (4, .inr (false, [(5, 5)])), (5, .inr (false, [(-9, -9)]))], [], kch44),
  (29, [(0, .inl 0), (1, .inl 14), (2, .inr (false, [(1, 60)])), (3, .inr (false, [(2, 2)])), (4, .inr (false, [(6, 6)])), (5, .inr (false, [(-9, -9)]))], [], kch44)] = true := by decide +kernel
def kcx261 : aw_A := .inr (.inl (1, 60, [], [(3, [(48, 55)])]))
def kch262 : aw_H := [(14, kcx261)]
/-- MiceRegisters.faultOfFigure -/
def kcc256 : ak_C := (18, [.inl 14, .inr (false, [(-1, 60)]), .inr (false, [(3, 3)]), .inr (false, [(0, 0)]), .inr (false, [(0, 7)])], kch21, [], [([], some (.inr (false, [(-9, -9)])), kch262), ([], some (.inr (false, [(-1, 63)])), [])])
def kcx263 : aw_A := .inr (.inl (1, 60, [], [(4, [(49, 57)]), (3, [(48, 55)])]))
def kch264 : aw_H := [(14, kcx263)]
/-- MiceRegisters.faultOfFigure -/
def kcc257 : ak_C := (18, [.inl 14, .inr (false, [(-1, 60)]), .inr (false, [(4, 4)]), .inr (false, [(1, 1)]), .inr (false, [(9, 9)])], kch262, [], [([], some (.inr (false, [(-9, -9)])), kch264), ([], some (.inr (false, [(-1, 63)])), [])])
/-- MiceRegisters.readMouse -/
def kcc258 : ak_C := (19, [.inl 0, .inl 14, .inr (false, [(-1, 60)]), .inr (false, [(2, 2)])], kch39, [24, 29, 30, 31], [([], some (.inr (false, [(-1, 63)])), kch36), ([], some (.inr (false, [(-9, -9)])), kch38)])
theorem kck258 : ai_chk [kcc28, kcc256, kcc257] kcc258 (fun pc => sm_ch sm_t19 pc, sm_Kn 2 6 none, fun x => sm_lk sm_ca2 x, some .int) [24, 29, 30, 31] 6 0 [] [] 2000 [] = true := by decide +kernel
/-- MiceRegisters.readLine -/
def kcc259 : ak_C := (17, [.inl 0, .inl 14, .inr (false, [(-1, 60)]), .inr (false, [(1, 1)])], kch43, [24, 25, 26], [([[], [], [], []], some (.inr (false, [(-1, 60)])), kch40), ([[], [], [(1, 60)], []], some (.inr (false, [(-9, -9)])), kch42)])
theorem kck259 : ai_chk [kcc26] kcc259 (fun pc => sm_ch sm_t17 pc, sm_Kn 2 6 none, fun x => sm_lk sm_ca2 x, some .int) [24, 25, 26] 6 4 [29] [] 2000 [(29, [(0, .inl 0), (1, .inl 14), (2, .inr (false, [(-1, 60)])), (3, .inr (false, [(1, 1)])), (4, .inr (false, [(2, 2)]))], [], kch44),
  (29, [(0, .inl 0), (1, .inl 14), (2, .inr (false, [(1, 60)])), (3, .inr (false, [(1, 1)])), (4, .inr (false, [(3, 3)])), (5, .inr (false, [(-9, -9)]))], [], kch44),
  (29, [(0, .inl 0), (1, .inl 14), (2, .inr (false, [(1, 60)])), (3, .inr (false, [(1, 1)])), (4, .inr (false, [(4, 4)])), (5, .inr (false, [(-9, -9)]))], [], kch44),
  (29, [(0, .inl 0), (1, .inl 14), (2, .inr (false, [(1, 60)])), (3, .inr (false, [(1, 1)])), (4, .inr (false, [(5, 5)])), (5, .inr (false, [(-9, -9)]))], [], kch44)] = true := by decide +kernel
def kcx265 : aw_A := .inr (.inl (1, 60, [], [(2, [(48, 55)])]))
def kch266 : aw_H := [(14, kcx265)]
/-- MiceRegisters.faultOfFigure -/
def kcc260 : ak_C := (18, [.inl 14, .inr (false, [(-1, 60)]), .inr (false, [(2, 2)]), .inr (false, [(0, 0)]), .inr (false, [(0, 7)])], kch21, [], [([], some (.inr (false, [(-9, -9)])), kch266), ([], some (.inr (false, [(-1, 63)])), [])])
def kcx267 : aw_A := .inr (.inl (1, 60, [], [(3, [(49, 57)]), (2, [(48, 55)])]))
def kch268 : aw_H := [(14, kcx267)]
/-- MiceRegisters.faultOfFigure -/
def kcc261 : ak_C := (18, [.inl 14, .inr (false, [(-1, 60)]), .inr (false, [(3, 3)]), .inr (false, [(1, 1)]), .inr (false, [(9, 9)])], kch266, [], [([], some (.inr (false, [(-9, -9)])), kch268), ([], some (.inr (false, [(-1, 63)])), [])])
/-- MiceRegisters.readMouse -/
def kcc262 : ak_C := (19, [.inl 0, .inl 14, .inr (false, [(-1, 60)]), .inr (false, [(1, 1)])], kch39, [24, 29, 30, 31], [([], some (.inr (false, [(-1, 63)])), kch36), ([], some (.inr (false, [(-9, -9)])), kch38)])
theorem kck262 : ai_chk [kcc28, kcc260, kcc261] kcc262 (fun pc => sm_ch sm_t19 pc, sm_Kn 2 6 none, fun x => sm_lk sm_ca2 x, some .int) [24, 29, 30, 31] 6 0 [] [] 2000 [] = true := by decide +kernel
/-- MiceRegisters.faultOfFigure -/
def kcc263 : ak_C := (18, [.inl 13, .inr (false, [(-1, 60)]), .inr (false, [(0, 63)]), .inr (false, ar_t32), .inr (false, ar_t32)], kch22, [], [([[], [], [], [], []], some (.inr (false, [(-1, 60)])), []), ([[], [(1, 60)], [(0, 59)], [], []], some (.inr (false, [(-9, -9)])), [])])
theorem kck263 : ai_chk [] kcc263 (fun pc => sm_ch sm_t18 pc, sm_Kn 2 6 none, fun x => sm_lk sm_ca2 x, some .int) [] 6 5 [] [] 2000 [] = true := by decide +kernel
/-- MiceRegisters.readLine -/
def kch269 : aw_H := [(0, kcx2), (13, .inr (.inl (1, 60, [], []))), (24, kcx25)]
def kcc264 : ak_C := (17, [.inl 0, .inl 13, .inr (false, [(-1, 60)]), .inr (false, [(59, 59)])], kch269, [], [([], some (.inr (false, [(-1, 60)])), [])])
def kch270 : aw_H := [(0, kcx2), (13, .inr (.inl (1, 60, [], []))), (24, kcx27)]
theorem kck264 : ai_chk [kcc263] kcc264 (fun pc => sm_ch sm_t17 pc, sm_Kn 2 6 none, fun x => sm_lk sm_ca2 x, some .int) [] 6 0 [29] [] 2000 [(29, [(0, .inl 0), (1, .inl 13), (2, .inr (false, [(-1, 60)])), (3, .inr (false, [(59, 59)])), (4, .inr (false, [(60, 60)]))], [], kch270)] = true := by decide +kernel
/-- MiceRegisters.faultOfFigure -/
def kcc265 : ak_C := (18, [.inl 13, .inr (false, [(-1, 60)]), .inr (false, [(60, 60)]), .inr (false, [(0, 0)]), .inr (false, [(0, 7)])], kch22, [], [([], some (.inr (false, [(-1, 63)])), [])])
/-- MiceRegisters.readMouse -/
def kcc266 : ak_C := (19, [.inl 0, .inl 13, .inr (false, [(-1, 60)]), .inr (false, [(59, 59)])], kch269, [], [([], some (.inr (false, [(-1, 63)])), [])])
theorem kck266 : ai_chk [kcc28, kcc265] kcc266 (fun pc => sm_ch sm_t19 pc, sm_Kn 2 6 none, fun x => sm_lk sm_ca2 x, some .int) [] 6 0 [] [] 2000 [] = true := by decide +kernel
/-- MiceRegisters.readLine -/
def kcc267 : ak_C := (17, [.inl 0, .inl 13, .inr (false, [(-1, 60)]), .inr (false, [(58, 58)])], kch269, [], [([], some (.inr (false, [(-1, 60)])), [])])
theorem kck267 : ai_chk [kcc263] kcc267 (fun pc => sm_ch sm_t17 pc, sm_Kn 2 6 none, fun x => sm_lk sm_ca2 x, some .int) [] 6 0 [29] [] 2000 [(29, [(0, .inl 0), (1, .inl 13), (2, .inr (false, [(-1, 60)])), (3, .inr (false, [(58, 58)])), (4, .inr (false, [(59, 59)]))], [], kch270),
  (29, [(0, .inl 0), (1, .inl 13), (2, .inr (false, [(1, 60)])), (3, .inr (false, [(58, 58)])), (4, .inr (false, [(60, 60)])), (5, .inr (false, [(-9, -9)]))], [], kch270)] = true := by decide +kernel
def kch271 : aw_H := [(13, kcx29)]
/-- MiceRegisters.faultOfFigure -/
def kcc268 : ak_C := (18, [.inl 13, .inr (false, [(-1, 60)]), .inr (false, [(59, 59)]), .inr (false, [(0, 0)]), .inr (false, [(0, 7)])], kch22, [], [([], some (.inr (false, [(-9, -9)])), kch271), ([], some (.inr (false, [(-1, 63)])), [])])
/-- MiceRegisters.faultOfFigure -/
def kcc269 : ak_C := (18, [.inl 13, .inr (false, [(-1, 60)]), .inr (false, [(60, 60)]), .inr (false, [(1, 1)]), .inr (false, [(9, 9)])], kch271, [], [([], some (.inr (false, [(-1, 63)])), [])])
/-- MiceRegisters.readMouse -/
def kcc270 : ak_C := (19, [.inl 0, .inl 13, .inr (false, [(-1, 60)]), .inr (false, [(58, 58)])], kch269, [], [([], some (.inr (false, [(-1, 63)])), [])])
theorem kck270 : ai_chk [kcc28, kcc268, kcc269] kcc270 (fun pc => sm_ch sm_t19 pc, sm_Kn 2 6 none, fun x => sm_lk sm_ca2 x, some .int) [] 6 0 [] [] 2000 [] = true := by decide +kernel
/-- MiceRegisters.readLine -/
def kcc271 : ak_C := (17, [.inl 0, .inl 13, .inr (false, [(-1, 60)]), .inr (false, [(57, 57)])], kch269, [], [([], some (.inr (false, [(-1, 60)])), [])])
theorem kck271 : ai_chk [kcc263] kcc271 (fun pc => sm_ch sm_t17 pc, sm_Kn 2 6 none, fun x => sm_lk sm_ca2 x, some .int) [] 6 0 [29] [] 2000 [(29, [(0, .inl 0), (1, .inl 13), (2, .inr (false, [(-1, 60)])), (3, .inr (false, [(57, 57)])), (4, .inr (false, [(58, 58)]))], [], kch270),
  (29, [(0, .inl 0), (1, .inl 13), (2, .inr (false, [(1, 60)])), (3, .inr (false, [(57, 57)])), (4, .inr (false, [(59, 59)])), (5, .inr (false, [(-9, -9)]))], [], kch270),
  (29, [(0, .inl 0), (1, .inl 13), (2, .inr (false, [(1, 60)])), (3, .inr (false, [(57, 57)])), (4, .inr (false, [(60, 60)])), (5, .inr (false, [(-9, -9)]))], [], kch270)] = true := by decide +kernel
def kch272 : aw_H := [(13, kcx31)]
/-- MiceRegisters.faultOfFigure -/
def kcc272 : ak_C := (18, [.inl 13, .inr (false, [(-1, 60)]), .inr (false, [(58, 58)]), .inr (false, [(0, 0)]), .inr (false, [(0, 7)])], kch22, [], [([], some (.inr (false, [(-9, -9)])), kch272), ([], some (.inr (false, [(-1, 63)])), [])])
def kch273 : aw_H := [(13, kcx33)]
/-- MiceRegisters.faultOfFigure -/
def kcc273 : ak_C := (18, [.inl 13, .inr (false, [(-1, 60)]), .inr (false, [(59, 59)]), .inr (false, [(1, 1)]), .inr (false, [(9, 9)])], kch272, [], [([], some (.inr (false, [(-9, -9)])), kch273), ([], some (.inr (false, [(-1, 63)])), [])])
/-- MiceRegisters.readMouse -/
def kch274 : aw_H := [(0, kcx2), (13, .inr (.inl (1, 60, [], []))), (24, kcx25), (29, .inr (.inl (0, 4, [], []))), (30, .inr (.inl (0, 4, [], []))), (31, kcx35)]
def kcc274 : ak_C := (19, [.inl 0, .inl 13, .inr (false, [(-1, 60)]), .inr (false, [(57, 57)])], kch274, [24, 29, 30, 31], [([], some (.inr (false, [(-1, 63)])), kch36), ([], some (.inr (false, [(-9, -9)])), kch38)])
theorem kck274 : ai_chk [kcc28, kcc272, kcc273] kcc274 (fun pc => sm_ch sm_t19 pc, sm_Kn 2 6 none, fun x => sm_lk sm_ca2 x, some .int) [24, 29, 30, 31] 6 0 [] [] 2000 [] = true := by decide +kernel
/-- MiceRegisters.readLine -/
def kch275 : aw_H := [(0, kcx2), (13, .inr (.inl (1, 60, [], []))), (24, kcx25), (25, .inr (.inl (0, 8, [], []))), (26, .inr (.inl (0, 8, [], [])))]
def kcc275 : ak_C := (17, [.inl 0, .inl 13, .inr (false, [(-1, 60)]), .inr (false, [(56, 56)])], kch275, [24, 25, 26], [([[], [], [], []], some (.inr (false, [(-1, 60)])), kch40), ([[], [], [(1, 60)], []], some (.inr (false, [(-9, -9)])), kch42)])
def kch276 : aw_H := [(0, kcx2), (13, .inr (.inl (1, 60, [], []))), (24, kcx27), (25, .inr (.inl (0, 8, [], []))), (26, .inr (.inl (0, 8, [], [])))]
theorem kck275 : ai_chk [kcc263] kcc275 (fun pc => sm_ch sm_t17 pc, sm_Kn 2 6 none, fun x => sm_lk sm_ca2 x, some .int) [24, 25, 26] 6 4 [29] [] 2000 [(29, [(0, .inl 0), (1, .inl 13), (2, .inr (false, [(-1, 60)])), (3, .inr (false, [(56, 56)])), (4, .inr (false, [(57, 57)]))], [], kch276),
  (29, [(0, .inl 0), (1, .inl 13), (2, .inr (false, [(1, 60)])), (3, .inr (false, [(56, 56)])), (4, .inr (false, [(58, 58)])), (5, .inr (false, [(-9, -9)]))], [], kch276),
  (29, [(0, .inl 0), (1, .inl 13), (2, .inr (false, [(1, 60)])), (3, .inr (false, [(56, 56)])), (4, .inr (false, [(59, 59)])), (5, .inr (false, [(-9, -9)]))], [], kch276),
  (29, [(0, .inl 0), (1, .inl 13), (2, .inr (false, [(1, 60)])), (3, .inr (false, [(56, 56)])), (4, .inr (false, [(60, 60)])), (5, .inr (false, [(-9, -9)]))], [], kch276)] = true := by decide +kernel
def kch277 : aw_H := [(13, kcx45)]
/-- MiceRegisters.faultOfFigure -/
def kcc276 : ak_C := (18, [.inl 13, .inr (false, [(-1, 60)]), .inr (false, [(57, 57)]), .inr (false, [(0, 0)]), .inr (false, [(0, 7)])], kch22, [], [([], some (.inr (false, [(-9, -9)])), kch277), ([], some (.inr (false, [(-1, 63)])), [])])
def kch278 : aw_H := [(13, kcx47)]
/-- MiceRegisters.faultOfFigure -/
def kcc277 : ak_C := (18, [.inl 13, .inr (false, [(-1, 60)]), .inr (false, [(58, 58)]), .inr (false, [(1, 1)]), .inr (false, [(9, 9)])], kch277, [], [([], some (.inr (false, [(-9, -9)])), kch278), ([], some (.inr (false, [(-1, 63)])), [])])
/-- MiceRegisters.readMouse -/
def kcc278 : ak_C := (19, [.inl 0, .inl 13, .inr (false, [(-1, 60)]), .inr (false, [(56, 56)])], kch274, [24, 29, 30, 31], [([], some (.inr (false, [(-1, 63)])), kch36), ([], some (.inr (false, [(-9, -9)])), kch38)])
theorem kck278 : ai_chk [kcc28, kcc276, kcc277] kcc278 (fun pc => sm_ch sm_t19 pc, sm_Kn 2 6 none, fun x => sm_lk sm_ca2 x, some .int) [24, 29, 30, 31] 6 0 [] [] 2000 [] = true := by decide +kernel
/-- MiceRegisters.readLine -/
def kcc279 : ak_C := (17, [.inl 0, .inl 13, .inr (false, [(-1, 60)]), .inr (false, [(55, 55)])], kch275, [24, 25, 26], [([[], [], [], []], some (.inr (false, [(-1, 60)])), kch40), ([[], [], [(1, 60)], []], some (.inr (false, [(-9, -9)])), kch42)])
theorem kck279 : ai_chk [kcc263] kcc279 (fun pc => sm_ch sm_t17 pc, sm_Kn 2 6 none, fun x => sm_lk sm_ca2 x, some .int) [24, 25, 26] 6 4 [29] [] 2000 [(29, [(0, .inl 0), (1, .inl 13), (2, .inr (false, [(-1, 60)])), (3, .inr (false, [(55, 55)])), (4, .inr (false, [(56, 56)]))], [], kch276),
  (29, [(0, .inl 0), (1, .inl 13), (2, .inr (false, [(1, 60)])), (3, .inr (false, [(55, 55)])), (4, .inr (false, [(57, 57)])), (5, .inr (false, [(-9, -9)]))], [], kch276),
  (29, [(0, .inl 0), (1, .inl 13), (2, .inr (false, [(1, 60)])), (3, .inr (false, [(55, 55)])), (4, .inr (false, [(58, 58)])), (5, .inr (false, [(-9, -9)]))], [], kch276),
  (29, [(0, .inl 0), (1, .inl 13), (2, .inr (false, [(1, 60)])), (3, .inr (false, [(55, 55)])), (4, .inr (false, [(59, 59)])), (5, .inr (false, [(-9, -9)]))], [], kch276)] = true := by decide +kernel
def kch279 : aw_H := [(13, kcx49)]
/-- MiceRegisters.faultOfFigure -/
def kcc280 : ak_C := (18, [.inl 13, .inr (false, [(-1, 60)]), .inr (false, [(56, 56)]), .inr (false, [(0, 0)]), .inr (false, [(0, 7)])], kch22, [], [([], some (.inr (false, [(-9, -9)])), kch279), ([], some (.inr (false, [(-1, 63)])), [])])
def kch280 : aw_H := [(13, kcx51)]
/-- MiceRegisters.faultOfFigure -/
def kcc281 : ak_C := (18, [.inl 13, .inr (false, [(-1, 60)]), .inr (false, [(57, 57)]), .inr (false, [(1, 1)]), .inr (false, [(9, 9)])], kch279, [], [([], some (.inr (false, [(-9, -9)])), kch280), ([], some (.inr (false, [(-1, 63)])), [])])
/-- MiceRegisters.readMouse -/
def kcc282 : ak_C := (19, [.inl 0, .inl 13, .inr (false, [(-1, 60)]), .inr (false, [(55, 55)])], kch274, [24, 29, 30, 31], [([], some (.inr (false, [(-1, 63)])), kch36), ([], some (.inr (false, [(-9, -9)])), kch38)])
theorem kck282 : ai_chk [kcc28, kcc280, kcc281] kcc282 (fun pc => sm_ch sm_t19 pc, sm_Kn 2 6 none, fun x => sm_lk sm_ca2 x, some .int) [24, 29, 30, 31] 6 0 [] [] 2000 [] = true := by decide +kernel
/-- MiceRegisters.readLine -/
def kcc283 : ak_C := (17, [.inl 0, .inl 13, .inr (false, [(-1, 60)]), .inr (false, [(54, 54)])], kch275, [24, 25, 26], [([[], [], [], []], some (.inr (false, [(-1, 60)])), kch40), ([[], [], [(1, 60)], []], some (.inr (false, [(-9, -9)])), kch42)])
theorem kck283 : ai_chk [kcc263] kcc283 (fun pc => sm_ch sm_t17 pc, sm_Kn 2 6 none, fun x => sm_lk sm_ca2 x, some .int) [24, 25, 26] 6 4 [29] [] 2000 [(29, [(0, .inl 0), (1, .inl 13), (2, .inr (false, [(-1, 60)])), (3, .inr (false, [(54, 54)])), (4, .inr (false, [(55, 55)]))], [], kch276),
  (29, [(0, .inl 0), (1, .inl 13), (2, .inr (false, [(1, 60)])), (3, .inr (false, [(54, 54)])), (4, .inr (false, [(56, 56)])), (5, .inr (false, [(-9, -9)]))], [], kch276),
  (29, [(0, .inl 0), (1, .inl 13), (2, .inr (false, [(1, 60)])), (3, .inr (false, [(54, 54)])), (4, .inr (false, [(57, 57)])), (5, .inr (false, [(-9, -9)]))], [], kch276),
  (29, [(0, .inl 0), (1, .inl 13), (2, .inr (false, [(1, 60)])), (3, .inr (false, [(54, 54)])), (4, .inr (false, [(58, 58)])), (5, .inr (false, [(-9, -9)]))], [], kch276)] = true := by decide +kernel
def kch281 : aw_H := [(13, kcx53)]
/-- MiceRegisters.faultOfFigure -/
def kcc284 : ak_C := (18, [.inl 13, .inr (false, [(-1, 60)]), .inr (false, [(55, 55)]), .inr (false, [(0, 0)]), .inr (false, [(0, 7)])], kch22, [], [([], some (.inr (false, [(-9, -9)])), kch281), ([], some (.inr (false, [(-1, 63)])), [])])
def kch282 : aw_H := [(13, kcx55)]
/-- MiceRegisters.faultOfFigure -/
def kcc285 : ak_C := (18, [.inl 13, .inr (false, [(-1, 60)]), .inr (false, [(56, 56)]), .inr (false, [(1, 1)]), .inr (false, [(9, 9)])], kch281, [], [([], some (.inr (false, [(-9, -9)])), kch282), ([], some (.inr (false, [(-1, 63)])), [])])
/-- MiceRegisters.readMouse -/
def kcc286 : ak_C := (19, [.inl 0, .inl 13, .inr (false, [(-1, 60)]), .inr (false, [(54, 54)])], kch274, [24, 29, 30, 31], [([], some (.inr (false, [(-1, 63)])), kch36), ([], some (.inr (false, [(-9, -9)])), kch38)])
theorem kck286 : ai_chk [kcc28, kcc284, kcc285] kcc286 (fun pc => sm_ch sm_t19 pc, sm_Kn 2 6 none, fun x => sm_lk sm_ca2 x, some .int) [24, 29, 30, 31] 6 0 [] [] 2000 [] = true := by decide +kernel
/-- MiceRegisters.readLine -/
def kcc287 : ak_C := (17, [.inl 0, .inl 13, .inr (false, [(-1, 60)]), .inr (false, [(53, 53)])], kch275, [24, 25, 26], [([[], [], [], []], some (.inr (false, [(-1, 60)])), kch40), ([[], [], [(1, 60)], []], some (.inr (false, [(-9, -9)])), kch42)])
theorem kck287 : ai_chk [kcc263] kcc287 (fun pc => sm_ch sm_t17 pc, sm_Kn 2 6 none, fun x => sm_lk sm_ca2 x, some .int) [24, 25, 26] 6 4 [29] [] 2000 [(29, [(0, .inl 0), (1, .inl 13), (2, .inr (false, [(-1, 60)])), (3, .inr (false, [(53, 53)])), (4, .inr (false, [(54, 54)]))], [], kch276),
  (29, [(0, .inl 0), (1, .inl 13), (2, .inr (false, [(1, 60)])), (3, .inr (false, [(53, 53)])), (4, .inr (false, [(55, 55)])), (5, .inr (false, [(-9, -9)]))], [], kch276),
  (29, [(0, .inl 0), (1, .inl 13), (2, .inr (false, [(1, 60)])), (3, .inr (false, [(53, 53)])), (4, .inr (false, [(56, 56)])), (5, .inr (false, [(-9, -9)]))], [], kch276),
  (29, [(0, .inl 0), (1, .inl 13), (2, .inr (false, [(1, 60)])), (3, .inr (false, [(53, 53)])), (4, .inr (false, [(57, 57)])), (5, .inr (false, [(-9, -9)]))], [], kch276)] = true := by decide +kernel
def kch283 : aw_H := [(13, kcx57)]
/-- MiceRegisters.faultOfFigure -/
def kcc288 : ak_C := (18, [.inl 13, .inr (false, [(-1, 60)]), .inr (false, [(54, 54)]), .inr (false, [(0, 0)]), .inr (false, [(0, 7)])], kch22, [], [([], some (.inr (false, [(-9, -9)])), kch283), ([], some (.inr (false, [(-1, 63)])), [])])
def kch284 : aw_H := [(13, kcx59)]
/-- MiceRegisters.faultOfFigure -/
def kcc289 : ak_C := (18, [.inl 13, .inr (false, [(-1, 60)]), .inr (false, [(55, 55)]), .inr (false, [(1, 1)]), .inr (false, [(9, 9)])], kch283, [], [([], some (.inr (false, [(-9, -9)])), kch284), ([], some (.inr (false, [(-1, 63)])), [])])
/-- MiceRegisters.readMouse -/
def kcc290 : ak_C := (19, [.inl 0, .inl 13, .inr (false, [(-1, 60)]), .inr (false, [(53, 53)])], kch274, [24, 29, 30, 31], [([], some (.inr (false, [(-1, 63)])), kch36), ([], some (.inr (false, [(-9, -9)])), kch38)])
theorem kck290 : ai_chk [kcc28, kcc288, kcc289] kcc290 (fun pc => sm_ch sm_t19 pc, sm_Kn 2 6 none, fun x => sm_lk sm_ca2 x, some .int) [24, 29, 30, 31] 6 0 [] [] 2000 [] = true := by decide +kernel
/-- MiceRegisters.readLine -/
def kcc291 : ak_C := (17, [.inl 0, .inl 13, .inr (false, [(-1, 60)]), .inr (false, [(52, 52)])], kch275, [24, 25, 26], [([[], [], [], []], some (.inr (false, [(-1, 60)])), kch40), ([[], [], [(1, 60)], []], some (.inr (false, [(-9, -9)])), kch42)])
theorem kck291 : ai_chk [kcc263] kcc291 (fun pc => sm_ch sm_t17 pc, sm_Kn 2 6 none, fun x => sm_lk sm_ca2 x, some .int) [24, 25, 26] 6 4 [29] [] 2000 [(29, [(0, .inl 0), (1, .inl 13), (2, .inr (false, [(-1, 60)])), (3, .inr (false, [(52, 52)])), (4, .inr (false, [(53, 53)]))], [], kch276),
  (29, [(0, .inl 0), (1, .inl 13), (2, .inr (false, [(1, 60)])), (3, .inr (false, [(52, 52)])), (4, .inr (false, [(54, 54)])), (5, .inr (false, [(-9, -9)]))], [], kch276),
  (29, [(0, .inl 0), (1, .inl 13), (2, .inr (false, [(1, 60)])), (3, .inr (false, [(52, 52)])), (4, .inr (false, [(55, 55)])), (5, .inr (false, [(-9, -9)]))], [], kch276),
  (29, [(0, .inl 0), (1, .inl 13), (2, .inr (false, [(1, 60)])), (3, .inr (false, [(52, 52)])), (4, .inr (false, [(56, 56)])), (5, .inr (false, [(-9, -9)]))], [], kch276)] = true := by decide +kernel
def kch285 : aw_H := [(13, kcx61)]
/-- MiceRegisters.faultOfFigure -/
def kcc292 : ak_C := (18, [.inl 13, .inr (false, [(-1, 60)]), .inr (false, [(53, 53)]), .inr (false, [(0, 0)]), .inr (false, [(0, 7)])], kch22, [], [([], some (.inr (false, [(-9, -9)])), kch285), ([], some (.inr (false, [(-1, 63)])), [])])
def kch286 : aw_H := [(13, kcx63)]
/-- MiceRegisters.faultOfFigure -/
def kcc293 : ak_C := (18, [.inl 13, .inr (false, [(-1, 60)]), .inr (false, [(54, 54)]), .inr (false, [(1, 1)]), .inr (false, [(9, 9)])], kch285, [], [([], some (.inr (false, [(-9, -9)])), kch286), ([], some (.inr (false, [(-1, 63)])), [])])
/-- MiceRegisters.readMouse -/
def kcc294 : ak_C := (19, [.inl 0, .inl 13, .inr (false, [(-1, 60)]), .inr (false, [(52, 52)])], kch274, [24, 29, 30, 31], [([], some (.inr (false, [(-1, 63)])), kch36), ([], some (.inr (false, [(-9, -9)])), kch38)])
theorem kck294 : ai_chk [kcc28, kcc292, kcc293] kcc294 (fun pc => sm_ch sm_t19 pc, sm_Kn 2 6 none, fun x => sm_lk sm_ca2 x, some .int) [24, 29, 30, 31] 6 0 [] [] 2000 [] = true := by decide +kernel
