/-! Contracts over ranges of the class, and their checks; printed by a program of mine. -/
/-- MiceRegisters.behindBlanks -/
def kch23 : aw_H := [(12, .inr (.inl (1, 60, [], [])))]
def kcc24 : ak_C := (16, [.inl 12, .inr (false, [(-1, 60)])], kch23, [], [([[], []], some (.inr (false, [(0, 0)])), []), ([[], [(1, 60)]], some (.inr (false, [(1, 60)])), [])])
theorem kck24 : ai_chk [] kcc24 (fun pc => sm_ch sm_t16 pc, sm_Kn 2 3 none, fun x => sm_lk sm_ca2 x, some .int) [] 3 2 [2] [] 2000 [(2, [(0, .inl 12), (1, .inr (false, [(-1, 60)])), (2, .inr (false, [(0, 0)]))], [], kch23),
  (2, [(0, .inl 12), (1, .inr (false, [(1, 60)])), (2, .inr (false, [(1, 1)]))], [], kch23),
  (2, [(0, .inl 12), (1, .inr (false, [(2, 60)])), (2, .inr (false, [(2, 2)]))], [], kch23),
  (2, [(0, .inl 12), (1, .inr (false, [(3, 60)])), (2, .inr (false, [(3, 3)]))], [], kch23),
  (2, [(0, .inl 12), (1, .inr (false, [(4, 60)])), (2, .inr (false, [(4, 4)]))], [], kch23),
  (2, [(0, .inl 12), (1, .inr (false, [(5, 60)])), (2, .inr (false, [(5, 5)]))], [], kch23),
  (2, [(0, .inl 12), (1, .inr (false, [(6, 60)])), (2, .inr (false, [(6, 6)]))], [], kch23),
  (2, [(0, .inl 12), (1, .inr (false, [(7, 60)])), (2, .inr (false, [(7, 7)]))], [], kch23),
  (2, [(0, .inl 12), (1, .inr (false, [(8, 60)])), (2, .inr (false, [(8, 8)]))], [], kch23),
  (2, [(0, .inl 12), (1, .inr (false, [(9, 60)])), (2, .inr (false, [(9, 9)]))], [], kch23),
  (2, [(0, .inl 12), (1, .inr (false, [(10, 60)])), (2, .inr (false, [(10, 10)]))], [], kch23),
  (2, [(0, .inl 12), (1, .inr (false, [(11, 60)])), (2, .inr (false, [(11, 11)]))], [], kch23),
  (2, [(0, .inl 12), (1, .inr (false, [(12, 60)])), (2, .inr (false, [(12, 12)]))], [], kch23),
  (2, [(0, .inl 12), (1, .inr (false, [(13, 60)])), (2, .inr (false, [(13, 13)]))], [], kch23),
  (2, [(0, .inl 12), (1, .inr (false, [(14, 60)])), (2, .inr (false, [(14, 14)]))], [], kch23),
  (2, [(0, .inl 12), (1, .inr (false, [(15, 60)])), (2, .inr (false, [(15, 15)]))], [], kch23),
  (2, [(0, .inl 12), (1, .inr (false, [(16, 60)])), (2, .inr (false, [(16, 16)]))], [], kch23),
  (2, [(0, .inl 12), (1, .inr (false, [(17, 60)])), (2, .inr (false, [(17, 17)]))], [], kch23),
  (2, [(0, .inl 12), (1, .inr (false, [(18, 60)])), (2, .inr (false, [(18, 18)]))], [], kch23),
  (2, [(0, .inl 12), (1, .inr (false, [(19, 60)])), (2, .inr (false, [(19, 19)]))], [], kch23),
  (2, [(0, .inl 12), (1, .inr (false, [(20, 60)])), (2, .inr (false, [(20, 20)]))], [], kch23),
  (2, [(0, .inl 12), (1, .inr (false, [(21, 60)])), (2, .inr (false, [(21, 21)]))], [], kch23),
  (2, [(0, .inl 12), (1, .inr (false, [(22, 60)])), (2, .inr (false, [(22, 22)]))], [], kch23),
  (2, [(0, .inl 12), (1, .inr (false, [(23, 60)])), (2, .inr (false, [(23, 23)]))], [], kch23),
  (2, [(0, .inl 12), (1, .inr (false, [(24, 60)])), (2, .inr (false, [(24, 24)]))], [], kch23),
  (2, [(0, .inl 12), (1, .inr (false, [(25, 60)])), (2, .inr (false, [(25, 25)]))], [], kch23),
  (2, [(0, .inl 12), (1, .inr (false, [(26, 60)])), (2, .inr (false, [(26, 26)]))], [], kch23),
  (2, [(0, .inl 12), (1, .inr (false, [(27, 60)])), (2, .inr (false, [(27, 27)]))], [], kch23),
  (2, [(0, .inl 12), (1, .inr (false, [(28, 60)])), (2, .inr (false, [(28, 28)]))], [], kch23),
  (2, [(0, .inl 12), (1, .inr (false, [(29, 60)])), (2, .inr (false, [(29, 29)]))], [], kch23),
  (2, [(0, .inl 12), (1, .inr (false, [(30, 60)])), (2, .inr (false, [(30, 30)]))], [], kch23),
  (2, [(0, .inl 12), (1, .inr (false, [(31, 60)])), (2, .inr (false, [(31, 31)]))], [], kch23),
  (2, [(0, .inl 12), (1, .inr (false, [(32, 60)])), (2, .inr (false, [(32, 32)]))], [], kch23),
  (2, [(0, .inl 12), (1, .inr (false, [(33, 60)])), (2, .inr (false, [(33, 33)]))], [], kch23),
  (2, [(0, .inl 12), (1, .inr (false, [(34, 60)])), (2, .inr (false, [(34, 34)]))], [], kch23),
  (2, [(0, .inl 12), (1, .inr (false, [(35, 60)])), (2, .inr (false, [(35, 35)]))], [], kch23),
  (2, [(0, .inl 12), (1, .inr (false, [(36, 60)])), (2, .inr (false, [(36, 36)]))], [], kch23),
  (2, [(0, .inl 12), (1, .inr (false, [(37, 60)])), (2, .inr (false, [(37, 37)]))], [], kch23),
  (2, [(0, .inl 12), (1, .inr (false, [(38, 60)])), (2, .inr (false, [(38, 38)]))], [], kch23),
  (2, [(0, .inl 12), (1, .inr (false, [(39, 60)])), (2, .inr (false, [(39, 39)]))], [], kch23),
  (2, [(0, .inl 12), (1, .inr (false, [(40, 60)])), (2, .inr (false, [(40, 40)]))], [], kch23),
  (2, [(0, .inl 12), (1, .inr (false, [(41, 60)])), (2, .inr (false, [(41, 41)]))], [], kch23),
  (2, [(0, .inl 12), (1, .inr (false, [(42, 60)])), (2, .inr (false, [(42, 42)]))], [], kch23),
  (2, [(0, .inl 12), (1, .inr (false, [(43, 60)])), (2, .inr (false, [(43, 43)]))], [], kch23),
  (2, [(0, .inl 12), (1, .inr (false, [(44, 60)])), (2, .inr (false, [(44, 44)]))], [], kch23),
  (2, [(0, .inl 12), (1, .inr (false, [(45, 60)])), (2, .inr (false, [(45, 45)]))], [], kch23),
  (2, [(0, .inl 12), (1, .inr (false, [(46, 60)])), (2, .inr (false, [(46, 46)]))], [], kch23),
  (2, [(0, .inl 12), (1, .inr (false, [(47, 60)])), (2, .inr (false, [(47, 47)]))], [], kch23),
  (2, [(0, .inl 12), (1, .inr (false, [(48, 60)])), (2, .inr (false, [(48, 48)]))], [], kch23),
  (2, [(0, .inl 12), (1, .inr (false, [(49, 60)])), (2, .inr (false, [(49, 49)]))], [], kch23),
  (2, [(0, .inl 12), (1, .inr (false, [(50, 60)])), (2, .inr (false, [(50, 50)]))], [], kch23),
  (2, [(0, .inl 12), (1, .inr (false, [(51, 60)])), (2, .inr (false, [(51, 51)]))], [], kch23),
  (2, [(0, .inl 12), (1, .inr (false, [(52, 60)])), (2, .inr (false, [(52, 52)]))], [], kch23),
  (2, [(0, .inl 12), (1, .inr (false, [(53, 60)])), (2, .inr (false, [(53, 53)]))], [], kch23),
  (2, [(0, .inl 12), (1, .inr (false, [(54, 60)])), (2, .inr (false, [(54, 54)]))], [], kch23),
  (2, [(0, .inl 12), (1, .inr (false, [(55, 60)])), (2, .inr (false, [(55, 55)]))], [], kch23),
  (2, [(0, .inl 12), (1, .inr (false, [(56, 60)])), (2, .inr (false, [(56, 56)]))], [], kch23),
  (2, [(0, .inl 12), (1, .inr (false, [(57, 60)])), (2, .inr (false, [(57, 57)]))], [], kch23),
  (2, [(0, .inl 12), (1, .inr (false, [(58, 60)])), (2, .inr (false, [(58, 58)]))], [], kch23),
  (2, [(0, .inl 12), (1, .inr (false, [(59, 60)])), (2, .inr (false, [(59, 59)]))], [], kch23),
  (2, [(0, .inl 12), (1, .inr (false, [(60, 60)])), (2, .inr (false, [(60, 60)]))], [], kch23)] = true := by decide +kernel
/-- MiceRegisters.behindBlanks -/
def kch24 : aw_H := [(11, .inr (.inl (1, 60, [], [])))]
def kcc25 : ak_C := (16, [.inl 11, .inr (false, [(-1, 60)])], kch24, [], [([[], []], some (.inr (false, [(0, 0)])), []), ([[], [(1, 60)]], some (.inr (false, [(1, 60)])), [])])
theorem kck25 : ai_chk [] kcc25 (fun pc => sm_ch sm_t16 pc, sm_Kn 2 3 none, fun x => sm_lk sm_ca2 x, some .int) [] 3 2 [2] [] 2000 [(2, [(0, .inl 11), (1, .inr (false, [(-1, 60)])), (2, .inr (false, [(0, 0)]))], [], kch24),
  (2, [(0, .inl 11), (1, .inr (false, [(1, 60)])), (2, .inr (false, [(1, 1)]))], [], kch24),
  (2, [(0, .inl 11), (1, .inr (false, [(2, 60)])), (2, .inr (false, [(2, 2)]))], [], kch24),
  (2, [(0, .inl 11), (1, .inr (false, [(3, 60)])), (2, .inr (false, [(3, 3)]))], [], kch24),
  (2, [(0, .inl 11), (1, .inr (false, [(4, 60)])), (2, .inr (false, [(4, 4)]))], [], kch24),
  (2, [(0, .inl 11), (1, .inr (false, [(5, 60)])), (2, .inr (false, [(5, 5)]))], [], kch24),
  (2, [(0, .inl 11), (1, .inr (false, [(6, 60)])), (2, .inr (false, [(6, 6)]))], [], kch24),
  (2, [(0, .inl 11), (1, .inr (false, [(7, 60)])), (2, .inr (false, [(7, 7)]))], [], kch24),
  (2, [(0, .inl 11), (1, .inr (false, [(8, 60)])), (2, .inr (false, [(8, 8)]))], [], kch24),
  (2, [(0, .inl 11), (1, .inr (false, [(9, 60)])), (2, .inr (false, [(9, 9)]))], [], kch24),
  (2, [(0, .inl 11), (1, .inr (false, [(10, 60)])), (2, .inr (false, [(10, 10)]))], [], kch24),
  (2, [(0, .inl 11), (1, .inr (false, [(11, 60)])), (2, .inr (false, [(11, 11)]))], [], kch24),
  (2, [(0, .inl 11), (1, .inr (false, [(12, 60)])), (2, .inr (false, [(12, 12)]))], [], kch24),
  (2, [(0, .inl 11), (1, .inr (false, [(13, 60)])), (2, .inr (false, [(13, 13)]))], [], kch24),
  (2, [(0, .inl 11), (1, .inr (false, [(14, 60)])), (2, .inr (false, [(14, 14)]))], [], kch24),
  (2, [(0, .inl 11), (1, .inr (false, [(15, 60)])), (2, .inr (false, [(15, 15)]))], [], kch24),
  (2, [(0, .inl 11), (1, .inr (false, [(16, 60)])), (2, .inr (false, [(16, 16)]))], [], kch24),
  (2, [(0, .inl 11), (1, .inr (false, [(17, 60)])), (2, .inr (false, [(17, 17)]))], [], kch24),
  (2, [(0, .inl 11), (1, .inr (false, [(18, 60)])), (2, .inr (false, [(18, 18)]))], [], kch24),
  (2, [(0, .inl 11), (1, .inr (false, [(19, 60)])), (2, .inr (false, [(19, 19)]))], [], kch24),
  (2, [(0, .inl 11), (1, .inr (false, [(20, 60)])), (2, .inr (false, [(20, 20)]))], [], kch24),
  (2, [(0, .inl 11), (1, .inr (false, [(21, 60)])), (2, .inr (false, [(21, 21)]))], [], kch24),
  (2, [(0, .inl 11), (1, .inr (false, [(22, 60)])), (2, .inr (false, [(22, 22)]))], [], kch24),
  (2, [(0, .inl 11), (1, .inr (false, [(23, 60)])), (2, .inr (false, [(23, 23)]))], [], kch24),
  (2, [(0, .inl 11), (1, .inr (false, [(24, 60)])), (2, .inr (false, [(24, 24)]))], [], kch24),
  (2, [(0, .inl 11), (1, .inr (false, [(25, 60)])), (2, .inr (false, [(25, 25)]))], [], kch24),
  (2, [(0, .inl 11), (1, .inr (false, [(26, 60)])), (2, .inr (false, [(26, 26)]))], [], kch24),
  (2, [(0, .inl 11), (1, .inr (false, [(27, 60)])), (2, .inr (false, [(27, 27)]))], [], kch24),
  (2, [(0, .inl 11), (1, .inr (false, [(28, 60)])), (2, .inr (false, [(28, 28)]))], [], kch24),
  (2, [(0, .inl 11), (1, .inr (false, [(29, 60)])), (2, .inr (false, [(29, 29)]))], [], kch24),
  (2, [(0, .inl 11), (1, .inr (false, [(30, 60)])), (2, .inr (false, [(30, 30)]))], [], kch24),
  (2, [(0, .inl 11), (1, .inr (false, [(31, 60)])), (2, .inr (false, [(31, 31)]))], [], kch24),
  (2, [(0, .inl 11), (1, .inr (false, [(32, 60)])), (2, .inr (false, [(32, 32)]))], [], kch24),
  (2, [(0, .inl 11), (1, .inr (false, [(33, 60)])), (2, .inr (false, [(33, 33)]))], [], kch24),
  (2, [(0, .inl 11), (1, .inr (false, [(34, 60)])), (2, .inr (false, [(34, 34)]))], [], kch24),
  (2, [(0, .inl 11), (1, .inr (false, [(35, 60)])), (2, .inr (false, [(35, 35)]))], [], kch24),
  (2, [(0, .inl 11), (1, .inr (false, [(36, 60)])), (2, .inr (false, [(36, 36)]))], [], kch24),
  (2, [(0, .inl 11), (1, .inr (false, [(37, 60)])), (2, .inr (false, [(37, 37)]))], [], kch24),
  (2, [(0, .inl 11), (1, .inr (false, [(38, 60)])), (2, .inr (false, [(38, 38)]))], [], kch24),
  (2, [(0, .inl 11), (1, .inr (false, [(39, 60)])), (2, .inr (false, [(39, 39)]))], [], kch24),
  (2, [(0, .inl 11), (1, .inr (false, [(40, 60)])), (2, .inr (false, [(40, 40)]))], [], kch24),
  (2, [(0, .inl 11), (1, .inr (false, [(41, 60)])), (2, .inr (false, [(41, 41)]))], [], kch24),
  (2, [(0, .inl 11), (1, .inr (false, [(42, 60)])), (2, .inr (false, [(42, 42)]))], [], kch24),
  (2, [(0, .inl 11), (1, .inr (false, [(43, 60)])), (2, .inr (false, [(43, 43)]))], [], kch24),
  (2, [(0, .inl 11), (1, .inr (false, [(44, 60)])), (2, .inr (false, [(44, 44)]))], [], kch24),
  (2, [(0, .inl 11), (1, .inr (false, [(45, 60)])), (2, .inr (false, [(45, 45)]))], [], kch24),
  (2, [(0, .inl 11), (1, .inr (false, [(46, 60)])), (2, .inr (false, [(46, 46)]))], [], kch24),
  (2, [(0, .inl 11), (1, .inr (false, [(47, 60)])), (2, .inr (false, [(47, 47)]))], [], kch24),
  (2, [(0, .inl 11), (1, .inr (false, [(48, 60)])), (2, .inr (false, [(48, 48)]))], [], kch24),
  (2, [(0, .inl 11), (1, .inr (false, [(49, 60)])), (2, .inr (false, [(49, 49)]))], [], kch24),
  (2, [(0, .inl 11), (1, .inr (false, [(50, 60)])), (2, .inr (false, [(50, 50)]))], [], kch24),
  (2, [(0, .inl 11), (1, .inr (false, [(51, 60)])), (2, .inr (false, [(51, 51)]))], [], kch24),
  (2, [(0, .inl 11), (1, .inr (false, [(52, 60)])), (2, .inr (false, [(52, 52)]))], [], kch24),
  (2, [(0, .inl 11), (1, .inr (false, [(53, 60)])), (2, .inr (false, [(53, 53)]))], [], kch24),
  (2, [(0, .inl 11), (1, .inr (false, [(54, 60)])), (2, .inr (false, [(54, 54)]))], [], kch24),
  (2, [(0, .inl 11), (1, .inr (false, [(55, 60)])), (2, .inr (false, [(55, 55)]))], [], kch24),
  (2, [(0, .inl 11), (1, .inr (false, [(56, 60)])), (2, .inr (false, [(56, 56)]))], [], kch24),
  (2, [(0, .inl 11), (1, .inr (false, [(57, 60)])), (2, .inr (false, [(57, 57)]))], [], kch24),
  (2, [(0, .inl 11), (1, .inr (false, [(58, 60)])), (2, .inr (false, [(58, 58)]))], [], kch24),
  (2, [(0, .inl 11), (1, .inr (false, [(59, 60)])), (2, .inr (false, [(59, 59)]))], [], kch24),
  (2, [(0, .inl 11), (1, .inr (false, [(60, 60)])), (2, .inr (false, [(60, 60)]))], [], kch24)] = true := by decide +kernel
/-- MiceRegisters.faultOfFigure -/
def kcc26 : ak_C := (18, [.inl 11, .inr (false, [(-1, 60)]), .inr (false, [(0, 63)]), .inr (false, ar_t32), .inr (false, ar_t32)], kch24, [], [([[], [], [], [], []], some (.inr (false, [(-1, 60)])), []), ([[], [(1, 60)], [(0, 59)], [], []], some (.inr (false, [(-9, -9)])), [])])
theorem kck26 : ai_chk [] kcc26 (fun pc => sm_ch sm_t18 pc, sm_Kn 2 6 none, fun x => sm_lk sm_ca2 x, some .int) [] 6 5 [] [] 2000 [] = true := by decide +kernel
def kcx25 : aw_A := .inl (1, [.inr (false, [(0, 8)]), .inr (false, [(0, 4)]), .inr (false, ar_t32), .inr (false, ar_t32), .inr (false, ar_t32), .inl 25, .inl 26, .inl 27, .inl 28, .inl 29, .inl 30, .inl 31, .inl 32])
def kch26 : aw_H := [(24, kcx25), (25, .inr (.inl (0, 8, [], []))), (26, .inr (.inl (0, 8, [], [])))]
def kcx27 : aw_A := .inl (1, [.inr (false, [(1, 8)]), .inr (false, [(0, 0)]), .inr (false, ar_t32), .inr (false, ar_t32), .inr (false, ar_t32), .inl 25, .inl 26, .inl 27, .inl 28, .inl 29, .inl 30, .inl 31, .inl 32])
def kch28 : aw_H := [(24, kcx27), (25, .inr (.inl (0, 8, [], []))), (26, .inr (.inl (0, 8, [], [])))]
/-- MiceRegisters.readLine -/
def kch29 : aw_H := [(0, kcx2), (11, .inr (.inl (1, 60, [], []))), (24, kcx25), (25, .inr (.inl (0, 8, [], []))), (26, .inr (.inl (0, 8, [], [])))]
def kcc27 : ak_C := (17, [.inl 0, .inl 11, .inr (false, [(-1, 60)]), .inr (false, [(1, 1)])], kch29, [24, 25, 26], [([[], [], [], []], some (.inr (false, [(-1, 60)])), kch26), ([[], [], [(1, 60)], []], some (.inr (false, [(-9, -9)])), kch28)])
def kcx30 : aw_A := .inl (1, [.inr (false, [(0, 7)]), .inr (false, [(0, 0)]), .inr (false, ar_t32), .inr (false, ar_t32), .inr (false, ar_t32), .inl 25, .inl 26, .inl 27, .inl 28, .inl 29, .inl 30, .inl 31, .inl 32])
def kch31 : aw_H := [(0, kcx2), (11, .inr (.inl (1, 60, [], []))), (24, kcx30), (25, .inr (.inl (0, 8, [], []))), (26, .inr (.inl (0, 8, [], [])))]
theorem kck27 : ai_chk [kcc26] kcc27 (fun pc => sm_ch sm_t17 pc, sm_Kn 2 6 none, fun x => sm_lk sm_ca2 x, some .int) [24, 25, 26] 6 4 [29] [] 2000 [(29, [(0, .inl 0), (1, .inl 11), (2, .inr (false, [(-1, 60)])), (3, .inr (false, [(1, 1)])), (4, .inr (false, [(2, 2)]))], [], kch31),
  (29, [(0, .inl 0), (1, .inl 11), (2, .inr (false, [(1, 60)])), (3, .inr (false, [(1, 1)])), (4, .inr (false, [(3, 3)])), (5, .inr (false, [(-9, -9)]))], [], kch31),
  (29, [(0, .inl 0), (1, .inl 11), (2, .inr (false, [(1, 60)])), (3, .inr (false, [(1, 1)])), (4, .inr (false, [(4, 4)])), (5, .inr (false, [(-9, -9)]))], [], kch31),
  (29, [(0, .inl 0), (1, .inl 11), (2, .inr (false, [(1, 60)])), (3, .inr (false, [(1, 1)])), (4, .inr (false, [(5, 5)])), (5, .inr (false, [(-9, -9)]))], [], kch31)] = true := by decide +kernel
/-- MiceRegisters.kindOfLetter -/
def kcc28 : ak_C := (20, [.inr (false, ar_t32)], [], [], [([], some (.inr (false, [(0, 5)])), []), ([], some (.inr (false, [(-9, -9)])), [])])
theorem kck28 : ai_chk [] kcc28 (fun pc => sm_ch sm_t20 pc, sm_Kn 2 2 none, fun x => sm_lk sm_ca2 x, some .int) [] 2 0 [2] [] 2000 [(2, [(0, .inr (false, ar_t32)), (1, .inr (false, [(0, 0)]))], [], []),
  (2, [(0, .inr (false, ar_t32)), (1, .inr (false, [(1, 1)]))], [], []),
  (2, [(0, .inr (false, ar_t32)), (1, .inr (false, [(2, 2)]))], [], []),
  (2, [(0, .inr (false, ar_t32)), (1, .inr (false, [(3, 3)]))], [], []),
  (2, [(0, .inr (false, ar_t32)), (1, .inr (false, [(4, 4)]))], [], []),
  (2, [(0, .inr (false, ar_t32)), (1, .inr (false, [(5, 5)]))], [], []),
  (2, [(0, .inr (false, ar_t32)), (1, .inr (false, [(6, 6)]))], [], [])] = true := by decide +kernel
def kcx32 : aw_A := .inr (.inl (1, 60, [], [(2, [(48, 55)])]))
def kch33 : aw_H := [(11, kcx32)]
/-- MiceRegisters.faultOfFigure -/
def kcc29 : ak_C := (18, [.inl 11, .inr (false, [(-1, 60)]), .inr (false, [(2, 2)]), .inr (false, [(0, 0)]), .inr (false, [(0, 7)])], kch24, [], [([], some (.inr (false, [(-9, -9)])), kch33), ([], some (.inr (false, [(-1, 63)])), [])])
def kcx34 : aw_A := .inr (.inl (1, 60, [], [(3, [(49, 57)]), (2, [(48, 55)])]))
def kch35 : aw_H := [(11, kcx34)]
/-- MiceRegisters.faultOfFigure -/
def kcc30 : ak_C := (18, [.inl 11, .inr (false, [(-1, 60)]), .inr (false, [(3, 3)]), .inr (false, [(1, 1)]), .inr (false, [(9, 9)])], kch33, [], [([], some (.inr (false, [(-9, -9)])), kch35), ([], some (.inr (false, [(-1, 63)])), [])])
def kcx36 : aw_A := .inr (.inl (0, 4, [(0, 3, [(0, 7)])], []))
def kch37 : aw_H := [(24, kcx25), (29, .inr (.inl (0, 4, [], []))), (30, .inr (.inl (0, 4, [], []))), (31, kcx36)]
def kcx38 : aw_A := .inl (1, [.inr (false, [(1, 8)]), .inr (false, [(1, 4)]), .inr (false, ar_t32), .inr (false, ar_t32), .inr (false, ar_t32), .inl 25, .inl 26, .inl 27, .inl 28, .inl 29, .inl 30, .inl 31, .inl 32])
def kch39 : aw_H := [(24, kcx38), (29, .inr (.inl (0, 4, [], []))), (30, .inr (.inl (0, 4, [], []))), (31, kcx36)]
/-- MiceRegisters.readMouse -/
def kch40 : aw_H := [(0, kcx2), (11, .inr (.inl (1, 60, [], []))), (24, kcx25), (29, .inr (.inl (0, 4, [], []))), (30, .inr (.inl (0, 4, [], []))), (31, kcx36)]
def kcc31 : ak_C := (19, [.inl 0, .inl 11, .inr (false, [(-1, 60)]), .inr (false, [(1, 1)])], kch40, [24, 29, 30, 31], [([], some (.inr (false, [(-1, 63)])), kch37), ([], some (.inr (false, [(-9, -9)])), kch39)])
theorem kck31 : ai_chk [kcc28, kcc29, kcc30] kcc31 (fun pc => sm_ch sm_t19 pc, sm_Kn 2 6 none, fun x => sm_lk sm_ca2 x, some .int) [24, 29, 30, 31] 6 0 [] [] 2000 [] = true := by decide +kernel
/-- MiceRegisters.faultOfFigure -/
def kcc32 : ak_C := (18, [.inl 12, .inr (false, [(-1, 60)]), .inr (false, [(0, 63)]), .inr (false, ar_t32), .inr (false, ar_t32)], kch23, [], [([[], [], [], [], []], some (.inr (false, [(-1, 60)])), []), ([[], [(1, 60)], [(0, 59)], [], []], some (.inr (false, [(-9, -9)])), [])])
theorem kck32 : ai_chk [] kcc32 (fun pc => sm_ch sm_t18 pc, sm_Kn 2 6 none, fun x => sm_lk sm_ca2 x, some .int) [] 6 5 [] [] 2000 [] = true := by decide +kernel
/-- MiceRegisters.readLine -/
def kch41 : aw_H := [(0, kcx2), (12, .inr (.inl (1, 60, [], []))), (24, kcx25), (25, .inr (.inl (0, 8, [], []))), (26, .inr (.inl (0, 8, [], [])))]
def kcc33 : ak_C := (17, [.inl 0, .inl 12, .inr (false, [(-1, 60)]), .inr (false, [(1, 1)])], kch41, [24, 25, 26], [([[], [], [], []], some (.inr (false, [(-1, 60)])), kch26), ([[], [], [(1, 60)], []], some (.inr (false, [(-9, -9)])), kch28)])
def kch42 : aw_H := [(0, kcx2), (12, .inr (.inl (1, 60, [], []))), (24, kcx30), (25, .inr (.inl (0, 8, [], []))), (26, .inr (.inl (0, 8, [], [])))]
theorem kck33 : ai_chk [kcc32] kcc33 (fun pc => sm_ch sm_t17 pc, sm_Kn 2 6 none, fun x => sm_lk sm_ca2 x, some .int) [24, 25, 26] 6 4 [29] [] 2000 [(29, [(0, .inl 0), (1, .inl 12), (2, .inr (false, [(-1, 60)])), (3, .inr (false, [(1, 1)])), (4, .inr (false, [(2, 2)]))], [], kch42),
  (29, [(0, .inl 0), (1, .inl 12), (2, .inr (false, [(1, 60)])), (3, .inr (false, [(1, 1)])), (4, .inr (false, [(3, 3)])), (5, .inr (false, [(-9, -9)]))], [], kch42),
  (29, [(0, .inl 0), (1, .inl 12), (2, .inr (false, [(1, 60)])), (3, .inr (false, [(1, 1)])), (4, .inr (false, [(4, 4)])), (5, .inr (false, [(-9, -9)]))], [], kch42),
  (29, [(0, .inl 0), (1, .inl 12), (2, .inr (false, [(1, 60)])), (3, .inr (false, [(1, 1)])), (4, .inr (false, [(5, 5)])), (5, .inr (false, [(-9, -9)]))], [], kch42)] = true := by decide +kernel
def kch43 : aw_H := [(12, kcx32)]
/-- MiceRegisters.faultOfFigure -/
def kcc34 : ak_C := (18, [.inl 12, .inr (false, [(-1, 60)]), .inr (false, [(2, 2)]), .inr (false, [(0, 0)]), .inr (false, [(0, 7)])], kch23, [], [([], some (.inr (false, [(-9, -9)])), kch43), ([], some (.inr (false, [(-1, 63)])), [])])
def kch44 : aw_H := [(12, kcx34)]
/-- MiceRegisters.faultOfFigure -/
def kcc35 : ak_C := (18, [.inl 12, .inr (false, [(-1, 60)]), .inr (false, [(3, 3)]), .inr (false, [(1, 1)]), .inr (false, [(9, 9)])], kch43, [], [([], some (.inr (false, [(-9, -9)])), kch44), ([], some (.inr (false, [(-1, 63)])), [])])
/-- MiceRegisters.readMouse -/
def kch45 : aw_H := [(0, kcx2), (12, .inr (.inl (1, 60, [], []))), (24, kcx25), (29, .inr (.inl (0, 4, [], []))), (30, .inr (.inl (0, 4, [], []))), (31, kcx36)]
def kcc36 : ak_C := (19, [.inl 0, .inl 12, .inr (false, [(-1, 60)]), .inr (false, [(1, 1)])], kch45, [24, 29, 30, 31], [([], some (.inr (false, [(-1, 63)])), kch37), ([], some (.inr (false, [(-9, -9)])), kch39)])
theorem kck36 : ai_chk [kcc28, kcc34, kcc35] kcc36 (fun pc => sm_ch sm_t19 pc, sm_Kn 2 6 none, fun x => sm_lk sm_ca2 x, some .int) [24, 29, 30, 31] 6 0 [] [] 2000 [] = true := by decide +kernel
/-- MiceRegisters.faultOfFigure -/
def kcc37 : ak_C := (18, [.inl 13, .inr (false, [(-1, 60)]), .inr (false, [(0, 63)]), .inr (false, ar_t32), .inr (false, ar_t32)], kch22, [], [([[], [], [], [], []], some (.inr (false, [(-1, 60)])), []), ([[], [(1, 60)], [(0, 59)], [], []], some (.inr (false, [(-9, -9)])), [])])
theorem kck37 : ai_chk [] kcc37 (fun pc => sm_ch sm_t18 pc, sm_Kn 2 6 none, fun x => sm_lk sm_ca2 x, some .int) [] 6 5 [] [] 2000 [] = true := by decide +kernel
/-- MiceRegisters.readLine -/
def kch46 : aw_H := [(0, kcx2), (13, .inr (.inl (1, 60, [], []))), (24, kcx25), (25, .inr (.inl (0, 8, [], []))), (26, .inr (.inl (0, 8, [], [])))]
def kcc38 : ak_C := (17, [.inl 0, .inl 13, .inr (false, [(-1, 60)]), .inr (false, [(1, 1)])], kch46, [24, 25, 26], [([[], [], [], []], some (.inr (false, [(-1, 60)])), kch26), ([[], [], [(1, 60)], []], some (.inr (false, [(-9, -9)])), kch28)])
def kch47 : aw_H := [(0, kcx2), (13, .inr (.inl (1, 60, [], []))), (24, kcx30), (25, .inr (.inl (0, 8, [], []))), (26, .inr (.inl (0, 8, [], [])))]
theorem kck38 : ai_chk [kcc37] kcc38 (fun pc => sm_ch sm_t17 pc, sm_Kn 2 6 none, fun x => sm_lk sm_ca2 x, some .int) [24, 25, 26] 6 4 [29] [] 2000 [(29, [(0, .inl 0), (1, .inl 13), (2, .inr (false, [(-1, 60)])), (3, .inr (false, [(1, 1)])), (4, .inr (false, [(2, 2)]))], [], kch47),
  (29, [(0, .inl 0), (1, .inl 13), (2, .inr (false, [(1, 60)])), (3, .inr (false, [(1, 1)])), (4, .inr (false, [(3, 3)])), (5, .inr (false, [(-9, -9)]))], [], kch47),
  (29, [(0, .inl 0), (1, .inl 13), (2, .inr (false, [(1, 60)])), (3, .inr (false, [(1, 1)])), (4, .inr (false, [(4, 4)])), (5, .inr (false, [(-9, -9)]))], [], kch47),
  (29, [(0, .inl 0), (1, .inl 13), (2, .inr (false, [(1, 60)])), (3, .inr (false, [(1, 1)])), (4, .inr (false, [(5, 5)])), (5, .inr (false, [(-9, -9)]))], [], kch47)] = true := by decide +kernel
def kch48 : aw_H := [(13, kcx32)]
/-- MiceRegisters.faultOfFigure -/
def kcc39 : ak_C := (18, [.inl 13, .inr (false, [(-1, 60)]), .inr (false, [(2, 2)]), .inr (false, [(0, 0)]), .inr (false, [(0, 7)])], kch22, [], [([], some (.inr (false, [(-9, -9)])), kch48), ([], some (.inr (false, [(-1, 63)])), [])])
def kch49 : aw_H := [(13, kcx34)]
/-- MiceRegisters.faultOfFigure -/
def kcc40 : ak_C := (18, [.inl 13, .inr (false, [(-1, 60)]), .inr (false, [(3, 3)]), .inr (false, [(1, 1)]), .inr (false, [(9, 9)])], kch48, [], [([], some (.inr (false, [(-9, -9)])), kch49), ([], some (.inr (false, [(-1, 63)])), [])])
/-- MiceRegisters.readMouse -/
def kch50 : aw_H := [(0, kcx2), (13, .inr (.inl (1, 60, [], []))), (24, kcx25), (29, .inr (.inl (0, 4, [], []))), (30, .inr (.inl (0, 4, [], []))), (31, kcx36)]
def kcc41 : ak_C := (19, [.inl 0, .inl 13, .inr (false, [(-1, 60)]), .inr (false, [(1, 1)])], kch50, [24, 29, 30, 31], [([], some (.inr (false, [(-1, 63)])), kch37), ([], some (.inr (false, [(-9, -9)])), kch39)])
theorem kck41 : ai_chk [kcc28, kcc39, kcc40] kcc41 (fun pc => sm_ch sm_t19 pc, sm_Kn 2 6 none, fun x => sm_lk sm_ca2 x, some .int) [24, 29, 30, 31] 6 0 [] [] 2000 [] = true := by decide +kernel
/-- MiceRegisters.faultOfFigure -/
def kcc42 : ak_C := (18, [.inl 14, .inr (false, [(-1, 60)]), .inr (false, [(0, 63)]), .inr (false, ar_t32), .inr (false, ar_t32)], kch21, [], [([[], [], [], [], []], some (.inr (false, [(-1, 60)])), []), ([[], [(1, 60)], [(0, 59)], [], []], some (.inr (false, [(-9, -9)])), [])])
theorem kck42 : ai_chk [] kcc42 (fun pc => sm_ch sm_t18 pc, sm_Kn 2 6 none, fun x => sm_lk sm_ca2 x, some .int) [] 6 5 [] [] 2000 [] = true := by decide +kernel
/-- MiceRegisters.readLine -/
def kch51 : aw_H := [(0, kcx2), (14, .inr (.inl (1, 60, [], []))), (24, kcx25), (25, .inr (.inl (0, 8, [], []))), (26, .inr (.inl (0, 8, [], [])))]
def kcc43 : ak_C := (17, [.inl 0, .inl 14, .inr (false, [(-1, 60)]), .inr (false, [(1, 1)])], kch51, [24, 25, 26], [([[], [], [], []], some (.inr (false, [(-1, 60)])), kch26), ([[], [], [(1, 60)], []], some (.inr (false, [(-9, -9)])), kch28)])
def kch52 : aw_H := [(0, kcx2), (14, .inr (.inl (1, 60, [], []))), (24, kcx30), (25, .inr (.inl (0, 8, [], []))), (26, .inr (.inl (0, 8, [], [])))]
theorem kck43 : ai_chk [kcc42] kcc43 (fun pc => sm_ch sm_t17 pc, sm_Kn 2 6 none, fun x => sm_lk sm_ca2 x, some .int) [24, 25, 26] 6 4 [29] [] 2000 [(29, [(0, .inl 0), (1, .inl 14), (2, .inr (false, [(-1, 60)])), (3, .inr (false, [(1, 1)])), (4, .inr (false, [(2, 2)]))], [], kch52),
  (29, [(0, .inl 0), (1, .inl 14), (2, .inr (false, [(1, 60)])), (3, .inr (false, [(1, 1)])), (4, .inr (false, [(3, 3)])), (5, .inr (false, [(-9, -9)]))], [], kch52),
  (29, [(0, .inl 0), (1, .inl 14), (2, .inr (false, [(1, 60)])), (3, .inr (false, [(1, 1)])), (4, .inr (false, [(4, 4)])), (5, .inr (false, [(-9, -9)]))], [], kch52),
  (29, [(0, .inl 0), (1, .inl 14), (2, .inr (false, [(1, 60)])), (3, .inr (false, [(1, 1)])), (4, .inr (false, [(5, 5)])), (5, .inr (false, [(-9, -9)]))], [], kch52)] = true := by decide +kernel
def kch53 : aw_H := [(14, kcx32)]
/-- MiceRegisters.faultOfFigure -/
def kcc44 : ak_C := (18, [.inl 14, .inr (false, [(-1, 60)]), .inr (false, [(2, 2)]), .inr (false, [(0, 0)]), .inr (false, [(0, 7)])], kch21, [], [([], some (.inr (false, [(-9, -9)])), kch53), ([], some (.inr (false, [(-1, 63)])), [])])
def kch54 : aw_H := [(14, kcx34)]
/-- MiceRegisters.faultOfFigure -/
def kcc45 : ak_C := (18, [.inl 14, .inr (false, [(-1, 60)]), .inr (false, [(3, 3)]), .inr (false, [(1, 1)]), .inr (false, [(9, 9)])], kch53, [], [([], some (.inr (false, [(-9, -9)])), kch54), ([], some (.inr (false, [(-1, 63)])), [])])
/-- MiceRegisters.readMouse -/
def kch55 : aw_H := [(0, kcx2), (14, .inr (.inl (1, 60, [], []))), (24, kcx25), (29, .inr (.inl (0, 4, [], []))), (30, .inr (.inl (0, 4, [], []))), (31, kcx36)]
def kcc46 : ak_C := (19, [.inl 0, .inl 14, .inr (false, [(-1, 60)]), .inr (false, [(1, 1)])], kch55, [24, 29, 30, 31], [([], some (.inr (false, [(-1, 63)])), kch37), ([], some (.inr (false, [(-9, -9)])), kch39)])
theorem kck46 : ai_chk [kcc28, kcc44, kcc45] kcc46 (fun pc => sm_ch sm_t19 pc, sm_Kn 2 6 none, fun x => sm_lk sm_ca2 x, some .int) [24, 29, 30, 31] 6 0 [] [] 2000 [] = true := by decide +kernel
/-- MiceRegisters.readLine -/
def kcc47 : ak_C := (17, [.inl 0, .inl 11, .inr (false, [(-1, 60)]), .inr (false, [(2, 2)])], kch29, [24, 25, 26], [([[], [], [], []], some (.inr (false, [(-1, 60)])), kch26), ([[], [], [(1, 60)], []], some (.inr (false, [(-9, -9)])), kch28)])
theorem kck47 : ai_chk [kcc26] kcc47 (fun pc => sm_ch sm_t17 pc, sm_Kn 2 6 none, fun x => sm_lk sm_ca2 x, some .int) [24, 25, 26] 6 4 [29] [] 2000 [(29, [(0, .inl 0), (1, .inl 11), (2, .inr (false, [(-1, 60)])), (3, .inr (false, [(2, 2)])), (4, .inr (false, [(3, 3)]))], [], kch31),
  (29, [(0, .inl 0), (1, .inl 11), (2, .inr (false, [(1, 60)])), (3, .inr (false, [(2, 2)])), (4, .inr (false, [(4, 4)])), (5, .inr (false, [(-9, -9)]))], [], kch31),
  (29, [(0, .inl 0), (1, .inl 11), (2, .inr (false, [(1, 60)])), (3, .inr (false, [(2, 2)])), (4, .inr (false, [(5, 5)])), (5, .inr (false, [(-9, -9)]))], [], kch31),
  (29, [(0, .inl 0), (1, .inl 11), (2, .inr (false, [(1, 60)])), (3, .inr (false, [(2, 2)])), (4, .inr (false, [(6, 6)])), (5, .inr (false, [(-9, -9)]))], [], kch31)] = true := by decide +kernel
def kcx56 : aw_A := .inr (.inl (1, 60, [], [(3, [(48, 55)])]))
def kch57 : aw_H := [(11, kcx56)]
/-- MiceRegisters.faultOfFigure -/
def kcc48 : ak_C := (18, [.inl 11, .inr (false, [(-1, 60)]), .inr (false, [(3, 3)]), .inr (false, [(0, 0)]), .inr (false, [(0, 7)])], kch24, [], [([], some (.inr (false, [(-9, -9)])), kch57), ([], some (.inr (false, [(-1, 63)])), [])])
def kcx58 : aw_A := .inr (.inl (1, 60, [], [(4, [(49, 57)]), (3, [(48, 55)])]))
def kch59 : aw_H := [(11, kcx58)]
/-- MiceRegisters.faultOfFigure -/
def kcc49 : ak_C := (18, [.inl 11, .inr (false, [(-1, 60)]), .inr (false, [(4, 4)]), .inr (false, [(1, 1)]), .inr (false, [(9, 9)])], kch57, [], [([], some (.inr (false, [(-9, -9)])), kch59), ([], some (.inr (false, [(-1, 63)])), [])])
/-- MiceRegisters.readMouse -/
def kcc50 : ak_C := (19, [.inl 0, .inl 11, .inr (false, [(-1, 60)]), .inr (false, [(2, 2)])], kch40, [24, 29, 30, 31], [([], some (.inr (false, [(-1, 63)])), kch37), ([], some (.inr (false, [(-9, -9)])), kch39)])
theorem kck50 : ai_chk [kcc28, kcc48, kcc49] kcc50 (fun pc => sm_ch sm_t19 pc, sm_Kn 2 6 none, fun x => sm_lk sm_ca2 x, some .int) [24, 29, 30, 31] 6 0 [] [] 2000 [] = true := by decide +kernel
/-- MiceRegisters.readLine -/
def kcc51 : ak_C := (17, [.inl 0, .inl 12, .inr (false, [(-1, 60)]), .inr (false, [(2, 2)])], kch41, [24, 25, 26], [([[], [], [], []], some (.inr (false, [(-1, 60)])), kch26), ([[], [], [(1, 60)], []], some (.inr (false, [(-9, -9)])), kch28)])
theorem kck51 : ai_chk [kcc32] kcc51 (fun pc => sm_ch sm_t17 pc, sm_Kn 2 6 none, fun x => sm_lk sm_ca2 x, some .int) [24, 25, 26] 6 4 [29] [] 2000 [(29, [(0, .inl 0), (1, .inl 12), (2, .inr (false, [(-1, 60)])), (3, .inr (false, [(2, 2)])), (4, .inr (false, [(3, 3)]))], [], kch42),
  (29, [(0, .inl 0), (1, .inl 12), (2, .inr (false, [(1, 60)])), (3, .inr (false, [(2, 2)])), (4, .inr (false, [(4, 4)])), (5, .inr (false, [(-9, -9)]))], [], kch42),
  (29, [(0, .inl 0), (1, .inl 12), (2, .inr (false, [(1, 60)])), (3, .inr (false, [(2, 2)])), (4, .inr (false, [(5, 5)])), (5, .inr (false, [(-9, -9)]))], [], kch42),
  (29, [(0, .inl 0), (1, .inl 12), (2, .inr (false, [(1, 60)])), (3, .inr (false, [(2, 2)])), (4, .inr (false, [(6, 6)])), (5, .inr (false, [(-9, -9)]))], [], kch42)] = true := by decide +kernel
def kch60 : aw_H := [(12, kcx56)]
/-- MiceRegisters.faultOfFigure -/
def kcc52 : ak_C := (18, [.inl 12, .inr (false, [(-1, 60)]), .inr (false, [(3, 3)]), .inr (false, [(0, 0)]), .inr (false, [(0, 7)])], kch23, [], [([], some (.inr (false, [(-9, -9)])), kch60), ([], some (.inr (false, [(-1, 63)])), [])])
def kch61 : aw_H := [(12, kcx58)]
/-- MiceRegisters.faultOfFigure -/
def kcc53 : ak_C := (18, [.inl 12, .inr (false, [(-1, 60)]), .inr (false, [(4, 4)]), .inr (false, [(1, 1)]), .inr (false, [(9, 9)])], kch60, [], [([], some (.inr (false, [(-9, -9)])), kch61), ([], some (.inr (false, [(-1, 63)])), [])])
/-- MiceRegisters.readMouse -/
def kcc54 : ak_C := (19, [.inl 0, .inl 12, .inr (false, [(-1, 60)]), .inr (false, [(2, 2)])], kch45, [24, 29, 30, 31], [([], some (.inr (false, [(-1, 63)])), kch37), ([], some (.inr (false, [(-9, -9)])), kch39)])
theorem kck54 : ai_chk [kcc28, kcc52, kcc53] kcc54 (fun pc => sm_ch sm_t19 pc, sm_Kn 2 6 none, fun x => sm_lk sm_ca2 x, some .int) [24, 29, 30, 31] 6 0 [] [] 2000 [] = true := by decide +kernel
/-- MiceRegisters.readLine -/
def kcc55 : ak_C := (17, [.inl 0, .inl 13, .inr (false, [(-1, 60)]), .inr (false, [(2, 2)])], kch46, [24, 25, 26], [([[], [], [], []], some (.inr (false, [(-1, 60)])), kch26), ([[], [], [(1, 60)], []], some (.inr (false, [(-9, -9)])), kch28)])
theorem kck55 : ai_chk [kcc37] kcc55 (fun pc => sm_ch sm_t17 pc, sm_Kn 2 6 none, fun x => sm_lk sm_ca2 x, some .int) [24, 25, 26] 6 4 [29] [] 2000 [(29, [(0, .inl 0), (1, .inl 13), (2, .inr (false, [(-1, 60)])), (3, .inr (false, [(2, 2)])), (4, .inr (false, [(3, 3)]))], [], kch47),
  (29, [(0, .inl 0), (1, .inl 13), (2, .inr (false, [(1, 60)])), (3, .inr (false, [(2, 2)])), (4, .inr (false, [(4, 4)])), (5, .inr (false, [(-9, -9)]))], [], kch47),
  (29, [(0, .inl 0), (1, .inl 13), (2, .inr (false, [(1, 60)])), (3, .inr (false, [(2, 2)])), (4, .inr (false, [(5, 5)])), (5, .inr (false, [(-9, -9)]))], [], kch47),
  (29, [(0, .inl 0), (1, .inl 13), (2, .inr (false, [(1, 60)])), (3, .inr (false, [(2, 2)])), (4, .inr (false, [(6, 6)])), (5, .inr (false, [(-9, -9)]))], [], kch47)] = true := by decide +kernel
def kch62 : aw_H := [(13, kcx56)]
/-- MiceRegisters.faultOfFigure -/
def kcc56 : ak_C := (18, [.inl 13, .inr (false, [(-1, 60)]), .inr (false, [(3, 3)]), .inr (false, [(0, 0)]), .inr (false, [(0, 7)])], kch22, [], [([], some (.inr (false, [(-9, -9)])), kch62), ([], some (.inr (false, [(-1, 63)])), [])])
def kch63 : aw_H := [(13, kcx58)]
/-- MiceRegisters.faultOfFigure -/
def kcc57 : ak_C := (18, [.inl 13, .inr (false, [(-1, 60)]), .inr (false, [(4, 4)]), .inr (false, [(1, 1)]), .inr (false, [(9, 9)])], kch62, [], [([], some (.inr (false, [(-9, -9)])), kch63), ([], some (.inr (false, [(-1, 63)])), [])])
/-- MiceRegisters.readMouse -/
def kcc58 : ak_C := (19, [.inl 0, .inl 13, .inr (false, [(-1, 60)]), .inr (false, [(2, 2)])], kch50, [24, 29, 30, 31], [([], some (.inr (false, [(-1, 63)])), kch37), ([], some (.inr (false, [(-9, -9)])), kch39)])
theorem kck58 : ai_chk [kcc28, kcc56, kcc57] kcc58 (fun pc => sm_ch sm_t19 pc, sm_Kn 2 6 none, fun x => sm_lk sm_ca2 x, some .int) [24, 29, 30, 31] 6 0 [] [] 2000 [] = true := by decide +kernel
/-- MiceRegisters.readLine -/
def kcc59 : ak_C := (17, [.inl 0, .inl 14, .inr (false, [(-1, 60)]), .inr (false, [(2, 2)])], kch51, [24, 25, 26], [([[], [], [], []], some (.inr (false, [(-1, 60)])), kch26), ([[], [], [(1, 60)], []], some (.inr (false, [(-9, -9)])), kch28)])
theorem kck59 : ai_chk [kcc42] kcc59 (fun pc => sm_ch sm_t17 pc, sm_Kn 2 6 none, fun x => sm_lk sm_ca2 x, some .int) [24, 25, 26] 6 4 [29] [] 2000 [(29, [(0, .inl 0), (1, .inl 14), (2, .inr (false, [(-1, 60)])), (3, .inr (false, [(2, 2)])), (4, .inr (false, [(3, 3)]))], [], kch52),
  (29, [(0, .inl 0), (1, .inl 14), (2, .inr (false, [(1, 60)])), (3, .inr (false, [(2, 2)])), (4, .inr (false, [(4, 4)])), (5, .inr (false, [(-9, -9)]))], [], kch52),
  (29, [(0, .inl 0), (1, .inl 14), (2, .inr (false, [(1, 60)])), (3, .inr (false, [(2, 2)])), (4, .inr (false, [(5, 5)])), (5, .inr (false, [(-9, -9)]))], [], kch52),
  (29, [(0, .inl 0), (1, .inl 14), (2, .inr (false, [(1, 60)])), (3, .inr (false, [(2, 2)])), (4, .inr (false, [(6, 6)])), (5, .inr (false, [(-9, -9)]))], [], kch52)] = true := by decide +kernel
def kch64 : aw_H := [(14, kcx56)]
/-- MiceRegisters.faultOfFigure -/
def kcc60 : ak_C := (18, [.inl 14, .inr (false, [(-1, 60)]), .inr (false, [(3, 3)]), .inr (false, [(0, 0)]), .inr (false, [(0, 7)])], kch21, [], [([], some (.inr (false, [(-9, -9)])), kch64), ([], some (.inr (false, [(-1, 63)])), [])])
def kch65 : aw_H := [(14, kcx58)]
/-- MiceRegisters.faultOfFigure -/
def kcc61 : ak_C := (18, [.inl 14, .inr (false, [(-1, 60)]), .inr (false, [(4, 4)]), .inr (false, [(1, 1)]), .inr (false, [(9, 9)])], kch64, [], [([], some (.inr (false, [(-9, -9)])), kch65), ([], some (.inr (false, [(-1, 63)])), [])])
/-- MiceRegisters.readMouse -/
def kcc62 : ak_C := (19, [.inl 0, .inl 14, .inr (false, [(-1, 60)]), .inr (false, [(2, 2)])], kch55, [24, 29, 30, 31], [([], some (.inr (false, [(-1, 63)])), kch37), ([], some (.inr (false, [(-9, -9)])), kch39)])
theorem kck62 : ai_chk [kcc28, kcc60, kcc61] kcc62 (fun pc => sm_ch sm_t19 pc, sm_Kn 2 6 none, fun x => sm_lk sm_ca2 x, some .int) [24, 29, 30, 31] 6 0 [] [] 2000 [] = true := by decide +kernel
/-- MiceRegisters.readLine -/
def kcc63 : ak_C := (17, [.inl 0, .inl 11, .inr (false, [(-1, 60)]), .inr (false, [(3, 3)])], kch29, [24, 25, 26], [([[], [], [], []], some (.inr (false, [(-1, 60)])), kch26), ([[], [], [(1, 60)], []], some (.inr (false, [(-9, -9)])), kch28)])
theorem kck63 : ai_chk [kcc26] kcc63 (fun pc => sm_ch sm_t17 pc, sm_Kn 2 6 none, fun x => sm_lk sm_ca2 x, some .int) [24, 25, 26] 6 4 [29] [] 2000 [(29, [(0, .inl 0), (1, .inl 11), (2, .inr (false, [(-1, 60)])), (3, .inr (false, [(3, 3)])), (4, .inr (false, [(4, 4)]))], [], kch31),
  (29, [(0, .inl 0), (1, .inl 11), (2, .inr (false, [(1, 60)])), (3, .inr (false, [(3, 3)])), (4, .inr (false, [(5, 5)])), (5, .inr (false, [(-9, -9)]))], [], kch31),
  (29, [(0, .inl 0), (1, .inl 11), (2, .inr (false, [(1, 60)])), (3, .inr (false, [(3, 3)])), (4, .inr (false, [(6, 6)])), (5, .inr (false, [(-9, -9)]))], [], kch31),
  (29, [(0, .inl 0), (1, .inl 11), (2, .inr (false, [(1, 60)])), (3, .inr (false, [(3, 3)])), (4, .inr (false, [(7, 7)])), (5, .inr (false, [(-9, -9)]))], [], kch31)] = true := by decide +kernel
def kcx66 : aw_A := .inr (.inl (1, 60, [], [(4, [(48, 55)])]))
def kch67 : aw_H := [(11, kcx66)]
/-- MiceRegisters.faultOfFigure -/
def kcc64 : ak_C := (18, [.inl 11, .inr (false, [(-1, 60)]), .inr (false, [(4, 4)]), .inr (false, [(0, 0)]), .inr (false, [(0, 7)])], kch24, [], [([], some (.inr (false, [(-9, -9)])), kch67), ([], some (.inr (false, [(-1, 63)])), [])])
def kcx68 : aw_A := .inr (.inl (1, 60, [], [(5, [(49, 57)]), (4, [(48, 55)])]))
def kch69 : aw_H := [(11, kcx68)]
/-- MiceRegisters.faultOfFigure -/
def kcc65 : ak_C := (18, [.inl 11, .inr (false, [(-1, 60)]), .inr (false, [(5, 5)]), .inr (false, [(1, 1)]), .inr (false, [(9, 9)])], kch67, [], [([], some (.inr (false, [(-9, -9)])), kch69), ([], some (.inr (false, [(-1, 63)])), [])])
/-- MiceRegisters.readMouse -/
def kcc66 : ak_C := (19, [.inl 0, .inl 11, .inr (false, [(-1, 60)]), .inr (false, [(3, 3)])], kch40, [24, 29, 30, 31], [([], some (.inr (false, [(-1, 63)])), kch37), ([], some (.inr (false, [(-9, -9)])), kch39)])
theorem kck66 : ai_chk [kcc28, kcc64, kcc65] kcc66 (fun pc => sm_ch sm_t19 pc, sm_Kn 2 6 none, fun x => sm_lk sm_ca2 x, some .int) [24, 29, 30, 31] 6 0 [] [] 2000 [] = true := by decide +kernel
/-- MiceRegisters.readLine -/
def kcc67 : ak_C := (17, [.inl 0, .inl 12, .inr (false, [(-1, 60)]), .inr (false, [(3, 3)])], kch41, [24, 25, 26], [([[], [], [], []], some (.inr (false, [(-1, 60)])), kch26), ([[], [], [(1, 60)], []], some (.inr (false, [(-9, -9)])), kch28)])
theorem kck67 : ai_chk [kcc32] kcc67 (fun pc => sm_ch sm_t17 pc, sm_Kn 2 6 none, fun x => sm_lk sm_ca2 x, some .int) [24, 25, 26] 6 4 [29] [] 2000 [(29, [(0, .inl 0), (1, .inl 12), (2, .inr (false, [(-1, 60)])), (3, .inr (false, [(3, 3)])), (4, .inr (false, [(4, 4)]))], [], kch42),
  (29, [(0, .inl 0), (1, .inl 12), (2, .inr (false, [(1, 60)])), (3, .inr (false, [(3, 3)])), (4, .inr (false, [(5, 5)])), (5, .inr (false, [(-9, -9)]))], [], kch42),
  (29, [(0, .inl 0), (1, .inl 12), (2, .inr (false, [(1, 60)])), (3, .inr (false, [(3, 3)])), (4, .inr (false, [(6, 6)])), (5, .inr (false, [(-9, -9)]))], [], kch42),
  (29, [(0, .inl 0), (1, .inl 12), (2, .inr (false, [(1, 60)])), (3, .inr (false, [(3, 3)])), (4, .inr (false, [(7, 7)])), (5, .inr (false, [(-9, -9)]))], [], kch42)] = true := by decide +kernel
def kch70 : aw_H := [(12, kcx66)]
/-- MiceRegisters.faultOfFigure -/
def kcc68 : ak_C := (18, [.inl 12, .inr (false, [(-1, 60)]), .inr (false, [(4, 4)]), .inr (false, [(0, 0)]), .inr (false, [(0, 7)])], kch23, [], [([], some (.inr (false, [(-9, -9)])), kch70), ([], some (.inr (false, [(-1, 63)])), [])])
def kch71 : aw_H := [(12, kcx68)]
/-- MiceRegisters.faultOfFigure -/
def kcc69 : ak_C := (18, [.inl 12, .inr (false, [(-1, 60)]), .inr (false, [(5, 5)]), .inr (false, [(1, 1)]), .inr (false, [(9, 9)])], kch70, [], [([], some (.inr (false, [(-9, -9)])), kch71), ([], some (.inr (false, [(-1, 63)])), [])])
/-- MiceRegisters.readMouse -/
def kcc70 : ak_C := (19, [.inl 0, .inl 12, .inr (false, [(-1, 60)]), .inr (false, [(3, 3)])], kch45, [24, 29, 30, 31], [([], some (.inr (false, [(-1, 63)])), kch37), ([], some (.inr (false, [(-9, -9)])), kch39)])
theorem kck70 : ai_chk [kcc28, kcc68, kcc69] kcc70 (fun pc => sm_ch sm_t19 pc, sm_Kn 2 6 none, fun x => sm_lk sm_ca2 x, some .int) [24, 29, 30, 31] 6 0 [] [] 2000 [] = true := by decide +kernel
/-- MiceRegisters.readLine -/
def kcc71 : ak_C := (17, [.inl 0, .inl 13, .inr (false, [(-1, 60)]), .inr (false, [(3, 3)])], kch46, [24, 25, 26], [([[], [], [], []], some (.inr (false, [(-1, 60)])), kch26), ([[], [], [(1, 60)], []], some (.inr (false, [(-9, -9)])), kch28)])
theorem kck71 : ai_chk [kcc37] kcc71 (fun pc => sm_ch sm_t17 pc, sm_Kn 2 6 none, fun x => sm_lk sm_ca2 x, some .int) [24, 25, 26] 6 4 [29] [] 2000 [(29, [(0, .inl 0), (1, .inl 13), (2, .inr (false, [(-1, 60)])), (3, .inr (false, [(3, 3)])), (4, .inr (false, [(4, 4)]))], [], kch47),
  (29, [(0, .inl 0), (1, .inl 13), (2, .inr (false, [(1, 60)])), (3, .inr (false, [(3, 3)])), (4, .inr (false, [(5, 5)])), (5, .inr (false, [(-9, -9)]))], [], kch47),
  (29, [(0, .inl 0), (1, .inl 13), (2, .inr (false, [(1, 60)])), (3, .inr (false, [(3, 3)])), (4, .inr (false, [(6, 6)])), (5, .inr (false, [(-9, -9)]))], [], kch47),
  (29, [(0, .inl 0), (1, .inl 13), (2, .inr (false, [(1, 60)])), (3, .inr (false, [(3, 3)])), (4, .inr (false, [(7, 7)])), (5, .inr (false, [(-9, -9)]))], [], kch47)] = true := by decide +kernel
def kch72 : aw_H := [(13, kcx66)]
/-- MiceRegisters.faultOfFigure -/
def kcc72 : ak_C := (18, [.inl 13, .inr (false, [(-1, 60)]), .inr (false, [(4, 4)]), .inr (false, [(0, 0)]), .inr (false, [(0, 7)])], kch22, [], [([], some (.inr (false, [(-9, -9)])), kch72), ([], some (.inr (false, [(-1, 63)])), [])])
def kch73 : aw_H := [(13, kcx68)]
/-- MiceRegisters.faultOfFigure -/
def kcc73 : ak_C := (18, [.inl 13, .inr (false, [(-1, 60)]), .inr (false, [(5, 5)]), .inr (false, [(1, 1)]), .inr (false, [(9, 9)])], kch72, [], [([], some (.inr (false, [(-9, -9)])), kch73), ([], some (.inr (false, [(-1, 63)])), [])])
/-- MiceRegisters.readMouse -/
def kcc74 : ak_C := (19, [.inl 0, .inl 13, .inr (false, [(-1, 60)]), .inr (false, [(3, 3)])], kch50, [24, 29, 30, 31], [([], some (.inr (false, [(-1, 63)])), kch37), ([], some (.inr (false, [(-9, -9)])), kch39)])
theorem kck74 : ai_chk [kcc28, kcc72, kcc73] kcc74 (fun pc => sm_ch sm_t19 pc, sm_Kn 2 6 none, fun x => sm_lk sm_ca2 x, some .int) [24, 29, 30, 31] 6 0 [] [] 2000 [] = true := by decide +kernel
/-- MiceRegisters.readLine -/
def kcc75 : ak_C := (17, [.inl 0, .inl 14, .inr (false, [(-1, 60)]), .inr (false, [(3, 3)])], kch51, [24, 25, 26], [([[], [], [], []], some (.inr (false, [(-1, 60)])), kch26), ([[], [], [(1, 60)], []], some (.inr (false, [(-9, -9)])), kch28)])
theorem kck75 : ai_chk [kcc42] kcc75 (fun pc => sm_ch sm_t17 pc, sm_Kn 2 6 none, fun x => sm_lk sm_ca2 x, some .int) [24, 25, 26] 6 4 [29] [] 2000 [(29, [(0, .inl 0), (1, .inl 14), (2, .inr (false, [(-1, 60)])), (3, .inr (false, [(3, 3)])), (4, .inr (false, [(4, 4)]))], [], kch52),
  (29, [(0, .inl 0), (1, .inl 14), (2, .inr (false, [(1, 60)])), (3, .inr (false, [(3, 3)])), (4, .inr (false, [(5, 5)])), (5, .inr (false, [(-9, -9)]))], [], kch52),
  (29, [(0, .inl 0), (1, .inl 14), (2, .inr (false, [(1, 60)])), (3, .inr (false, [(3, 3)])), (4, .inr (false, [(6, 6)])), (5, .inr (false, [(-9, -9)]))], [], kch52),
  (29, [(0, .inl 0), (1, .inl 14), (2, .inr (false, [(1, 60)])), (3, .inr (false, [(3, 3)])), (4, .inr (false, [(7, 7)])), (5, .inr (false, [(-9, -9)]))], [], kch52)] = true := by decide +kernel
def kch74 : aw_H := [(14, kcx66)]
/-- MiceRegisters.faultOfFigure -/
def kcc76 : ak_C := (18, [.inl 14, .inr (false, [(-1, 60)]), .inr (false, [(4, 4)]), .inr (false, [(0, 0)]), .inr (false, [(0, 7)])], kch21, [], [([], some (.inr (false, [(-9, -9)])), kch74), ([], some (.inr (false, [(-1, 63)])), [])])
def kch75 : aw_H := [(14, kcx68)]
/-- MiceRegisters.faultOfFigure -/
def kcc77 : ak_C := (18, [.inl 14, .inr (false, [(-1, 60)]), .inr (false, [(5, 5)]), .inr (false, [(1, 1)]), .inr (false, [(9, 9)])], kch74, [], [([], some (.inr (false, [(-9, -9)])), kch75), ([], some (.inr (false, [(-1, 63)])), [])])
/-- MiceRegisters.readMouse -/
def kcc78 : ak_C := (19, [.inl 0, .inl 14, .inr (false, [(-1, 60)]), .inr (false, [(3, 3)])], kch55, [24, 29, 30, 31], [([], some (.inr (false, [(-1, 63)])), kch37), ([], some (.inr (false, [(-9, -9)])), kch39)])
theorem kck78 : ai_chk [kcc28, kcc76, kcc77] kcc78 (fun pc => sm_ch sm_t19 pc, sm_Kn 2 6 none, fun x => sm_lk sm_ca2 x, some .int) [24, 29, 30, 31] 6 0 [] [] 2000 [] = true := by decide +kernel
/-- MiceRegisters.readLine -/
def kcc79 : ak_C := (17, [.inl 0, .inl 11, .inr (false, [(-1, 60)]), .inr (false, [(4, 4)])], kch29, [24, 25, 26], [([[], [], [], []], some (.inr (false, [(-1, 60)])), kch26), ([[], [], [(1, 60)], []], some (.inr (false, [(-9, -9)])), kch28)])
theorem kck79 : ai_chk [kcc26] kcc79 (fun pc => sm_ch sm_t17 pc, sm_Kn 2 6 none, fun x => sm_lk sm_ca2 x, some .int) [24, 25, 26] 6 4 [29] [] 2000 [(29, [(0, .inl 0), (1, .inl 11), (2, .inr (false, [(-1, 60)])), (3, .inr (false, [(4, 4)])), (4, .inr (false, [(5, 5)]))], [], kch31),
  (29, [(0, .inl 0), (1, .inl 11), (2, .inr (false, [(1, 60)])), (3, .inr (false, [(4, 4)])), (4, .inr (false, [(6, 6)])), (5, .inr (false, [(-9, -9)]))], [], kch31),
  (29, [(0, .inl 0), (1, .inl 11), (2, .inr (false, [(1, 60)])), (3, .inr (false, [(4, 4)])), (4, .inr (false, [(7, 7)])), (5, .inr (false, [(-9, -9)]))], [], kch31),
  (29, [(0, .inl 0), (1, .inl 11), (2, .inr (false, [(1, 60)])), (3, .inr (false, [(4, 4)])), (4, .inr (false, [(8, 8)])), (5, .inr (false, [(-9, -9)]))], [], kch31)] = true := by decide +kernel
def kcx76 : aw_A := .inr (.inl (1, 60, [], [(5, [(48, 55)])]))
def kch77 : aw_H := [(11, kcx76)]
/-- MiceRegisters.faultOfFigure -/
def kcc80 : ak_C := (18, [.inl 11, .inr (false, [(-1, 60)]), .inr (false, [(5, 5)]), .inr (false, [(0, 0)]), .inr (false, [(0, 7)])], kch24, [], [([], some (.inr (false, [(-9, -9)])), kch77), ([], some (.inr (false, [(-1, 63)])), [])])
def kcx78 : aw_A := .inr (.inl (1, 60, [], [(6, [(49, 57)]), (5, [(48, 55)])]))
def kch79 : aw_H := [(11, kcx78)]
/-- MiceRegisters.faultOfFigure -/
def kcc81 : ak_C := (18, [.inl 11, .inr (false, [(-1, 60)]), .inr (false, [(6, 6)]), .inr (false, [(1, 1)]), .inr (false, [(9, 9)])], kch77, [], [([], some (.inr (false, [(-9, -9)])), kch79), ([], some (.inr (false, [(-1, 63)])), [])])
/-- MiceRegisters.readMouse -/
def kcc82 : ak_C := (19, [.inl 0, .inl 11, .inr (false, [(-1, 60)]), .inr (false, [(4, 4)])], kch40, [24, 29, 30, 31], [([], some (.inr (false, [(-1, 63)])), kch37), ([], some (.inr (false, [(-9, -9)])), kch39)])
theorem kck82 : ai_chk [kcc28, kcc80, kcc81] kcc82 (fun pc => sm_ch sm_t19 pc, sm_Kn 2 6 none, fun x => sm_lk sm_ca2 x, some .int) [24, 29, 30, 31] 6 0 [] [] 2000 [] = true := by decide +kernel
/-- MiceRegisters.readLine -/
def kcc83 : ak_C := (17, [.inl 0, .inl 12, .inr (false, [(-1, 60)]), .inr (false, [(4, 4)])], kch41, [24, 25, 26], [([[], [], [], []], some (.inr (false, [(-1, 60)])), kch26), ([[], [], [(1, 60)], []], some (.inr (false, [(-9, -9)])), kch28)])
theorem kck83 : ai_chk [kcc32] kcc83 (fun pc => sm_ch sm_t17 pc, sm_Kn 2 6 none, fun x => sm_lk sm_ca2 x, some .int) [24, 25, 26] 6 4 [29] [] 2000 [(29, [(0, .inl 0), (1, .inl 12), (2, .inr (false, [(-1, 60)])), (3, .inr (false, [(4, 4)])), (4, .inr (false, [(5, 5)]))], [], kch42),
  (29, [(0, .inl 0), (1, .inl 12), (2, .inr (false, [(1, 60)])), (3, .inr (false, [(4, 4)])), (4, .inr (false, [(6, 6)])), (5, .inr (false, [(-9, -9)]))], [], kch42),
  (29, [(0, .inl 0), (1, .inl 12), (2, .inr (false, [(1, 60)])), (3, .inr (false, [(4, 4)])), (4, .inr (false, [(7, 7)])), (5, .inr (false, [(-9, -9)]))], [], kch42),
  (29, [(0, .inl 0), (1, .inl 12), (2, .inr (false, [(1, 60)])), (3, .inr (false, [(4, 4)])), (4, .inr (false, [(8, 8)])), (5, .inr (false, [(-9, -9)]))], [], kch42)] = true := by decide +kernel
def kch80 : aw_H := [(12, kcx76)]
/-- MiceRegisters.faultOfFigure -/
def kcc84 : ak_C := (18, [.inl 12, .inr (false, [(-1, 60)]), .inr (false, [(5, 5)]), .inr (false, [(0, 0)]), .inr (false, [(0, 7)])], kch23, [], [([], some (.inr (false, [(-9, -9)])), kch80), ([], some (.inr (false, [(-1, 63)])), [])])
def kch81 : aw_H := [(12, kcx78)]
/-- MiceRegisters.faultOfFigure -/
def kcc85 : ak_C := (18, [.inl 12, .inr (false, [(-1, 60)]), .inr (false, [(6, 6)]), .inr (false, [(1, 1)]), .inr (false, [(9, 9)])], kch80, [], [([], some (.inr (false, [(-9, -9)])), kch81), ([], some (.inr (false, [(-1, 63)])), [])])
/-- MiceRegisters.readMouse -/
def kcc86 : ak_C := (19, [.inl 0, .inl 12, .inr (false, [(-1, 60)]), .inr (false, [(4, 4)])], kch45, [24, 29, 30, 31], [([], some (.inr (false, [(-1, 63)])), kch37), ([], some (.inr (false, [(-9, -9)])), kch39)])
theorem kck86 : ai_chk [kcc28, kcc84, kcc85] kcc86 (fun pc => sm_ch sm_t19 pc, sm_Kn 2 6 none, fun x => sm_lk sm_ca2 x, some .int) [24, 29, 30, 31] 6 0 [] [] 2000 [] = true := by decide +kernel
/-- MiceRegisters.readLine -/
def kcc87 : ak_C := (17, [.inl 0, .inl 13, .inr (false, [(-1, 60)]), .inr (false, [(4, 4)])], kch46, [24, 25, 26], [([[], [], [], []], some (.inr (false, [(-1, 60)])), kch26), ([[], [], [(1, 60)], []], some (.inr (false, [(-9, -9)])), kch28)])
theorem kck87 : ai_chk [kcc37] kcc87 (fun pc => sm_ch sm_t17 pc, sm_Kn 2 6 none, fun x => sm_lk sm_ca2 x, some .int) [24, 25, 26] 6 4 [29] [] 2000 [(29, [(0, .inl 0), (1, .inl 13), (2, .inr (false, [(-1, 60)])), (3, .inr (false, [(4, 4)])), (4, .inr (false, [(5, 5)]))], [], kch47),
  (29, [(0, .inl 0), (1, .inl 13), (2, .inr (false, [(1, 60)])), (3, .inr (false, [(4, 4)])), (4, .inr (false, [(6, 6)])), (5, .inr (false, [(-9, -9)]))], [], kch47),
  (29, [(0, .inl 0), (1, .inl 13), (2, .inr (false, [(1, 60)])), (3, .inr (false, [(4, 4)])), (4, .inr (false, [(7, 7)])), (5, .inr (false, [(-9, -9)]))], [], kch47),
  (29, [(0, .inl 0), (1, .inl 13), (2, .inr (false, [(1, 60)])), (3, .inr (false, [(4, 4)])), (4, .inr (false, [(8, 8)])), (5, .inr (false, [(-9, -9)]))], [], kch47)] = true := by decide +kernel
def kch82 : aw_H := [(13, kcx76)]
/-- MiceRegisters.faultOfFigure -/
def kcc88 : ak_C := (18, [.inl 13, .inr (false, [(-1, 60)]), .inr (false, [(5, 5)]), .inr (false, [(0, 0)]), .inr (false, [(0, 7)])], kch22, [], [([], some (.inr (false, [(-9, -9)])), kch82), ([], some (.inr (false, [(-1, 63)])), [])])
def kch83 : aw_H := [(13, kcx78)]
/-- MiceRegisters.faultOfFigure -/
def kcc89 : ak_C := (18, [.inl 13, .inr (false, [(-1, 60)]), .inr (false, [(6, 6)]), .inr (false, [(1, 1)]), .inr (false, [(9, 9)])], kch82, [], [([], some (.inr (false, [(-9, -9)])), kch83), ([], some (.inr (false, [(-1, 63)])), [])])
/-- MiceRegisters.readMouse -/
def kcc90 : ak_C := (19, [.inl 0, .inl 13, .inr (false, [(-1, 60)]), .inr (false, [(4, 4)])], kch50, [24, 29, 30, 31], [([], some (.inr (false, [(-1, 63)])), kch37), ([], some (.inr (false, [(-9, -9)])), kch39)])
theorem kck90 : ai_chk [kcc28, kcc88, kcc89] kcc90 (fun pc => sm_ch sm_t19 pc, sm_Kn 2 6 none, fun x => sm_lk sm_ca2 x, some .int) [24, 29, 30, 31] 6 0 [] [] 2000 [] = true := by decide +kernel
/-- MiceRegisters.readLine -/
def kcc91 : ak_C := (17, [.inl 0, .inl 14, .inr (false, [(-1, 60)]), .inr (false, [(4, 4)])], kch51, [24, 25, 26], [([[], [], [], []], some (.inr (false, [(-1, 60)])), kch26), ([[], [], [(1, 60)], []], some (.inr (false, [(-9, -9)])), kch28)])
theorem kck91 : ai_chk [kcc42] kcc91 (fun pc => sm_ch sm_t17 pc, sm_Kn 2 6 none, fun x => sm_lk sm_ca2 x, some .int) [24, 25, 26] 6 4 [29] [] 2000 [(29, [(0, .inl 0), (1, .inl 14), (2, .inr (false, [(-1, 60)])), (3, .inr (false, [(4, 4)])), (4, .inr (false, [(5, 5)]))], [], kch52),
  (29, [(0, .inl 0), (1, .inl 14), (2, .inr (false, [(1, 60)])), (3, .inr (false, [(4, 4)])), (4, .inr (false, [(6, 6)])), (5, .inr (false, [(-9, -9)]))], [], kch52),
  (29, [(0, .inl 0), (1, .inl 14), (2, .inr (false, [(1, 60)])), (3, .inr (false, [(4, 4)])), (4, .inr (false, [(7, 7)])), (5, .inr (false, [(-9, -9)]))], [], kch52),
  (29, [(0, .inl 0), (1, .inl 14), (2, .inr (false, [(1, 60)])), (3, .inr (false, [(4, 4)])), (4, .inr (false, [(8, 8)])), (5, .inr (false, [(-9, -9)]))], [], kch52)] = true := by decide +kernel
def kch84 : aw_H := [(14, kcx76)]
/-- MiceRegisters.faultOfFigure -/
def kcc92 : ak_C := (18, [.inl 14, .inr (false, [(-1, 60)]), .inr (false, [(5, 5)]), .inr (false, [(0, 0)]), .inr (false, [(0, 7)])], kch21, [], [([], some (.inr (false, [(-9, -9)])), kch84), ([], some (.inr (false, [(-1, 63)])), [])])
def kch85 : aw_H := [(14, kcx78)]
/-- MiceRegisters.faultOfFigure -/
def kcc93 : ak_C := (18, [.inl 14, .inr (false, [(-1, 60)]), .inr (false, [(6, 6)]), .inr (false, [(1, 1)]), .inr (false, [(9, 9)])], kch84, [], [([], some (.inr (false, [(-9, -9)])), kch85), ([], some (.inr (false, [(-1, 63)])), [])])
/-- MiceRegisters.readMouse -/
def kcc94 : ak_C := (19, [.inl 0, .inl 14, .inr (false, [(-1, 60)]), .inr (false, [(4, 4)])], kch55, [24, 29, 30, 31], [([], some (.inr (false, [(-1, 63)])), kch37), ([], some (.inr (false, [(-9, -9)])), kch39)])
theorem kck94 : ai_chk [kcc28, kcc92, kcc93] kcc94 (fun pc => sm_ch sm_t19 pc, sm_Kn 2 6 none, fun x => sm_lk sm_ca2 x, some .int) [24, 29, 30, 31] 6 0 [] [] 2000 [] = true := by decide +kernel
/-- MiceRegisters.readLine -/
def kcc95 : ak_C := (17, [.inl 0, .inl 11, .inr (false, [(-1, 60)]), .inr (false, [(5, 5)])], kch29, [24, 25, 26], [([[], [], [], []], some (.inr (false, [(-1, 60)])), kch26), ([[], [], [(1, 60)], []], some (.inr (false, [(-9, -9)])), kch28)])
theorem kck95 : ai_chk [kcc26] kcc95 (fun pc => sm_ch sm_t17 pc, sm_Kn 2 6 none, fun x => sm_lk sm_ca2 x, some .int) [24, 25, 26] 6 4 [29] [] 2000 [(29, [(0, .inl 0), (1, .inl 11), (2, .inr (false, [(-1, 60)])), (3, .inr (false, [(5, 5)])), (4, .inr (false, [(6, 6)]))], [], kch31),
  (29, [(0, .inl 0), (1, .inl 11), (2, .inr (false, [(1, 60)])), (3, .inr (false, [(5, 5)])), (4, .inr (false, [(7, 7)])), (5, .inr (false, [(-9, -9)]))], [], kch31),
  (29, [(0, .inl 0), (1, .inl 11), (2, .inr (false, [(1, 60)])), (3, .inr (false, [(5, 5)])), (4, .inr (false, [(8, 8)])), (5, .inr (false, [(-9, -9)]))], [], kch31),
  (29, [(0, .inl 0), (1, .inl 11), (2, .inr (false, [(1, 60)])), (3, .inr (false, [(5, 5)])), (4, .inr (false, [(9, 9)])), (5, .inr (false, [(-9, -9)]))], [], kch31)] = true := by decide +kernel
def kcx86 : aw_A := .inr (.inl (1, 60, [], [(6, [(48, 55)])]))
def kch87 : aw_H := [(11, kcx86)]
/-- MiceRegisters.faultOfFigure -/
def kcc96 : ak_C := (18, [.inl 11, .inr (false, [(-1, 60)]), .inr (false, [(6, 6)]), .inr (false, [(0, 0)]), .inr (false, [(0, 7)])], kch24, [], [([], some (.inr (false, [(-9, -9)])), kch87), ([], some (.inr (false, [(-1, 63)])), [])])
def kcx88 : aw_A := .inr (.inl (1, 60, [], [(7, [(49, 57)]), (6, [(48, 55)])]))
def kch89 : aw_H := [(11, kcx88)]
/-- MiceRegisters.faultOfFigure -/
def kcc97 : ak_C := (18, [.inl 11, .inr (false, [(-1, 60)]), .inr (false, [(7, 7)]), .inr (false, [(1, 1)]), .inr (false, [(9, 9)])], kch87, [], [([], some (.inr (false, [(-9, -9)])), kch89), ([], some (.inr (false, [(-1, 63)])), [])])
/-- MiceRegisters.readMouse -/
def kcc98 : ak_C := (19, [.inl 0, .inl 11, .inr (false, [(-1, 60)]), .inr (false, [(5, 5)])], kch40, [24, 29, 30, 31], [([], some (.inr (false, [(-1, 63)])), kch37), ([], some (.inr (false, [(-9, -9)])), kch39)])
theorem kck98 : ai_chk [kcc28, kcc96, kcc97] kcc98 (fun pc => sm_ch sm_t19 pc, sm_Kn 2 6 none, fun x => sm_lk sm_ca2 x, some .int) [24, 29, 30, 31] 6 0 [] [] 2000 [] = true := by decide +kernel
/-- MiceRegisters.readLine -/
def kcc99 : ak_C := (17, [.inl 0, .inl 12, .inr (false, [(-1, 60)]), .inr (false, [(5, 5)])], kch41, [24, 25, 26], [([[], [], [], []], some (.inr (false, [(-1, 60)])), kch26), ([[], [], [(1, 60)], []], some (.inr (false, [(-9, -9)])), kch28)])
theorem kck99 : ai_chk [kcc32] kcc99 (fun pc => sm_ch sm_t17 pc, sm_Kn 2 6 none, fun x => sm_lk sm_ca2 x, some .int) [24, 25, 26] 6 4 [29] [] 2000 [(29, [(0, .inl 0), (1, .inl 12), (2, .inr (false, [(-1, 60)])), (3, .inr (false, [(5, 5)])), (4, .inr (false, [(6, 6)]))], [], kch42),
  (29, [(0, .inl 0), (1, .inl 12), (2, .inr (false, [(1, 60)])), (3, .inr (false, [(5, 5)])), (4, .inr (false, [(7, 7)])), (5, .inr (false, [(-9, -9)]))], [], kch42),
  (29, [(0, .inl 0), (1, .inl 12), (2, .inr (false, [(1, 60)])), (3, .inr (false, [(5, 5)])), (4, .inr (false, [(8, 8)])), (5, .inr (false, [(-9, -9)]))], [], kch42),
  (29, [(0, .inl 0), (1, .inl 12), (2, .inr (false, [(1, 60)])), (3, .inr (false, [(5, 5)])), (4, .inr (false, [(9, 9)])), (5, .inr (false, [(-9, -9)]))], [], kch42)] = true := by decide +kernel
def kch90 : aw_H := [(12, kcx86)]
/-- MiceRegisters.faultOfFigure -/
def kcc100 : ak_C := (18, [.inl 12, .inr (false, [(-1, 60)]), .inr (false, [(6, 6)]), .inr (false, [(0, 0)]), .inr (false, [(0, 7)])], kch23, [], [([], some (.inr (false, [(-9, -9)])), kch90), ([], some (.inr (false, [(-1, 63)])), [])])
def kch91 : aw_H := [(12, kcx88)]
/-- MiceRegisters.faultOfFigure -/
def kcc101 : ak_C := (18, [.inl 12, .inr (false, [(-1, 60)]), .inr (false, [(7, 7)]), .inr (false, [(1, 1)]), .inr (false, [(9, 9)])], kch90, [], [([], some (.inr (false, [(-9, -9)])), kch91), ([], some (.inr (false, [(-1, 63)])), [])])
/-- MiceRegisters.readMouse -/
def kcc102 : ak_C := (19, [.inl 0, .inl 12, .inr (false, [(-1, 60)]), .inr (false, [(5, 5)])], kch45, [24, 29, 30, 31], [([], some (.inr (false, [(-1, 63)])), kch37), ([], some (.inr (false, [(-9, -9)])), kch39)])
theorem kck102 : ai_chk [kcc28, kcc100, kcc101] kcc102 (fun pc => sm_ch sm_t19 pc, sm_Kn 2 6 none, fun x => sm_lk sm_ca2 x, some .int) [24, 29, 30, 31] 6 0 [] [] 2000 [] = true := by decide +kernel
/-- MiceRegisters.readLine -/
def kcc103 : ak_C := (17, [.inl 0, .inl 13, .inr (false, [(-1, 60)]), .inr (false, [(5, 5)])], kch46, [24, 25, 26], [([[], [], [], []], some (.inr (false, [(-1, 60)])), kch26), ([[], [], [(1, 60)], []], some (.inr (false, [(-9, -9)])), kch28)])
theorem kck103 : ai_chk [kcc37] kcc103 (fun pc => sm_ch sm_t17 pc, sm_Kn 2 6 none, fun x => sm_lk sm_ca2 x, some .int) [24, 25, 26] 6 4 [29] [] 2000 [(29, [(0, .inl 0), (1, .inl 13), (2, .inr (false, [(-1, 60)])), (3, .inr (false, [(5, 5)])), (4, .inr (false, [(6, 6)]))], [], kch47),
  (29, [(0, .inl 0), (1, .inl 13), (2, .inr (false, [(1, 60)])), (3, .inr (false, [(5, 5)])), (4, .inr (false, [(7, 7)])), (5, .inr (false, [(-9, -9)]))], [], kch47),
  (29, [(0, .inl 0), (1, .inl 13), (2, .inr (false, [(1, 60)])), (3, .inr (false, [(5, 5)])), (4, .inr (false, [(8, 8)])), (5, .inr (false, [(-9, -9)]))], [], kch47),
  (29, [(0, .inl 0), (1, .inl 13), (2, .inr (false, [(1, 60)])), (3, .inr (false, [(5, 5)])), (4, .inr (false, [(9, 9)])), (5, .inr (false, [(-9, -9)]))], [], kch47)] = true := by decide +kernel
def kch92 : aw_H := [(13, kcx86)]
/-- MiceRegisters.faultOfFigure -/
def kcc104 : ak_C := (18, [.inl 13, .inr (false, [(-1, 60)]), .inr (false, [(6, 6)]), .inr (false, [(0, 0)]), .inr (false, [(0, 7)])], kch22, [], [([], some (.inr (false, [(-9, -9)])), kch92), ([], some (.inr (false, [(-1, 63)])), [])])
def kch93 : aw_H := [(13, kcx88)]
/-- MiceRegisters.faultOfFigure -/
def kcc105 : ak_C := (18, [.inl 13, .inr (false, [(-1, 60)]), .inr (false, [(7, 7)]), .inr (false, [(1, 1)]), .inr (false, [(9, 9)])], kch92, [], [([], some (.inr (false, [(-9, -9)])), kch93), ([], some (.inr (false, [(-1, 63)])), [])])
/-- MiceRegisters.readMouse -/
def kcc106 : ak_C := (19, [.inl 0, .inl 13, .inr (false, [(-1, 60)]), .inr (false, [(5, 5)])], kch50, [24, 29, 30, 31], [([], some (.inr (false, [(-1, 63)])), kch37), ([], some (.inr (false, [(-9, -9)])), kch39)])
theorem kck106 : ai_chk [kcc28, kcc104, kcc105] kcc106 (fun pc => sm_ch sm_t19 pc, sm_Kn 2 6 none, fun x => sm_lk sm_ca2 x, some .int) [24, 29, 30, 31] 6 0 [] [] 2000 [] = true := by decide +kernel
/-- MiceRegisters.readLine -/
def kcc107 : ak_C := (17, [.inl 0, .inl 14, .inr (false, [(-1, 60)]), .inr (false, [(5, 5)])], kch51, [24, 25, 26], [([[], [], [], []], some (.inr (false, [(-1, 60)])), kch26), ([[], [], [(1, 60)], []], some (.inr (false, [(-9, -9)])), kch28)])
theorem kck107 : ai_chk [kcc42] kcc107 (fun pc => sm_ch sm_t17 pc, sm_Kn 2 6 none, fun x => sm_lk sm_ca2 x, some .int) [24, 25, 26] 6 4 [29] [] 2000 [(29, [(0, .inl 0), (1, .inl 14), (2, .inr (false, [(-1, 60)])), (3, .inr (false, [(5, 5)])), (4, .inr (false, [(6, 6)]))], [], kch52),
  (29, [(0, .inl 0), (1, .inl 14), (2, .inr (false, [(1, 60)])), (3, .inr (false, [(5, 5)])), (4, .inr (false, [(7, 7)])), (5, .inr (false, [(-9, -9)]))], [], kch52),
  (29, [(0, .inl 0), (1, .inl 14), (2, .inr (false, [(1, 60)])), (3, .inr (false, [(5, 5)])), (4, .inr (false, [(8, 8)])), (5, .inr (false, [(-9, -9)]))], [], kch52),
  (29, [(0, .inl 0), (1, .inl 14), (2, .inr (false, [(1, 60)])), (3, .inr (false, [(5, 5)])), (4, .inr (false, [(9, 9)])), (5, .inr (false, [(-9, -9)]))], [], kch52)] = true := by decide +kernel
def kch94 : aw_H := [(14, kcx86)]
/-- MiceRegisters.faultOfFigure -/
def kcc108 : ak_C := (18, [.inl 14, .inr (false, [(-1, 60)]), .inr (false, [(6, 6)]), .inr (false, [(0, 0)]), .inr (false, [(0, 7)])], kch21, [], [([], some (.inr (false, [(-9, -9)])), kch94), ([], some (.inr (false, [(-1, 63)])), [])])
def kch95 : aw_H := [(14, kcx88)]
/-- MiceRegisters.faultOfFigure -/
def kcc109 : ak_C := (18, [.inl 14, .inr (false, [(-1, 60)]), .inr (false, [(7, 7)]), .inr (false, [(1, 1)]), .inr (false, [(9, 9)])], kch94, [], [([], some (.inr (false, [(-9, -9)])), kch95), ([], some (.inr (false, [(-1, 63)])), [])])
/-- MiceRegisters.readMouse -/
def kcc110 : ak_C := (19, [.inl 0, .inl 14, .inr (false, [(-1, 60)]), .inr (false, [(5, 5)])], kch55, [24, 29, 30, 31], [([], some (.inr (false, [(-1, 63)])), kch37), ([], some (.inr (false, [(-9, -9)])), kch39)])
theorem kck110 : ai_chk [kcc28, kcc108, kcc109] kcc110 (fun pc => sm_ch sm_t19 pc, sm_Kn 2 6 none, fun x => sm_lk sm_ca2 x, some .int) [24, 29, 30, 31] 6 0 [] [] 2000 [] = true := by decide +kernel
/-- MiceRegisters.readLine -/
def kcc111 : ak_C := (17, [.inl 0, .inl 11, .inr (false, [(-1, 60)]), .inr (false, [(6, 6)])], kch29, [24, 25, 26], [([[], [], [], []], some (.inr (false, [(-1, 60)])), kch26), ([[], [], [(1, 60)], []], some (.inr (false, [(-9, -9)])), kch28)])
theorem kck111 : ai_chk [kcc26] kcc111 (fun pc => sm_ch sm_t17 pc, sm_Kn 2 6 none, fun x => sm_lk sm_ca2 x, some .int) [24, 25, 26] 6 4 [29] [] 2000 [(29, [(0, .inl 0), (1, .inl 11), (2, .inr (false, [(-1, 60)])), (3, .inr (false, [(6, 6)])), (4, .inr (false, [(7, 7)]))], [], kch31),
  (29, [(0, .inl 0), (1, .inl 11), (2, .inr (false, [(1, 60)])), (3, .inr (false, [(6, 6)])), (4, .inr (false, [(8, 8)])), (5, .inr (false, [(-9, -9)]))], [], kch31),
  (29, [(0, .inl 0), (1, .inl 11), (2, .inr (false, [(1, 60)])), (3, .inr (false, [(6, 6)])), (4, .inr (false, [(9, 9)])), (5, .inr (false, [(-9, -9)]))], [], kch31),
  (29, [(0, .inl 0), (1, .inl 11), (2, .inr (false, [(1, 60)])), (3, .inr (false, [(6, 6)])), (4, .inr (false, [(10, 10)])), (5, .inr (false, [(-9, -9)]))], [], kch31)] = true := by decide +kernel
def kcx96 : aw_A := .inr (.inl (1, 60, [], [(7, [(48, 55)])]))
def kch97 : aw_H := [(11, kcx96)]
/-- MiceRegisters.faultOfFigure -/
def kcc112 : ak_C := (18, [.inl 11, .inr (false, [(-1, 60)]), .inr (false, [(7, 7)]), .inr (false, [(0, 0)]), .inr (false, [(0, 7)])], kch24, [], [([], some (.inr (false, [(-9, -9)])), kch97), ([], some (.inr (false, [(-1, 63)])), [])])
def kcx98 : aw_A := .inr (.inl (1, 60, [], [(8, [(49, 57)]), (7, [(48, 55)])]))
def kch99 : aw_H := [(11, kcx98)]
/-- MiceRegisters.faultOfFigure -/
def kcc113 : ak_C := (18, [.inl 11, .inr (false, [(-1, 60)]), .inr (false, [(8, 8)]), .inr (false, [(1, 1)]), .inr (false, [(9, 9)])], kch97, [], [([], some (.inr (false, [(-9, -9)])), kch99), ([], some (.inr (false, [(-1, 63)])), [])])
/-- MiceRegisters.readMouse -/
def kcc114 : ak_C := (19, [.inl 0, .inl 11, .inr (false, [(-1, 60)]), .inr (false, [(6, 6)])], kch40, [24, 29, 30, 31], [([], some (.inr (false, [(-1, 63)])), kch37), ([], some (.inr (false, [(-9, -9)])), kch39)])
theorem kck114 : ai_chk [kcc28, kcc112, kcc113] kcc114 (fun pc => sm_ch sm_t19 pc, sm_Kn 2 6 none, fun x => sm_lk sm_ca2 x, some .int) [24, 29, 30, 31] 6 0 [] [] 2000 [] = true := by decide +kernel
/-- MiceRegisters.readLine -/
def kcc115 : ak_C := (17, [.inl 0, .inl 12, .inr (false, [(-1, 60)]), .inr (false, [(6, 6)])], kch41, [24, 25, 26], [([[], [], [], []], some (.inr (false, [(-1, 60)])), kch26), ([[], [], [(1, 60)], []], some (.inr (false, [(-9, -9)])), kch28)])
theorem kck115 : ai_chk [kcc32] kcc115 (fun pc => sm_ch sm_t17 pc, sm_Kn 2 6 none, fun x => sm_lk sm_ca2 x, some .int) [24, 25, 26] 6 4 [29] [] 2000 [(29, [(0, .inl 0), (1, .inl 12), (2, .inr (false, [(-1, 60)])), (3, .inr (false, [(6, 6)])), (4, .inr (false, [(7, 7)]))], [], kch42),
  (29, [(0, .inl 0), (1, .inl 12), (2, .inr (false, [(1, 60)])), (3, .inr (false, [(6, 6)])), (4, .inr (false, [(8, 8)])), (5, .inr (false, [(-9, -9)]))], [], kch42),
  (29, [(0, .inl 0), (1, .inl 12), (2, .inr (false, [(1, 60)])), (3, .inr (false, [(6, 6)])), (4, .inr (false, [(9, 9)])), (5, .inr (false, [(-9, -9)]))], [], kch42),
  (29, [(0, .inl 0), (1, .inl 12), (2, .inr (false, [(1, 60)])), (3, .inr (false, [(6, 6)])), (4, .inr (false, [(10, 10)])), (5, .inr (false, [(-9, -9)]))], [], kch42)] = true := by decide +kernel
def kch100 : aw_H := [(12, kcx96)]
/-- MiceRegisters.faultOfFigure -/
def kcc116 : ak_C := (18, [.inl 12, .inr (false, [(-1, 60)]), .inr (false, [(7, 7)]), .inr (false, [(0, 0)]), .inr (false, [(0, 7)])], kch23, [], [([], some (.inr (false, [(-9, -9)])), kch100), ([], some (.inr (false, [(-1, 63)])), [])])
def kch101 : aw_H := [(12, kcx98)]
/-- MiceRegisters.faultOfFigure -/
def kcc117 : ak_C := (18, [.inl 12, .inr (false, [(-1, 60)]), .inr (false, [(8, 8)]), .inr (false, [(1, 1)]), .inr (false, [(9, 9)])], kch100, [], [([], some (.inr (false, [(-9, -9)])), kch101), ([], some (.inr (false, [(-1, 63)])), [])])
/-- MiceRegisters.readMouse -/
def kcc118 : ak_C := (19, [.inl 0, .inl 12, .inr (false, [(-1, 60)]), .inr (false, [(6, 6)])], kch45, [24, 29, 30, 31], [([], some (.inr (false, [(-1, 63)])), kch37), ([], some (.inr (false, [(-9, -9)])), kch39)])
theorem kck118 : ai_chk [kcc28, kcc116, kcc117] kcc118 (fun pc => sm_ch sm_t19 pc, sm_Kn 2 6 none, fun x => sm_lk sm_ca2 x, some .int) [24, 29, 30, 31] 6 0 [] [] 2000 [] = true := by decide +kernel
/-- MiceRegisters.readLine -/
def kcc119 : ak_C := (17, [.inl 0, .inl 13, .inr (false, [(-1, 60)]), .inr (false, [(6, 6)])], kch46, [24, 25, 26], [([[], [], [], []], some (.inr (false, [(-1, 60)])), kch26), ([[], [], [(1, 60)], []], some (.inr (false, [(-9, -9)])), kch28)])
theorem kck119 : ai_chk [kcc37] kcc119 (fun pc => sm_ch sm_t17 pc, sm_Kn 2 6 none, fun x => sm_lk sm_ca2 x, some .int) [24, 25, 26] 6 4 [29] [] 2000 [(29, [(0, .inl 0), (1, .inl 13), (2, .inr (false, [(-1, 60)])), (3, .inr (false, [(6, 6)])), (4, .inr (false, [(7, 7)]))], [], kch47),
  (29, [(0, .inl 0), (1, .inl 13), (2, .inr (false, [(1, 60)])), (3, .inr (false, [(6, 6)])), (4, .inr (false, [(8, 8)])), (5, .inr (false, [(-9, -9)]))], [], kch47),
  (29, [(0, .inl 0), (1, .inl 13), (2, .inr (false, [(1, 60)])), (3, .inr (false, [(6, 6)])), (4, .inr (false, [(9, 9)])), (5, .inr (false, [(-9, -9)]))], [], kch47),
  (29, [(0, .inl 0), (1, .inl 13), (2, .inr (false, [(1, 60)])), (3, .inr (false, [(6, 6)])), (4, .inr (false, [(10, 10)])), (5, .inr (false, [(-9, -9)]))], [], kch47)] = true := by decide +kernel
def kch102 : aw_H := [(13, kcx96)]
/-- MiceRegisters.faultOfFigure -/
def kcc120 : ak_C := (18, [.inl 13, .inr (false, [(-1, 60)]), .inr (false, [(7, 7)]), .inr (false, [(0, 0)]), .inr (false, [(0, 7)])], kch22, [], [([], some (.inr (false, [(-9, -9)])), kch102), ([], some (.inr (false, [(-1, 63)])), [])])
def kch103 : aw_H := [(13, kcx98)]
/-- MiceRegisters.faultOfFigure -/
def kcc121 : ak_C := (18, [.inl 13, .inr (false, [(-1, 60)]), .inr (false, [(8, 8)]), .inr (false, [(1, 1)]), .inr (false, [(9, 9)])], kch102, [], [([], some (.inr (false, [(-9, -9)])), kch103), ([], some (.inr (false, [(-1, 63)])), [])])
/-- MiceRegisters.readMouse -/
def kcc122 : ak_C := (19, [.inl 0, .inl 13, .inr (false, [(-1, 60)]), .inr (false, [(6, 6)])], kch50, [24, 29, 30, 31], [([], some (.inr (false, [(-1, 63)])), kch37), ([], some (.inr (false, [(-9, -9)])), kch39)])
theorem kck122 : ai_chk [kcc28, kcc120, kcc121] kcc122 (fun pc => sm_ch sm_t19 pc, sm_Kn 2 6 none, fun x => sm_lk sm_ca2 x, some .int) [24, 29, 30, 31] 6 0 [] [] 2000 [] = true := by decide +kernel
/-- MiceRegisters.readLine -/
def kcc123 : ak_C := (17, [.inl 0, .inl 14, .inr (false, [(-1, 60)]), .inr (false, [(6, 6)])], kch51, [24, 25, 26], [([[], [], [], []], some (.inr (false, [(-1, 60)])), kch26), ([[], [], [(1, 60)], []], some (.inr (false, [(-9, -9)])), kch28)])
theorem kck123 : ai_chk [kcc42] kcc123 (fun pc => sm_ch sm_t17 pc, sm_Kn 2 6 none, fun x => sm_lk sm_ca2 x, some .int) [24, 25, 26] 6 4 [29] [] 2000 [(29, [(0, .inl 0), (1, .inl 14), (2, .inr (false, [(-1, 60)])), (3, .inr (false, [(6, 6)])), (4, .inr (false, [(7, 7)]))], [], kch52),
  (29, [(0, .inl 0), (1, .inl 14), (2, .inr (false, [(1, 60)])), (3, .inr (false, [(6, 6)])), (4, .inr (false, [(8, 8)])), (5, .inr (false, [(-9, -9)]))], [], kch52),
  (29, [(0, .inl 0), (1, .inl 14), (2, .inr (false, [(1, 60)])), (3, .inr (false, [(6, 6)])), (4, .inr (false, [(9, 9)])), (5, .inr (false, [(-9, -9)]))], [], kch52),
  (29, [(0, .inl 0), (1, .inl 14), (2, .inr (false, [(1, 60)])), (3, .inr (false, [(6, 6)])), (4, .inr (false, [(10, 10)])), (5, .inr (false, [(-9, -9)]))], [], kch52)] = true := by decide +kernel
def kch104 : aw_H := [(14, kcx96)]
/-- MiceRegisters.faultOfFigure -/
def kcc124 : ak_C := (18, [.inl 14, .inr (false, [(-1, 60)]), .inr (false, [(7, 7)]), .inr (false, [(0, 0)]), .inr (false, [(0, 7)])], kch21, [], [([], some (.inr (false, [(-9, -9)])), kch104), ([], some (.inr (false, [(-1, 63)])), [])])
def kch105 : aw_H := [(14, kcx98)]
/-- MiceRegisters.faultOfFigure -/
def kcc125 : ak_C := (18, [.inl 14, .inr (false, [(-1, 60)]), .inr (false, [(8, 8)]), .inr (false, [(1, 1)]), .inr (false, [(9, 9)])], kch104, [], [([], some (.inr (false, [(-9, -9)])), kch105), ([], some (.inr (false, [(-1, 63)])), [])])
/-- MiceRegisters.readMouse -/
def kcc126 : ak_C := (19, [.inl 0, .inl 14, .inr (false, [(-1, 60)]), .inr (false, [(6, 6)])], kch55, [24, 29, 30, 31], [([], some (.inr (false, [(-1, 63)])), kch37), ([], some (.inr (false, [(-9, -9)])), kch39)])
theorem kck126 : ai_chk [kcc28, kcc124, kcc125] kcc126 (fun pc => sm_ch sm_t19 pc, sm_Kn 2 6 none, fun x => sm_lk sm_ca2 x, some .int) [24, 29, 30, 31] 6 0 [] [] 2000 [] = true := by decide +kernel
/-- MiceRegisters.readLine -/
def kcc127 : ak_C := (17, [.inl 0, .inl 11, .inr (false, [(-1, 60)]), .inr (false, [(7, 7)])], kch29, [24, 25, 26], [([[], [], [], []], some (.inr (false, [(-1, 60)])), kch26), ([[], [], [(1, 60)], []], some (.inr (false, [(-9, -9)])), kch28)])
theorem kck127 : ai_chk [kcc26] kcc127 (fun pc => sm_ch sm_t17 pc, sm_Kn 2 6 none, fun x => sm_lk sm_ca2 x, some .int) [24, 25, 26] 6 4 [29] [] 2000 [(29, [(0, .inl 0), (1, .inl 11), (2, .inr (false, [(-1, 60)])), (3, .inr (false, [(7, 7)])), (4, .inr (false, [(8, 8)]))], [], kch31),
  (29, [(0, .inl 0), (1, .inl 11), (2, .inr (false, [(1, 60)])), (3, .inr (false, [(7, 7)])), (4, .inr (false, [(9, 9)])), (5, .inr (false, [(-9, -9)]))], [], kch31),
  (29, [(0, .inl 0), (1, .inl 11), (2, .inr (false, [(1, 60)])), (3, .inr (false, [(7, 7)])), (4, .inr (false, [(10, 10)])), (5, .inr (false, [(-9, -9)]))], [], kch31),
  (29, [(0, .inl 0), (1, .inl 11), (2, .inr (false, [(1, 60)])), (3, .inr (false, [(7, 7)])), (4, .inr (false, [(11, 11)])), (5, .inr (false, [(-9, -9)]))], [], kch31)] = true := by decide +kernel
def kcx106 : aw_A := .inr (.inl (1, 60, [], [(8, [(48, 55)])]))
def kch107 : aw_H := [(11, kcx106)]
/-- MiceRegisters.faultOfFigure -/
def kcc128 : ak_C := (18, [.inl 11, .inr (false, [(-1, 60)]), .inr (false, [(8, 8)]), .inr (false, [(0, 0)]), .inr (false, [(0, 7)])], kch24, [], [([], some (.inr (false, [(-9, -9)])), kch107), ([], some (.inr (false, [(-1, 63)])), [])])
def kcx108 : aw_A := .inr (.inl (1, 60, [], [(9, [(49, 57)]), (8, [(48, 55)])]))
def kch109 : aw_H := [(11, kcx108)]
/-- MiceRegisters.faultOfFigure -/
def kcc129 : ak_C := (18, [.inl 11, .inr (false, [(-1, 60)]), .inr (false, [(9, 9)]), .inr (false, [(1, 1)]), .inr (false, [(9, 9)])], kch107, [], [([], some (.inr (false, [(-9, -9)])), kch109), ([], some (.inr (false, [(-1, 63)])), [])])
/-- MiceRegisters.readMouse -/
def kcc130 : ak_C := (19, [.inl 0, .inl 11, .inr (false, [(-1, 60)]), .inr (false, [(7, 7)])], kch40, [24, 29, 30, 31], [([], some (.inr (false, [(-1, 63)])), kch37), ([], some (.inr (false, [(-9, -9)])), kch39)])
theorem kck130 : ai_chk [kcc28, kcc128, kcc129] kcc130 (fun pc => sm_ch sm_t19 pc, sm_Kn 2 6 none, fun x => sm_lk sm_ca2 x, some .int) [24, 29, 30, 31] 6 0 [] [] 2000 [] = true := by decide +kernel
/-- MiceRegisters.readLine -/
def kcc131 : ak_C := (17, [.inl 0, .inl 12, .inr (false, [(-1, 60)]), .inr (false, [(7, 7)])], kch41, [24, 25, 26], [([[], [], [], []], some (.inr (false, [(-1, 60)])), kch26), ([[], [], [(1, 60)], []], some (.inr (false, [(-9, -9)])), kch28)])
theorem kck131 : ai_chk [kcc32] kcc131 (fun pc => sm_ch sm_t17 pc, sm_Kn 2 6 none, fun x => sm_lk sm_ca2 x, some .int) [24, 25, 26] 6 4 [29] [] 2000 [(29, [(0, .inl 0), (1, .inl 12), (2, .inr (false, [(-1, 60)])), (3, .inr (false, [(7, 7)])), (4, .inr (false, [(8, 8)]))], [], kch42),
  (29, [(0, .inl 0), (1, .inl 12), (2, .inr (false, [(1, 60)])), (3, .inr (false, [(7, 7)])), (4, .inr (false, [(9, 9)])), (5, .inr (false, [(-9, -9)]))], [], kch42),
  (29, [(0, .inl 0), (1, .inl 12), (2, .inr (false, [(1, 60)])), (3, .inr (false, [(7, 7)])), (4, .inr (false, [(10, 10)])), (5, .inr (false, [(-9, -9)]))], [], kch42),
  (29, [(0, .inl 0), (1, .inl 12), (2, .inr (false, [(1, 60)])), (3, .inr (false, [(7, 7)])), (4, .inr (false, [(11, 11)])), (5, .inr (false, [(-9, -9)]))], [], kch42)] = true := by decide +kernel
def kch110 : aw_H := [(12, kcx106)]
/-- MiceRegisters.faultOfFigure -/
def kcc132 : ak_C := (18, [.inl 12, .inr (false, [(-1, 60)]), .inr (false, [(8, 8)]), .inr (false, [(0, 0)]), .inr (false, [(0, 7)])], kch23, [], [([], some (.inr (false, [(-9, -9)])), kch110), ([], some (.inr (false, [(-1, 63)])), [])])
def kch111 : aw_H := [(12, kcx108)]
/-- MiceRegisters.faultOfFigure -/
def kcc133 : ak_C := (18, [.inl 12, .inr (false, [(-1, 60)]), .inr (false, [(9, 9)]), .inr (false, [(1, 1)]), .inr (false, [(9, 9)])], kch110, [], [([], some (.inr (false, [(-9, -9)])), kch111), ([], some (.inr (false, [(-1, 63)])), [])])
/-- MiceRegisters.readMouse -/
def kcc134 : ak_C := (19, [.inl 0, .inl 12, .inr (false, [(-1, 60)]), .inr (false, [(7, 7)])], kch45, [24, 29, 30, 31], [([], some (.inr (false, [(-1, 63)])), kch37), ([], some (.inr (false, [(-9, -9)])), kch39)])
theorem kck134 : ai_chk [kcc28, kcc132, kcc133] kcc134 (fun pc => sm_ch sm_t19 pc, sm_Kn 2 6 none, fun x => sm_lk sm_ca2 x, some .int) [24, 29, 30, 31] 6 0 [] [] 2000 [] = true := by decide +kernel
