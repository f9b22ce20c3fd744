/-! Contracts over ranges of the class, and their checks; printed by a program of mine. -/
def kch19 : aw_H := [(0, kcx0), (11, .inr (.inl (1, 60, [], []))), (12, .inr (.inl (1, 60, [], []))), (13, .inr (.inl (1, 60, [], []))), (14, .inr (.inl (1, 60, [], []))), (80, .inr (.inl (0, 6, [], [])))]
def kch20 : aw_H := [(0, kcx2), (11, .inr (.inl (1, 60, [], []))), (12, .inr (.inl (1, 60, [], []))), (13, .inr (.inl (1, 60, [], []))), (14, .inr (.inl (1, 60, [], []))), (80, .inr (.inl (0, 6, [], [])))]
/-- MiceRegisters.put -/
def kcc21 : ak_C := (13, [.inl 0, .inr (false, ar_t32), .inr (false, ar_t32), .inr (false, ar_t32)], kch18, [0, 11, 12, 13, 14, 80], [([[], [(0, 3)], [], []], some (.inr (false, [(-3, -3)])), kch19), ([[], [(0, 3)], [(0, 59)], []], some (.inr (false, ar_t32)), kch20), ([[], [(-2147483648, -1), (4, 2147483647)], [], []], some (.inr (false, [(-1, -1)])), kch20)])
theorem kck21 : ai_chk [kcc19, kcc11] kcc21 (fun pc => sm_ch sm_t13 pc, sm_Kn 2 5 none, fun x => sm_lk sm_ca2 x, some .int) [0, 11, 12, 13, 14, 80] 5 4 [] [] 2000 [] = true := by decide +kernel
/-- MiceRegisters.behindBlanks -/
def kch21 : aw_H := [(14, .inr (.inl (1, 60, [], [])))]
def kcc22 : ak_C := (16, [.inl 14, .inr (false, [(-1, 60)])], kch21, [], [([[], []], some (.inr (false, [(0, 0)])), []), ([[], [(1, 60)]], some (.inr (false, [(1, 60)])), [])])
theorem kck22 : ai_chk [] kcc22 (fun pc => sm_ch sm_t16 pc, sm_Kn 2 3 none, fun x => sm_lk sm_ca2 x, some .int) [] 3 2 [2] [] 2000 [(2, [(0, .inl 14), (1, .inr (false, [(-1, 60)])), (2, .inr (false, [(0, 0)]))], [], kch21),
  (2, [(0, .inl 14), (1, .inr (false, [(1, 60)])), (2, .inr (false, [(1, 1)]))], [], kch21),
  (2, [(0, .inl 14), (1, .inr (false, [(2, 60)])), (2, .inr (false, [(2, 2)]))], [], kch21),
  (2, [(0, .inl 14), (1, .inr (false, [(3, 60)])), (2, .inr (false, [(3, 3)]))], [], kch21),
  (2, [(0, .inl 14), (1, .inr (false, [(4, 60)])), (2, .inr (false, [(4, 4)]))], [], kch21),
  (2, [(0, .inl 14), (1, .inr (false, [(5, 60)])), (2, .inr (false, [(5, 5)]))], [], kch21),
  (2, [(0, .inl 14), (1, .inr (false, [(6, 60)])), (2, .inr (false, [(6, 6)]))], [], kch21),
  (2, [(0, .inl 14), (1, .inr (false, [(7, 60)])), (2, .inr (false, [(7, 7)]))], [], kch21),
  (2, [(0, .inl 14), (1, .inr (false, [(8, 60)])), (2, .inr (false, [(8, 8)]))], [], kch21),
  (2, [(0, .inl 14), (1, .inr (false, [(9, 60)])), (2, .inr (false, [(9, 9)]))], [], kch21),
  (2, [(0, .inl 14), (1, .inr (false, [(10, 60)])), (2, .inr (false, [(10, 10)]))], [], kch21),
  (2, [(0, .inl 14), (1, .inr (false, [(11, 60)])), (2, .inr (false, [(11, 11)]))], [], kch21),
  (2, [(0, .inl 14), (1, .inr (false, [(12, 60)])), (2, .inr (false, [(12, 12)]))], [], kch21),
  (2, [(0, .inl 14), (1, .inr (false, [(13, 60)])), (2, .inr (false, [(13, 13)]))], [], kch21),
  (2, [(0, .inl 14), (1, .inr (false, [(14, 60)])), (2, .inr (false, [(14, 14)]))], [], kch21),
  (2, [(0, .inl 14), (1, .inr (false, [(15, 60)])), (2, .inr (false, [(15, 15)]))], [], kch21),
  (2, [(0, .inl 14), (1, .inr (false, [(16, 60)])), (2, .inr (false, [(16, 16)]))], [], kch21),
  (2, [(0, .inl 14), (1, .inr (false, [(17, 60)])), (2, .inr (false, [(17, 17)]))], [], kch21),
  (2, [(0, .inl 14), (1, .inr (false, [(18, 60)])), (2, .inr (false, [(18, 18)]))], [], kch21),
  (2, [(0, .inl 14), (1, .inr (false, [(19, 60)])), (2, .inr (false, [(19, 19)]))], [], kch21),
  (2, [(0, .inl 14), (1, .inr (false, [(20, 60)])), (2, .inr (false, [(20, 20)]))], [], kch21),
  (2, [(0, .inl 14), (1, .inr (false, [(21, 60)])), (2, .inr (false, [(21, 21)]))], [], kch21),
  (2, [(0, .inl 14), (1, .inr (false, [(22, 60)])), (2, .inr (false, [(22, 22)]))], [], kch21),
  (2, [(0, .inl 14), (1, .inr (false, [(23, 60)])), (2, .inr (false, [(23, 23)]))], [], kch21),
  (2, [(0, .inl 14), (1, .inr (false, [(24, 60)])), (2, .inr (false, [(24, 24)]))], [], kch21),
  (2, [(0, .inl 14), (1, .inr (false, [(25, 60)])), (2, .inr (false, [(25, 25)]))], [], kch21),
  (2, [(0, .inl 14), (1, .inr (false, [(26, 60)])), (2, .inr (false, [(26, 26)]))], [], kch21),
  (2, [(0, .inl 14), (1, .inr (false, [(27, 60)])), (2, .inr (false, [(27, 27)]))], [], kch21),
  (2, [(0, .inl 14), (1, .inr (false, [(28, 60)])), (2, .inr (false, [(28, 28)]))], [], kch21),
  (2, [(0, .inl 14), (1, .inr (false, [(29, 60)])), (2, .inr (false, [(29, 29)]))], [], kch21),
  (2, [(0, .inl 14), (1, .inr (false, [(30, 60)])), (2, .inr (false, [(30, 30)]))], [], kch21),
  (2, [(0, .inl 14), (1, .inr (false, [(31, 60)])), (2, .inr (false, [(31, 31)]))], [], kch21),
  (2, [(0, .inl 14), (1, .inr (false, [(32, 60)])), (2, .inr (false, [(32, 32)]))], [], kch21),
  (2, [(0, .inl 14), (1, .inr (false, [(33, 60)])), (2, .inr (false, [(33, 33)]))], [], kch21),
  (2, [(0, .inl 14), (1, .inr (false, [(34, 60)])), (2, .inr (false, [(34, 34)]))], [], kch21),
  (2, [(0, .inl 14), (1, .inr (false, [(35, 60)])), (2, .inr (false, [(35, 35)]))], [], kch21),
  (2, [(0, .inl 14), (1, .inr (false, [(36, 60)])), (2, .inr (false, [(36, 36)]))], [], kch21),
  (2, [(0, .inl 14), (1, .inr (false, [(37, 60)])), (2, .inr (false, [(37, 37)]))], [], kch21),
  (2, [(0, .inl 14), (1, .inr (false, [(38, 60)])), (2, .inr (false, [(38, 38)]))], [], kch21),
  (2, [(0, .inl 14), (1, .inr (false, [(39, 60)])), (2, .inr (false, [(39, 39)]))], [], kch21),
  (2, [(0, .inl 14), (1, .inr (false, [(40, 60)])), (2, .inr (false, [(40, 40)]))], [], kch21),
  (2, [(0, .inl 14), (1, .inr (false, [(41, 60)])), (2, .inr (false, [(41, 41)]))], [], kch21),
  (2, [(0, .inl 14), (1, .inr (false, [(42, 60)])), (2, .inr (false, [(42, 42)]))], [], kch21),
  (2, [(0, .inl 14), (1, .inr (false, [(43, 60)])), (2, .inr (false, [(43, 43)]))], [], kch21),
  (2, [(0, .inl 14), (1, .inr (false, [(44, 60)])), (2, .inr (false, [(44, 44)]))], [], kch21),
  (2, [(0, .inl 14), (1, .inr (false, [(45, 60)])), (2, .inr (false, [(45, 45)]))], [], kch21),
  (2, [(0, .inl 14), (1, .inr (false, [(46, 60)])), (2, .inr (false, [(46, 46)]))], [], kch21),
  (2, [(0, .inl 14), (1, .inr (false, [(47, 60)])), (2, .inr (false, [(47, 47)]))], [], kch21),
  (2, [(0, .inl 14), (1, .inr (false, [(48, 60)])), (2, .inr (false, [(48, 48)]))], [], kch21),
  (2, [(0, .inl 14), (1, .inr (false, [(49, 60)])), (2, .inr (false, [(49, 49)]))], [], kch21),
  (2, [(0, .inl 14), (1, .inr (false, [(50, 60)])), (2, .inr (false, [(50, 50)]))], [], kch21),
  (2, [(0, .inl 14), (1, .inr (false, [(51, 60)])), (2, .inr (false, [(51, 51)]))], [], kch21),
  (2, [(0, .inl 14), (1, .inr (false, [(52, 60)])), (2, .inr (false, [(52, 52)]))], [], kch21),
  (2, [(0, .inl 14), (1, .inr (false, [(53, 60)])), (2, .inr (false, [(53, 53)]))], [], kch21),
  (2, [(0, .inl 14), (1, .inr (false, [(54, 60)])), (2, .inr (false, [(54, 54)]))], [], kch21),
  (2, [(0, .inl 14), (1, .inr (false, [(55, 60)])), (2, .inr (false, [(55, 55)]))], [], kch21),
  (2, [(0, .inl 14), (1, .inr (false, [(56, 60)])), (2, .inr (false, [(56, 56)]))], [], kch21),
  (2, [(0, .inl 14), (1, .inr (false, [(57, 60)])), (2, .inr (false, [(57, 57)]))], [], kch21),
  (2, [(0, .inl 14), (1, .inr (false, [(58, 60)])), (2, .inr (false, [(58, 58)]))], [], kch21),
  (2, [(0, .inl 14), (1, .inr (false, [(59, 60)])), (2, .inr (false, [(59, 59)]))], [], kch21),
  (2, [(0, .inl 14), (1, .inr (false, [(60, 60)])), (2, .inr (false, [(60, 60)]))], [], kch21)] = true := by decide +kernel
/-- MiceRegisters.behindBlanks -/
def kch22 : aw_H := [(13, .inr (.inl (1, 60, [], [])))]
def kcc23 : ak_C := (16, [.inl 13, .inr (false, [(-1, 60)])], kch22, [], [([[], []], some (.inr (false, [(0, 0)])), []), ([[], [(1, 60)]], some (.inr (false, [(1, 60)])), [])])
theorem kck23 : ai_chk [] kcc23 (fun pc => sm_ch sm_t16 pc, sm_Kn 2 3 none, fun x => sm_lk sm_ca2 x, some .int) [] 3 2 [2] [] 2000 [(2, [(0, .inl 13), (1, .inr (false, [(-1, 60)])), (2, .inr (false, [(0, 0)]))], [], kch22),
  (2, [(0, .inl 13), (1, .inr (false, [(1, 60)])), (2, .inr (false, [(1, 1)]))], [], kch22),
  (2, [(0, .inl 13), (1, .inr (false, [(2, 60)])), (2, .inr (false, [(2, 2)]))], [], kch22),
  (2, [(0, .inl 13), (1, .inr (false, [(3, 60)])), (2, .inr (false, [(3, 3)]))], [], kch22),
  (2, [(0, .inl 13), (1, .inr (false, [(4, 60)])), (2, .inr (false, [(4, 4)]))], [], kch22),
  (2, [(0, .inl 13), (1, .inr (false, [(5, 60)])), (2, .inr (false, [(5, 5)]))], [], kch22),
  (2, [(0, .inl 13), (1, .inr (false, [(6, 60)])), (2, .inr (false, [(6, 6)]))], [], kch22),
  (2, [(0, .inl 13), (1, .inr (false, [(7, 60)])), (2, .inr (false, [(7, 7)]))], [], kch22),
  (2, [(0, .inl 13), (1, .inr (false, [(8, 60)])), (2, .inr (false, [(8, 8)]))], [], kch22),
  (2, [(0, .inl 13), (1, .inr (false, [(9, 60)])), (2, .inr (false, [(9, 9)]))], [], kch22),
  (2, [(0, .inl 13), (1, .inr (false, [(10, 60)])), (2, .inr (false, [(10, 10)]))], [], kch22),
  (2, [(0, .inl 13), (1, .inr (false, [(11, 60)])), (2, .inr (false, [(11, 11)]))], [], kch22),
  (2, [(0, .inl 13), (1, .inr (false, [(12, 60)])), (2, .inr (false, [(12, 12)]))], [], kch22),
  (2, [(0, .inl 13), (1, .inr (false, [(13, 60)])), (2, .inr (false, [(13, 13)]))], [], kch22),
  (2, [(0, .inl 13), (1, .inr (false, [(14, 60)])), (2, .inr (false, [(14, 14)]))], [], kch22),
  (2, [(0, .inl 13), (1, .inr (false, [(15, 60)])), (2, .inr (false, [(15, 15)]))], [], kch22),
  (2, [(0, .inl 13), (1, .inr (false, [(16, 60)])), (2, .inr (false, [(16, 16)]))], [], kch22),
  (2, [(0, .inl 13), (1, .inr (false, [(17, 60)])), (2, .inr (false, [(17, 17)]))], [], kch22),
  (2, [(0, .inl 13), (1, .inr (false, [(18, 60)])), (2, .inr (false, [(18, 18)]))], [], kch22),
  (2, [(0, .inl 13), (1, .inr (false, [(19, 60)])), (2, .inr (false, [(19, 19)]))], [], kch22),
  (2, [(0, .inl 13), (1, .inr (false, [(20, 60)])), (2, .inr (false, [(20, 20)]))], [], kch22),
  (2, [(0, .inl 13), (1, .inr (false, [(21, 60)])), (2, .inr (false, [(21, 21)]))], [], kch22),
  (2, [(0, .inl 13), (1, .inr (false, [(22, 60)])), (2, .inr (false, [(22, 22)]))], [], kch22),
  (2, [(0, .inl 13), (1, .inr (false, [(23, 60)])), (2, .inr (false, [(23, 23)]))], [], kch22),
  (2, [(0, .inl 13), (1, .inr (false, [(24, 60)])), (2, .inr (false, [(24, 24)]))], [], kch22),
  (2, [(0, .inl 13), (1, .inr (false, [(25, 60)])), (2, .inr (false, [(25, 25)]))], [], kch22),
  (2, [(0, .inl 13), (1, .inr (false, [(26, 60)])), (2, .inr (false, [(26, 26)]))], [], kch22),
  (2, [(0, .inl 13), (1, .inr (false, [(27, 60)])), (2, .inr (false, [(27, 27)]))], [], kch22),
  (2, [(0, .inl 13), (1, .inr (false, [(28, 60)])), (2, .inr (false, [(28, 28)]))], [], kch22),
  (2, [(0, .inl 13), (1, .inr (false, [(29, 60)])), (2, .inr (false, [(29, 29)]))], [], kch22),
  (2, [(0, .inl 13), (1, .inr (false, [(30, 60)])), (2, .inr (false, [(30, 30)]))], [], kch22),
  (2, [(0, .inl 13), (1, .inr (false, [(31, 60)])), (2, .inr (false, [(31, 31)]))], [], kch22),
  (2, [(0, .inl 13), (1, .inr (false, [(32, 60)])), (2, .inr (false, [(32, 32)]))], [], kch22),
  (2, [(0, .inl 13), (1, .inr (false, [(33, 60)])), (2, .inr (false, [(33, 33)]))], [], kch22),
  (2, [(0, .inl 13), (1, .inr (false, [(34, 60)])), (2, .inr (false, [(34, 34)]))], [], kch22),
  (2, [(0, .inl 13), (1, .inr (false, [(35, 60)])), (2, .inr (false, [(35, 35)]))], [], kch22),
  (2, [(0, .inl 13), (1, .inr (false, [(36, 60)])), (2, .inr (false, [(36, 36)]))], [], kch22),
  (2, [(0, .inl 13), (1, .inr (false, [(37, 60)])), (2, .inr (false, [(37, 37)]))], [], kch22),
  (2, [(0, .inl 13), (1, .inr (false, [(38, 60)])), (2, .inr (false, [(38, 38)]))], [], kch22),
  (2, [(0, .inl 13), (1, .inr (false, [(39, 60)])), (2, .inr (false, [(39, 39)]))], [], kch22),
  (2, [(0, .inl 13), (1, .inr (false, [(40, 60)])), (2, .inr (false, [(40, 40)]))], [], kch22),
  (2, [(0, .inl 13), (1, .inr (false, [(41, 60)])), (2, .inr (false, [(41, 41)]))], [], kch22),
  (2, [(0, .inl 13), (1, .inr (false, [(42, 60)])), (2, .inr (false, [(42, 42)]))], [], kch22),
  (2, [(0, .inl 13), (1, .inr (false, [(43, 60)])), (2, .inr (false, [(43, 43)]))], [], kch22),
  (2, [(0, .inl 13), (1, .inr (false, [(44, 60)])), (2, .inr (false, [(44, 44)]))], [], kch22),
  (2, [(0, .inl 13), (1, .inr (false, [(45, 60)])), (2, .inr (false, [(45, 45)]))], [], kch22),
  (2, [(0, .inl 13), (1, .inr (false, [(46, 60)])), (2, .inr (false, [(46, 46)]))], [], kch22),
  (2, [(0, .inl 13), (1, .inr (false, [(47, 60)])), (2, .inr (false, [(47, 47)]))], [], kch22),
  (2, [(0, .inl 13), (1, .inr (false, [(48, 60)])), (2, .inr (false, [(48, 48)]))], [], kch22),
  (2, [(0, .inl 13), (1, .inr (false, [(49, 60)])), (2, .inr (false, [(49, 49)]))], [], kch22),
  (2, [(0, .inl 13), (1, .inr (false, [(50, 60)])), (2, .inr (false, [(50, 50)]))], [], kch22),
  (2, [(0, .inl 13), (1, .inr (false, [(51, 60)])), (2, .inr (false, [(51, 51)]))], [], kch22),
  (2, [(0, .inl 13), (1, .inr (false, [(52, 60)])), (2, .inr (false, [(52, 52)]))], [], kch22),
  (2, [(0, .inl 13), (1, .inr (false, [(53, 60)])), (2, .inr (false, [(53, 53)]))], [], kch22),
  (2, [(0, .inl 13), (1, .inr (false, [(54, 60)])), (2, .inr (false, [(54, 54)]))], [], kch22),
  (2, [(0, .inl 13), (1, .inr (false, [(55, 60)])), (2, .inr (false, [(55, 55)]))], [], kch22),
  (2, [(0, .inl 13), (1, .inr (false, [(56, 60)])), (2, .inr (false, [(56, 56)]))], [], kch22),
  (2, [(0, .inl 13), (1, .inr (false, [(57, 60)])), (2, .inr (false, [(57, 57)]))], [], kch22),
  (2, [(0, .inl 13), (1, .inr (false, [(58, 60)])), (2, .inr (false, [(58, 58)]))], [], kch22),
  (2, [(0, .inl 13), (1, .inr (false, [(59, 60)])), (2, .inr (false, [(59, 59)]))], [], kch22),
  (2, [(0, .inl 13), (1, .inr (false, [(60, 60)])), (2, .inr (false, [(60, 60)]))], [], kch22)] = true := by decide +kernel
/-- MiceRegisters.behindBlanks -/
def kch23 : aw_H := [(12, .inr (.inl (1, 60, [], [])))]
def kcc24 : ak_C := (16, [.inl 12, .inr (false, [(-1, 60)])], kch23, [], [([[], []], some (.inr (false, [(0, 0)])), []), ([[], [(1, 60)]], some (.inr (false, [(1, 60)])), [])])
theorem kck24 : ai_chk [] kcc24 (fun pc => sm_ch sm_t16 pc, sm_Kn 2 3 none, fun x => sm_lk sm_ca2 x, some .int) [] 3 2 [2] [] 2000 [(2, [(0, .inl 12), (1, .inr (false, [(-1, 60)])), (2, .inr (false, [(0, 0)]))], [], kch23),
  (2, [(0, .inl 12), (1, .inr (false, [(1, 60)])), (2, .inr (false, [(1, 1)]))], [], kch23),
  (2, [(0, .inl 12), (1, .inr (false, [(2, 60)])), (2, .inr (false, [(2, 2)]))], [], kch23),
  (2, [(0, .inl 12), (1, .inr (false, [(3, 60)])), (2, .inr (false, [(3, 3)]))], [], kch23),
  (2, [(0, .inl 12), (1, .inr (false, [(4, 60)])), (2, .inr (false, [(4, 4)]))], [], kch23),
  (2, [(0, .inl 12), (1, .inr (false, [(5, 60)])), (2, .inr (false, [(5, 5)]))], [], kch23),
  (2, [(0, .inl 12), (1, .inr (false, [(6, 60)])), (2, .inr (false, [(6, 6)]))], [], kch23),
  (2, [(0, .inl 12), (1, .inr (false, [(7, 60)])), (2, .inr (false, [(7, 7)]))], [], kch23),
  (2, [(0, .inl 12), (1, .inr (false, [(8, 60)])), (2, .inr (false, [(8, 8)]))], [], kch23),
  (2, [(0, .inl 12), (1, .inr (false, [(9, 60)])), (2, .inr (false, [(9, 9)]))], [], kch23),
  (2, [(0, .inl 12), (1, .inr (false, [(10, 60)])), (2, .inr (false, [(10, 10)]))], [], kch23),
  (2, [(0, .inl 12), (1, .inr (false, [(11, 60)])), (2, .inr (false, [(11, 11)]))], [], kch23),
  (2, [(0, .inl 12), (1, .inr (false, [(12, 60)])), (2, .inr (false, [(12, 12)]))], [], kch23),
  (2, [(0, .inl 12), (1, .inr (false, [(13, 60)])), (2, .inr (false, [(13, 13)]))], [], kch23),
  (2, [(0, .inl 12), (1, .inr (false, [(14, 60)])), (2, .inr (false, [(14, 14)]))], [], kch23),
  (2, [(0, .inl 12), (1, .inr (false, [(15, 60)])), (2, .inr (false, [(15, 15)]))], [], kch23),
  (2, [(0, .inl 12), (1, .inr (false, [(16, 60)])), (2, .inr (false, [(16, 16)]))], [], kch23),
  (2, [(0, .inl 12), (1, .inr (false, [(17, 60)])), (2, .inr (false, [(17, 17)]))], [], kch23),
  (2, [(0, .inl 12), (1, .inr (false, [(18, 60)])), (2, .inr (false, [(18, 18)]))], [], kch23),
  (2, [(0, .inl 12), (1, .inr (false, [(19, 60)])), (2, .inr (false, [(19, 19)]))], [], kch23),
  (2, [(0, .inl 12), (1, .inr (false, [(20, 60)])), (2, .inr (false, [(20, 20)]))], [], kch23),
  (2, [(0, .inl 12), (1, .inr (false, [(21, 60)])), (2, .inr (false, [(21, 21)]))], [], kch23),
  (2, [(0, .inl 12), (1, .inr (false, [(22, 60)])), (2, .inr (false, [(22, 22)]))], [], kch23),
  (2, [(0, .inl 12), (1, .inr (false, [(23, 60)])), (2, .inr (false, [(23, 23)]))], [], kch23),
  (2, [(0, .inl 12), (1, .inr (false, [(24, 60)])), (2, .inr (false, [(24, 24)]))], [], kch23),
  (2, [(0, .inl 12), (1, .inr (false, [(25, 60)])), (2, .inr (false, [(25, 25)]))], [], kch23),
  (2, [(0, .inl 12), (1, .inr (false, [(26, 60)])), (2, .inr (false, [(26, 26)]))], [], kch23),
  (2, [(0, .inl 12), (1, .inr (false, [(27, 60)])), (2, .inr (false, [(27, 27)]))], [], kch23),
  (2, [(0, .inl 12), (1, .inr (false, [(28, 60)])), (2, .inr (false, [(28, 28)]))], [], kch23),
  (2, [(0, .inl 12), (1, .inr (false, [(29, 60)])), (2, .inr (false, [(29, 29)]))], [], kch23),
  (2, [(0, .inl 12), (1, .inr (false, [(30, 60)])), (2, .inr (false, [(30, 30)]))], [], kch23),
  (2, [(0, .inl 12), (1, .inr (false, [(31, 60)])), (2, .inr (false, [(31, 31)]))], [], kch23),
  (2, [(0, .inl 12), (1, .inr (false, [(32, 60)])), (2, .inr (false, [(32, 32)]))], [], kch23),
  (2, [(0, .inl 12), (1, .inr (false, [(33, 60)])), (2, .inr (false, [(33, 33)]))], [], kch23),
  (2, [(0, .inl 12), (1, .inr (false, [(34, 60)])), (2, .inr (false, [(34, 34)]))], [], kch23),
  (2, [(0, .inl 12), (1, .inr (false, [(35, 60)])), (2, .inr (false, [(35, 35)]))], [], kch23),
  (2, [(0, .inl 12), (1, .inr (false, [(36, 60)])), (2, .inr (false, [(36, 36)]))], [], kch23),
  (2, [(0, .inl 12), (1, .inr (false, [(37, 60)])), (2, .inr (false, [(37, 37)]))], [], kch23),
  (2, [(0, .inl 12), (1, .inr (false, [(38, 60)])), (2, .inr (false, [(38, 38)]))], [], kch23),
  (2, [(0, .inl 12), (1, .inr (false, [(39, 60)])), (2, .inr (false, [(39, 39)]))], [], kch23),
  (2, [(0, .inl 12), (1, .inr (false, [(40, 60)])), (2, .inr (false, [(40, 40)]))], [], kch23),
  (2, [(0, .inl 12), (1, .inr (false, [(41, 60)])), (2, .inr (false, [(41, 41)]))], [], kch23),
  (2, [(0, .inl 12), (1, .inr (false, [(42, 60)])), (2, .inr (false, [(42, 42)]))], [], kch23),
  (2, [(0, .inl 12), (1, .inr (false, [(43, 60)])), (2, .inr (false, [(43, 43)]))], [], kch23),
  (2, [(0, .inl 12), (1, .inr (false, [(44, 60)])), (2, .inr (false, [(44, 44)]))], [], kch23),
  (2, [(0, .inl 12), (1, .inr (false, [(45, 60)])), (2, .inr (false, [(45, 45)]))], [], kch23),
  (2, [(0, .inl 12), (1, .inr (false, [(46, 60)])), (2, .inr (false, [(46, 46)]))], [], kch23),
  (2, [(0, .inl 12), (1, .inr (false, [(47, 60)])), (2, .inr (false, [(47, 47)]))], [], kch23),
  (2, [(0, .inl 12), (1, .inr (false, [(48, 60)])), (2, .inr (false, [(48, 48)]))], [], kch23),
  (2, [(0, .inl 12), (1, .inr (false, [(49, 60)])), (2, .inr (false, [(49, 49)]))], [], kch23),
  (2, [(0, .inl 12), (1, .inr (false, [(50, 60)])), (2, .inr (false, [(50, 50)]))], [], kch23),
  (2, [(0, .inl 12), (1, .inr (false, [(51, 60)])), (2, .inr (false, [(51, 51)]))], [], kch23),
  (2, [(0, .inl 12), (1, .inr (false, [(52, 60)])), (2, .inr (false, [(52, 52)]))], [], kch23),
  (2, [(0, .inl 12), (1, .inr (false, [(53, 60)])), (2, .inr (false, [(53, 53)]))], [], kch23),
  (2, [(0, .inl 12), (1, .inr (false, [(54, 60)])), (2, .inr (false, [(54, 54)]))], [], kch23),
  (2, [(0, .inl 12), (1, .inr (false, [(55, 60)])), (2, .inr (false, [(55, 55)]))], [], kch23),
  (2, [(0, .inl 12), (1, .inr (false, [(56, 60)])), (2, .inr (false, [(56, 56)]))], [], kch23),
  (2, [(0, .inl 12), (1, .inr (false, [(57, 60)])), (2, .inr (false, [(57, 57)]))], [], kch23),
  (2, [(0, .inl 12), (1, .inr (false, [(58, 60)])), (2, .inr (false, [(58, 58)]))], [], kch23),
  (2, [(0, .inl 12), (1, .inr (false, [(59, 60)])), (2, .inr (false, [(59, 59)]))], [], kch23),
  (2, [(0, .inl 12), (1, .inr (false, [(60, 60)])), (2, .inr (false, [(60, 60)]))], [], kch23)] = true := by decide +kernel
/-- MiceRegisters.behindBlanks -/
def kch24 : aw_H := [(11, .inr (.inl (1, 60, [], [])))]
def kcc25 : ak_C := (16, [.inl 11, .inr (false, [(-1, 60)])], kch24, [], [([[], []], some (.inr (false, [(0, 0)])), []), ([[], [(1, 60)]], some (.inr (false, [(1, 60)])), [])])
theorem kck25 : ai_chk [] kcc25 (fun pc => sm_ch sm_t16 pc, sm_Kn 2 3 none, fun x => sm_lk sm_ca2 x, some .int) [] 3 2 [2] [] 2000 [(2, [(0, .inl 11), (1, .inr (false, [(-1, 60)])), (2, .inr (false, [(0, 0)]))], [], kch24),
  (2, [(0, .inl 11), (1, .inr (false, [(1, 60)])), (2, .inr (false, [(1, 1)]))], [], kch24),
  (2, [(0, .inl 11), (1, .inr (false, [(2, 60)])), (2, .inr (false, [(2, 2)]))], [], kch24),
  (2, [(0, .inl 11), (1, .inr (false, [(3, 60)])), (2, .inr (false, [(3, 3)]))], [], kch24),
  (2, [(0, .inl 11), (1, .inr (false, [(4, 60)])), (2, .inr (false, [(4, 4)]))], [], kch24),
  (2, [(0, .inl 11), (1, .inr (false, [(5, 60)])), (2, .inr (false, [(5, 5)]))], [], kch24),
  (2, [(0, .inl 11), (1, .inr (false, [(6, 60)])), (2, .inr (false, [(6, 6)]))], [], kch24),
  (2, [(0, .inl 11), (1, .inr (false, [(7, 60)])), (2, .inr (false, [(7, 7)]))], [], kch24),
  (2, [(0, .inl 11), (1, .inr (false, [(8, 60)])), (2, .inr (false, [(8, 8)]))], [], kch24),
  (2, [(0, .inl 11), (1, .inr (false, [(9, 60)])), (2, .inr (false, [(9, 9)]))], [], kch24),
  (2, [(0, .inl 11), (1, .inr (false, [(10, 60)])), (2, .inr (false, [(10, 10)]))], [], kch24),
  (2, [(0, .inl 11), (1, .inr (false, [(11, 60)])), (2, .inr (false, [(11, 11)]))], [], kch24),
  (2, [(0, .inl 11), (1, .inr (false, [(12, 60)])), (2, .inr (false, [(12, 12)]))], [], kch24),
  (2, [(0, .inl 11), (1, .inr (false, [(13, 60)])), (2, .inr (false, [(13, 13)]))], [], kch24),
  (2, [(0, .inl 11), (1, .inr (false, [(14, 60)])), (2, .inr (false, [(14, 14)]))], [], kch24),
  (2, [(0, .inl 11), (1, .inr (false, [(15, 60)])), (2, .inr (false, [(15, 15)]))], [], kch24),
  (2, [(0, .inl 11), (1, .inr (false, [(16, 60)])), (2, .inr (false, [(16, 16)]))], [], kch24),
  (2, [(0, .inl 11), (1, .inr (false, [(17, 60)])), (2, .inr (false, [(17, 17)]))], [], kch24),
  (2, [(0, .inl 11), (1, .inr (false, [(18, 60)])), (2, .inr (false, [(18, 18)]))], [], kch24),
  (2, [(0, .inl 11), (1, .inr (false, [(19, 60)])), (2, .inr (false, [(19, 19)]))], [], kch24),
  (2, [(0, .inl 11), (1, .inr (false, [(20, 60)])), (2, .inr (false, [(20, 20)]))], [], kch24),
  (2, [(0, .inl 11), (1, .inr (false, [(21, 60)])), (2, .inr (false, [(21, 21)]))], [], kch24),
  (2, [(0, .inl 11), (1, .inr (false, [(22, 60)])), (2, .inr (false, [(22, 22)]))], [], kch24),
  (2, [(0, .inl 11), (1, .inr (false, [(23, 60)])), (2, .inr (false, [(23, 23)]))], [], kch24),
  (2, [(0, .inl 11), (1, .inr (false, [(24, 60)])), (2, .inr (false, [(24, 24)]))], [], kch24),
  (2, [(0, .inl 11), (1, .inr (false, [(25, 60)])), (2, .inr (false, [(25, 25)]))], [], kch24),
  (2, [(0, .inl 11), (1, .inr (false, [(26, 60)])), (2, .inr (false, [(26, 26)]))], [], kch24),
  (2, [(0, .inl 11), (1, .inr (false, [(27, 60)])), (2, .inr (false, [(27, 27)]))], [], kch24),
  (2, [(0, .inl 11), (1, .inr (false, [(28, 60)])), (2, .inr (false, [(28, 28)]))], [], kch24),
  (2, [(0, .inl 11), (1, .inr (false, [(29, 60)])), (2, .inr (false, [(29, 29)]))], [], kch24),
  (2, [(0, .inl 11), (1, .inr (false, [(30, 60)])), (2, .inr (false, [(30, 30)]))], [], kch24),
  (2, [(0, .inl 11), (1, .inr (false, [(31, 60)])), (2, .inr (false, [(31, 31)]))], [], kch24),
  (2, [(0, .inl 11), (1, .inr (false, [(32, 60)])), (2, .inr (false, [(32, 32)]))], [], kch24),
  (2, [(0, .inl 11), (1, .inr (false, [(33, 60)])), (2, .inr (false, [(33, 33)]))], [], kch24),
  (2, [(0, .inl 11), (1, .inr (false, [(34, 60)])), (2, .inr (false, [(34, 34)]))], [], kch24),
  (2, [(0, .inl 11), (1, .inr (false, [(35, 60)])), (2, .inr (false, [(35, 35)]))], [], kch24),
  (2, [(0, .inl 11), (1, .inr (false, [(36, 60)])), (2, .inr (false, [(36, 36)]))], [], kch24),
  (2, [(0, .inl 11), (1, .inr (false, [(37, 60)])), (2, .inr (false, [(37, 37)]))], [], kch24),
  (2, [(0, .inl 11), (1, .inr (false, [(38, 60)])), (2, .inr (false, [(38, 38)]))], [], kch24),
  (2, [(0, .inl 11), (1, .inr (false, [(39, 60)])), (2, .inr (false, [(39, 39)]))], [], kch24),
  (2, [(0, .inl 11), (1, .inr (false, [(40, 60)])), (2, .inr (false, [(40, 40)]))], [], kch24),
  (2, [(0, .inl 11), (1, .inr (false, [(41, 60)])), (2, .inr (false, [(41, 41)]))], [], kch24),
  (2, [(0, .inl 11), (1, .inr (false, [(42, 60)])), (2, .inr (false, [(42, 42)]))], [], kch24),
  (2, [(0, .inl 11), (1, .inr (false, [(43, 60)])), (2, .inr (false, [(43, 43)]))], [], kch24),
  (2, [(0, .inl 11), (1, .inr (false, [(44, 60)])), (2, .inr (false, [(44, 44)]))], [], kch24),
  (2, [(0, .inl 11), (1, .inr (false, [(45, 60)])), (2, .inr (false, [(45, 45)]))], [], kch24),
  (2, [(0, .inl 11), (1, .inr (false, [(46, 60)])), (2, .inr (false, [(46, 46)]))], [], kch24),
  (2, [(0, .inl 11), (1, .inr (false, [(47, 60)])), (2, .inr (false, [(47, 47)]))], [], kch24),
  (2, [(0, .inl 11), (1, .inr (false, [(48, 60)])), (2, .inr (false, [(48, 48)]))], [], kch24),
  (2, [(0, .inl 11), (1, .inr (false, [(49, 60)])), (2, .inr (false, [(49, 49)]))], [], kch24),
  (2, [(0, .inl 11), (1, .inr (false, [(50, 60)])), (2, .inr (false, [(50, 50)]))], [], kch24),
  (2, [(0, .inl 11), (1, .inr (false, [(51, 60)])), (2, .inr (false, [(51, 51)]))], [], kch24),
  (2, [(0, .inl 11), (1, .inr (false, [(52, 60)])), (2, .inr (false, [(52, 52)]))], [], kch24),
  (2, [(0, .inl 11), (1, .inr (false, [(53, 60)])), (2, .inr (false, [(53, 53)]))], [], kch24),
  (2, [(0, .inl 11), (1, .inr (false, [(54, 60)])), (2, .inr (false, [(54, 54)]))], [], kch24),
  (2, [(0, .inl 11), (1, .inr (false, [(55, 60)])), (2, .inr (false, [(55, 55)]))], [], kch24),
  (2, [(0, .inl 11), (1, .inr (false, [(56, 60)])), (2, .inr (false, [(56, 56)]))], [], kch24),
  (2, [(0, .inl 11), (1, .inr (false, [(57, 60)])), (2, .inr (false, [(57, 57)]))], [], kch24),
  (2, [(0, .inl 11), (1, .inr (false, [(58, 60)])), (2, .inr (false, [(58, 58)]))], [], kch24),
  (2, [(0, .inl 11), (1, .inr (false, [(59, 60)])), (2, .inr (false, [(59, 59)]))], [], kch24),
  (2, [(0, .inl 11), (1, .inr (false, [(60, 60)])), (2, .inr (false, [(60, 60)]))], [], kch24)] = true := by decide +kernel
/-- MiceRegisters.faultOfFigure -/
def kcc26 : ak_C := (18, [.inl 14, .inr (false, [(-1, 60)]), .inr (false, [(0, 63)]), .inr (false, ar_t32), .inr (false, ar_t32)], kch21, [], [([[], [], [], [], []], some (.inr (false, [(-1, 60)])), []), ([[], [(1, 60)], [(0, 59)], [], []], some (.inr (false, [(-9, -9)])), [])])
theorem kck26 : ai_chk [] kcc26 (fun pc => sm_ch sm_t18 pc, sm_Kn 2 6 none, fun x => sm_lk sm_ca2 x, some .int) [] 6 5 [] [] 2000 [] = true := by decide +kernel
/-- MiceRegisters.readLine -/
def kcx25 : aw_A := .inl (1, [.inr (false, [(0, 8)]), .inr (false, [(0, 4)]), .inr (false, ar_t32), .inr (false, ar_t32), .inr (false, ar_t32), .inl 25, .inl 26, .inl 27, .inl 28, .inl 29, .inl 30, .inl 31, .inl 32])
def kch26 : aw_H := [(0, kcx2), (14, .inr (.inl (1, 60, [], []))), (24, kcx25)]
def kcc27 : ak_C := (17, [.inl 0, .inl 14, .inr (false, [(-1, 60)]), .inr (false, [(59, 59)])], kch26, [], [([], some (.inr (false, [(-1, 60)])), [])])
def kcx27 : aw_A := .inl (1, [.inr (false, [(0, 7)]), .inr (false, [(0, 0)]), .inr (false, ar_t32), .inr (false, ar_t32), .inr (false, ar_t32), .inl 25, .inl 26, .inl 27, .inl 28, .inl 29, .inl 30, .inl 31, .inl 32])
def kch28 : aw_H := [(0, kcx2), (14, .inr (.inl (1, 60, [], []))), (24, kcx27)]
theorem kck27 : ai_chk [kcc26] kcc27 (fun pc => sm_ch sm_t17 pc, sm_Kn 2 6 none, fun x => sm_lk sm_ca2 x, some .int) [] 6 0 [29] [] 2000 [(29, [(0, .inl 0), (1, .inl 14), (2, .inr (false, [(-1, 60)])), (3, .inr (false, [(59, 59)])), (4, .inr (false, [(60, 60)]))], [], kch28)] = true := by decide +kernel
/-- MiceRegisters.kindOfLetter -/
def kcc28 : ak_C := (20, [.inr (false, ar_t32)], [], [], [([], some (.inr (false, [(0, 5)])), []), ([], some (.inr (false, [(-9, -9)])), [])])
theorem kck28 : ai_chk [] kcc28 (fun pc => sm_ch sm_t20 pc, sm_Kn 2 2 none, fun x => sm_lk sm_ca2 x, some .int) [] 2 0 [2] [] 2000 [(2, [(0, .inr (false, ar_t32)), (1, .inr (false, [(0, 0)]))], [], []),
  (2, [(0, .inr (false, ar_t32)), (1, .inr (false, [(1, 1)]))], [], []),
  (2, [(0, .inr (false, ar_t32)), (1, .inr (false, [(2, 2)]))], [], []),
  (2, [(0, .inr (false, ar_t32)), (1, .inr (false, [(3, 3)]))], [], []),
  (2, [(0, .inr (false, ar_t32)), (1, .inr (false, [(4, 4)]))], [], []),
  (2, [(0, .inr (false, ar_t32)), (1, .inr (false, [(5, 5)]))], [], []),
  (2, [(0, .inr (false, ar_t32)), (1, .inr (false, [(6, 6)]))], [], [])] = true := by decide +kernel
/-- MiceRegisters.faultOfFigure -/
def kcc29 : ak_C := (18, [.inl 14, .inr (false, [(-1, 60)]), .inr (false, [(60, 60)]), .inr (false, [(0, 0)]), .inr (false, [(0, 7)])], kch21, [], [([], some (.inr (false, [(-1, 63)])), [])])
/-- MiceRegisters.readMouse -/
def kcc30 : ak_C := (19, [.inl 0, .inl 14, .inr (false, [(-1, 60)]), .inr (false, [(59, 59)])], kch26, [], [([], some (.inr (false, [(-1, 63)])), [])])
theorem kck30 : ai_chk [kcc28, kcc29] kcc30 (fun pc => sm_ch sm_t19 pc, sm_Kn 2 6 none, fun x => sm_lk sm_ca2 x, some .int) [] 6 0 [] [] 2000 [] = true := by decide +kernel
/-- MiceRegisters.readLine -/
def kcc31 : ak_C := (17, [.inl 0, .inl 14, .inr (false, [(-1, 60)]), .inr (false, [(58, 58)])], kch26, [], [([], some (.inr (false, [(-1, 60)])), [])])
theorem kck31 : ai_chk [kcc26] kcc31 (fun pc => sm_ch sm_t17 pc, sm_Kn 2 6 none, fun x => sm_lk sm_ca2 x, some .int) [] 6 0 [29] [] 2000 [(29, [(0, .inl 0), (1, .inl 14), (2, .inr (false, [(-1, 60)])), (3, .inr (false, [(58, 58)])), (4, .inr (false, [(59, 59)]))], [], kch28),
  (29, [(0, .inl 0), (1, .inl 14), (2, .inr (false, [(1, 60)])), (3, .inr (false, [(58, 58)])), (4, .inr (false, [(60, 60)])), (5, .inr (false, [(-9, -9)]))], [], kch28)] = true := by decide +kernel
def kcx29 : aw_A := .inr (.inl (1, 60, [], [(59, [(48, 55)])]))
def kch30 : aw_H := [(14, kcx29)]
/-- MiceRegisters.faultOfFigure -/
def kcc32 : ak_C := (18, [.inl 14, .inr (false, [(-1, 60)]), .inr (false, [(59, 59)]), .inr (false, [(0, 0)]), .inr (false, [(0, 7)])], kch21, [], [([], some (.inr (false, [(-9, -9)])), kch30), ([], some (.inr (false, [(-1, 63)])), [])])
/-- MiceRegisters.faultOfFigure -/
def kcc33 : ak_C := (18, [.inl 14, .inr (false, [(-1, 60)]), .inr (false, [(60, 60)]), .inr (false, [(1, 1)]), .inr (false, [(9, 9)])], kch30, [], [([], some (.inr (false, [(-1, 63)])), [])])
/-- MiceRegisters.readMouse -/
def kcc34 : ak_C := (19, [.inl 0, .inl 14, .inr (false, [(-1, 60)]), .inr (false, [(58, 58)])], kch26, [], [([], some (.inr (false, [(-1, 63)])), [])])
theorem kck34 : ai_chk [kcc28, kcc32, kcc33] kcc34 (fun pc => sm_ch sm_t19 pc, sm_Kn 2 6 none, fun x => sm_lk sm_ca2 x, some .int) [] 6 0 [] [] 2000 [] = true := by decide +kernel
/-- MiceRegisters.readLine -/
def kcc35 : ak_C := (17, [.inl 0, .inl 14, .inr (false, [(-1, 60)]), .inr (false, [(57, 57)])], kch26, [], [([], some (.inr (false, [(-1, 60)])), [])])
theorem kck35 : ai_chk [kcc26] kcc35 (fun pc => sm_ch sm_t17 pc, sm_Kn 2 6 none, fun x => sm_lk sm_ca2 x, some .int) [] 6 0 [29] [] 2000 [(29, [(0, .inl 0), (1, .inl 14), (2, .inr (false, [(-1, 60)])), (3, .inr (false, [(57, 57)])), (4, .inr (false, [(58, 58)]))], [], kch28),
  (29, [(0, .inl 0), (1, .inl 14), (2, .inr (false, [(1, 60)])), (3, .inr (false, [(57, 57)])), (4, .inr (false, [(59, 59)])), (5, .inr (false, [(-9, -9)]))], [], kch28),
  (29, [(0, .inl 0), (1, .inl 14), (2, .inr (false, [(1, 60)])), (3, .inr (false, [(57, 57)])), (4, .inr (false, [(60, 60)])), (5, .inr (false, [(-9, -9)]))], [], kch28)] = true := by decide +kernel
def kcx31 : aw_A := .inr (.inl (1, 60, [], [(58, [(48, 55)])]))
def kch32 : aw_H := [(14, kcx31)]
/-- MiceRegisters.faultOfFigure -/
def kcc36 : ak_C := (18, [.inl 14, .inr (false, [(-1, 60)]), .inr (false, [(58, 58)]), .inr (false, [(0, 0)]), .inr (false, [(0, 7)])], kch21, [], [([], some (.inr (false, [(-9, -9)])), kch32), ([], some (.inr (false, [(-1, 63)])), [])])
def kcx33 : aw_A := .inr (.inl (1, 60, [], [(59, [(49, 57)]), (58, [(48, 55)])]))
def kch34 : aw_H := [(14, kcx33)]
/-- MiceRegisters.faultOfFigure -/
def kcc37 : ak_C := (18, [.inl 14, .inr (false, [(-1, 60)]), .inr (false, [(59, 59)]), .inr (false, [(1, 1)]), .inr (false, [(9, 9)])], kch32, [], [([], some (.inr (false, [(-9, -9)])), kch34), ([], some (.inr (false, [(-1, 63)])), [])])
def kcx35 : aw_A := .inr (.inl (0, 4, [(0, 3, [(0, 7)])], []))
def kch36 : aw_H := [(24, kcx25), (29, .inr (.inl (0, 4, [], []))), (30, .inr (.inl (0, 4, [], []))), (31, kcx35)]
def kcx37 : aw_A := .inl (1, [.inr (false, [(1, 8)]), .inr (false, [(1, 4)]), .inr (false, ar_t32), .inr (false, ar_t32), .inr (false, ar_t32), .inl 25, .inl 26, .inl 27, .inl 28, .inl 29, .inl 30, .inl 31, .inl 32])
def kch38 : aw_H := [(24, kcx37), (29, .inr (.inl (0, 4, [], []))), (30, .inr (.inl (0, 4, [], []))), (31, kcx35)]
/-- MiceRegisters.readMouse -/
def kch39 : aw_H := [(0, kcx2), (14, .inr (.inl (1, 60, [], []))), (24, kcx25), (29, .inr (.inl (0, 4, [], []))), (30, .inr (.inl (0, 4, [], []))), (31, kcx35)]
def kcc38 : ak_C := (19, [.inl 0, .inl 14, .inr (false, [(-1, 60)]), .inr (false, [(57, 57)])], kch39, [24, 29, 30, 31], [([], some (.inr (false, [(-1, 63)])), kch36), ([], some (.inr (false, [(-9, -9)])), kch38)])
theorem kck38 : ai_chk [kcc28, kcc36, kcc37] kcc38 (fun pc => sm_ch sm_t19 pc, sm_Kn 2 6 none, fun x => sm_lk sm_ca2 x, some .int) [24, 29, 30, 31] 6 0 [] [] 2000 [] = true := by decide +kernel
def kch40 : aw_H := [(24, kcx25), (25, .inr (.inl (0, 8, [], []))), (26, .inr (.inl (0, 8, [], [])))]
def kcx41 : aw_A := .inl (1, [.inr (false, [(1, 8)]), .inr (false, [(0, 0)]), .inr (false, ar_t32), .inr (false, ar_t32), .inr (false, ar_t32), .inl 25, .inl 26, .inl 27, .inl 28, .inl 29, .inl 30, .inl 31, .inl 32])
def kch42 : aw_H := [(24, kcx41), (25, .inr (.inl (0, 8, [], []))), (26, .inr (.inl (0, 8, [], [])))]
/-- MiceRegisters.readLine -/
def kch43 : aw_H := [(0, kcx2), (14, .inr (.inl (1, 60, [], []))), (24, kcx25), (25, .inr (.inl (0, 8, [], []))), (26, .inr (.inl (0, 8, [], [])))]
def kcc39 : ak_C := (17, [.inl 0, .inl 14, .inr (false, [(-1, 60)]), .inr (false, [(56, 56)])], kch43, [24, 25, 26], [([[], [], [], []], some (.inr (false, [(-1, 60)])), kch40), ([[], [], [(1, 60)], []], some (.inr (false, [(-9, -9)])), kch42)])
def kch44 : aw_H := [(0, kcx2), (14, .inr (.inl (1, 60, [], []))), (24, kcx27), (25, .inr (.inl (0, 8, [], []))), (26, .inr (.inl (0, 8, [], [])))]
theorem kck39 : ai_chk [kcc26] kcc39 (fun pc => sm_ch sm_t17 pc, sm_Kn 2 6 none, fun x => sm_lk sm_ca2 x, some .int) [24, 25, 26] 6 4 [29] [] 2000 [(29, [(0, .inl 0), (1, .inl 14), (2, .inr (false, [(-1, 60)])), (3, .inr (false, [(56, 56)])), (4, .inr (false, [(57, 57)]))], [], kch44),
  (29, [(0, .inl 0), (1, .inl 14), (2, .inr (false, [(1, 60)])), (3, .inr (false, [(56, 56)])), (4, .inr (false, [(58, 58)])), (5, .inr (false, [(-9, -9)]))], [], kch44),
  (29, [(0, .inl 0), (1, .inl 14), (2, .inr (false, [(1, 60)])), (3, .inr (false, [(56, 56)])), (4, .inr (false, [(59, 59)])), (5, .inr (false, [(-9, -9)]))], [], kch44),
  (29, [(0, .inl 0), (1, .inl 14), (2, .inr (false, [(1, 60)])), (3, .inr (false, [(56, 56)])), (4, .inr (false, [(60, 60)])), (5, .inr (false, [(-9, -9)]))], [], kch44)] = true := by decide +kernel
def kcx45 : aw_A := .inr (.inl (1, 60, [], [(57, [(48, 55)])]))
def kch46 : aw_H := [(14, kcx45)]
/-- MiceRegisters.faultOfFigure -/
def kcc40 : ak_C := (18, [.inl 14, .inr (false, [(-1, 60)]), .inr (false, [(57, 57)]), .inr (false, [(0, 0)]), .inr (false, [(0, 7)])], kch21, [], [([], some (.inr (false, [(-9, -9)])), kch46), ([], some (.inr (false, [(-1, 63)])), [])])
def kcx47 : aw_A := .inr (.inl (1, 60, [], [(58, [(49, 57)]), (57, [(48, 55)])]))
def kch48 : aw_H := [(14, kcx47)]
/-- MiceRegisters.faultOfFigure -/
def kcc41 : ak_C := (18, [.inl 14, .inr (false, [(-1, 60)]), .inr (false, [(58, 58)]), .inr (false, [(1, 1)]), .inr (false, [(9, 9)])], kch46, [], [([], some (.inr (false, [(-9, -9)])), kch48), ([], some (.inr (false, [(-1, 63)])), [])])
/-- MiceRegisters.readMouse -/
def kcc42 : ak_C := (19, [.inl 0, .inl 14, .inr (false, [(-1, 60)]), .inr (false, [(56, 56)])], kch39, [24, 29, 30, 31], [([], some (.inr (false, [(-1, 63)])), kch36), ([], some (.inr (false, [(-9, -9)])), kch38)])
theorem kck42 : ai_chk [kcc28, kcc40, kcc41] kcc42 (fun pc => sm_ch sm_t19 pc, sm_Kn 2 6 none, fun x => sm_lk sm_ca2 x, some .int) [24, 29, 30, 31] 6 0 [] [] 2000 [] = true := by decide +kernel
/-- MiceRegisters.readLine -/
def kcc43 : ak_C := (17, [.inl 0, .inl 14, .inr (false, [(-1, 60)]), .inr (false, [(55, 55)])], kch43, [24, 25, 26], [([[], [], [], []], some (.inr (false, [(-1, 60)])), kch40), ([[], [], [(1, 60)], []], some (.inr (false, [(-9, -9)])), kch42)])
theorem kck43 : ai_chk [kcc26] kcc43 (fun pc => sm_ch sm_t17 pc, sm_Kn 2 6 none, fun x => sm_lk sm_ca2 x, some .int) [24, 25, 26] 6 4 [29] [] 2000 [(29, [(0, .inl 0), (1, .inl 14), (2, .inr (false, [(-1, 60)])), (3, .inr (false, [(55, 55)])), (4, .inr (false, [(56, 56)]))], [], kch44),
  (29, [(0, .inl 0), (1, .inl 14), (2, .inr (false, [(1, 60)])), (3, .inr (false, [(55, 55)])), (4, .inr (false, [(57, 57)])), (5, .inr (false, [(-9, -9)]))], [], kch44),
  (29, [(0, .inl 0), (1, .inl 14), (2, .inr (false, [(1, 60)])), (3, .inr (false, [(55, 55)])), (4, .inr (false, [(58, 58)])), (5, .inr (false, [(-9, -9)]))], [], kch44),
  (29, [(0, .inl 0), (1, .inl 14), (2, .inr (false, [(1, 60)])), (3, .inr (false, [(55, 55)])), (4, .inr (false, [(59, 59)])), (5, .inr (false, [(-9, -9)]))], [], kch44)] = true := by decide +kernel
def kcx49 : aw_A := .inr (.inl (1, 60, [], [(56, [(48, 55)])]))
def kch50 : aw_H := [(14, kcx49)]
/-- MiceRegisters.faultOfFigure -/
def kcc44 : ak_C := (18, [.inl 14, .inr (false, [(-1, 60)]), .inr (false, [(56, 56)]), .inr (false, [(0, 0)]), .inr (false, [(0, 7)])], kch21, [], [([], some (.inr (false, [(-9, -9)])), kch50), ([], some (.inr (false, [(-1, 63)])), [])])
def kcx51 : aw_A := .inr (.inl (1, 60, [], [(57, [(49, 57)]), (56, [(48, 55)])]))
def kch52 : aw_H := [(14, kcx51)]
/-- MiceRegisters.faultOfFigure -/
def kcc45 : ak_C := (18, [.inl 14, .inr (false, [(-1, 60)]), .inr (false, [(57, 57)]), .inr (false, [(1, 1)]), .inr (false, [(9, 9)])], kch50, [], [([], some (.inr (false, [(-9, -9)])), kch52), ([], some (.inr (false, [(-1, 63)])), [])])
/-- MiceRegisters.readMouse -/
def kcc46 : ak_C := (19, [.inl 0, .inl 14, .inr (false, [(-1, 60)]), .inr (false, [(55, 55)])], kch39, [24, 29, 30, 31], [([], some (.inr (false, [(-1, 63)])), kch36), ([], some (.inr (false, [(-9, -9)])), kch38)])
theorem kck46 : ai_chk [kcc28, kcc44, kcc45] kcc46 (fun pc => sm_ch sm_t19 pc, sm_Kn 2 6 none, fun x => sm_lk sm_ca2 x, some .int) [24, 29, 30, 31] 6 0 [] [] 2000 [] = true := by decide +kernel
/-- MiceRegisters.readLine -/
def kcc47 : ak_C := (17, [.inl 0, .inl 14, .inr (false, [(-1, 60)]), .inr (false, [(54, 54)])], kch43, [24, 25, 26], [([[], [], [], []], some (.inr (false, [(-1, 60)])), kch40), ([[], [], [(1, 60)], []], some (.inr (false, [(-9, -9)])), kch42)])
theorem kck47 : ai_chk [kcc26] kcc47 (fun pc => sm_ch sm_t17 pc, sm_Kn 2 6 none, fun x => sm_lk sm_ca2 x, some .int) [24, 25, 26] 6 4 [29] [] 2000 [(29, [(0, .inl 0), (1, .inl 14), (2, .inr (false, [(-1, 60)])), (3, .inr (false, [(54, 54)])), (4, .inr (false, [(55, 55)]))], [], kch44),
  (29, [(0, .inl 0), (1, .inl 14), (2, .inr (false, [(1, 60)])), (3, .inr (false, [(54, 54)])), (4, .inr (false, [(56, 56)])), (5, .inr (false, [(-9, -9)]))], [], kch44),
  (29, [(0, .inl 0), (1, .inl 14), (2, .inr (false, [(1, 60)])), (3, .inr (false, [(54, 54)])), (4, .inr (false, [(57, 57)])), (5, .inr (false, [(-9, -9)]))], [], kch44),
  (29, [(0, .inl 0), (1, .inl 14), (2, .inr (false, [(1, 60)])), (3, .inr (false, [(54, 54)])), (4, .inr (false, [(58, 58)])), (5, .inr (false, [(-9, -9)]))], [], kch44)] = true := by decide +kernel
def kcx53 : aw_A := .inr (.inl (1, 60, [], [(55, [(48, 55)])]))
def kch54 : aw_H := [(14, kcx53)]
/-- MiceRegisters.faultOfFigure -/
def kcc48 : ak_C := (18, [.inl 14, .inr (false, [(-1, 60)]), .inr (false, [(55, 55)]), .inr (false, [(0, 0)]), .inr (false, [(0, 7)])], kch21, [], [([], some (.inr (false, [(-9, -9)])), kch54), ([], some (.inr (false, [(-1, 63)])), [])])
def kcx55 : aw_A := .inr (.inl (1, 60, [], [(56, [(49, 57)]), (55, [(48, 55)])]))
def kch56 : aw_H := [(14, kcx55)]
/-- MiceRegisters.faultOfFigure -/
def kcc49 : ak_C := (18, [.inl 14, .inr (false, [(-1, 60)]), .inr (false, [(56, 56)]), .inr (false, [(1, 1)]), .inr (false, [(9, 9)])], kch54, [], [([], some (.inr (false, [(-9, -9)])), kch56), ([], some (.inr (false, [(-1, 63)])), [])])
/-- MiceRegisters.readMouse -/
def kcc50 : ak_C := (19, [.inl 0, .inl 14, .inr (false, [(-1, 60)]), .inr (false, [(54, 54)])], kch39, [24, 29, 30, 31], [([], some (.inr (false, [(-1, 63)])), kch36), ([], some (.inr (false, [(-9, -9)])), kch38)])
theorem kck50 : ai_chk [kcc28, kcc48, kcc49] kcc50 (fun pc => sm_ch sm_t19 pc, sm_Kn 2 6 none, fun x => sm_lk sm_ca2 x, some .int) [24, 29, 30, 31] 6 0 [] [] 2000 [] = true := by decide +kernel
/-- MiceRegisters.readLine -/
def kcc51 : ak_C := (17, [.inl 0, .inl 14, .inr (false, [(-1, 60)]), .inr (false, [(53, 53)])], kch43, [24, 25, 26], [([[], [], [], []], some (.inr (false, [(-1, 60)])), kch40), ([[], [], [(1, 60)], []], some (.inr (false, [(-9, -9)])), kch42)])
theorem kck51 : ai_chk [kcc26] kcc51 (fun pc => sm_ch sm_t17 pc, sm_Kn 2 6 none, fun x => sm_lk sm_ca2 x, some .int) [24, 25, 26] 6 4 [29] [] 2000 [(29, [(0, .inl 0), (1, .inl 14), (2, .inr (false, [(-1, 60)])), (3, .inr (false, [(53, 53)])), (4, .inr (false, [(54, 54)]))], [], kch44),
  (29, [(0, .inl 0), (1, .inl 14), (2, .inr (false, [(1, 60)])), (3, .inr (false, [(53, 53)])), (4, .inr (false, [(55, 55)])), (5, .inr (false, [(-9, -9)]))], [], kch44),
  (29, [(0, .inl 0), (1, .inl 14), (2, .inr (false, [(1, 60)])), (3, .inr (false, [(53, 53)])), (4, .inr (false, [(56, 56)])), (5, .inr (false, [(-9, -9)]))], [], kch44),
  (29, [(0, .inl 0), (1, .inl 14), (2, .inr (false, [(1, 60)])), (3, .inr (false, [(53, 53)])), (4, .inr (false, [(57, 57)])), (5, .inr (false, [(-9, -9)]))], [], kch44)] = true := by decide +kernel
def kcx57 : aw_A := .inr (.inl (1, 60, [], [(54, [(48, 55)])]))
def kch58 : aw_H := [(14, kcx57)]
/-- MiceRegisters.faultOfFigure -/
def kcc52 : ak_C := (18, [.inl 14, .inr (false, [(-1, 60)]), .inr (false, [(54, 54)]), .inr (false, [(0, 0)]), .inr (false, [(0, 7)])], kch21, [], [([], some (.inr (false, [(-9, -9)])), kch58), ([], some (.inr (false, [(-1, 63)])), [])])
def kcx59 : aw_A := .inr (.inl (1, 60, [], [(55, [(49, 57)]), (54, [(48, 55)])]))
def kch60 : aw_H := [(14, kcx59)]
/-- MiceRegisters.faultOfFigure -/
def kcc53 : ak_C := (18, [.inl 14, .inr (false, [(-1, 60)]), .inr (false, [(55, 55)]), .inr (false, [(1, 1)]), .inr (false, [(9, 9)])], kch58, [], [([], some (.inr (false, [(-9, -9)])), kch60), ([], some (.inr (false, [(-1, 63)])), [])])
/-- MiceRegisters.readMouse -/
def kcc54 : ak_C := (19, [.inl 0, .inl 14, .inr (false, [(-1, 60)]), .inr (false, [(53, 53)])], kch39, [24, 29, 30, 31], [([], some (.inr (false, [(-1, 63)])), kch36), ([], some (.inr (false, [(-9, -9)])), kch38)])
theorem kck54 : ai_chk [kcc28, kcc52, kcc53] kcc54 (fun pc => sm_ch sm_t19 pc, sm_Kn 2 6 none, fun x => sm_lk sm_ca2 x, some .int) [24, 29, 30, 31] 6 0 [] [] 2000 [] = true := by decide +kernel
/-- MiceRegisters.readLine -/
def kcc55 : ak_C := (17, [.inl 0, .inl 14, .inr (false, [(-1, 60)]), .inr (false, [(52, 52)])], kch43, [24, 25, 26], [([[], [], [], []], some (.inr (false, [(-1, 60)])), kch40), ([[], [], [(1, 60)], []], some (.inr (false, [(-9, -9)])), kch42)])
theorem kck55 : ai_chk [kcc26] kcc55 (fun pc => sm_ch sm_t17 pc, sm_Kn 2 6 none, fun x => sm_lk sm_ca2 x, some .int) [24, 25, 26] 6 4 [29] [] 2000 [(29, [(0, .inl 0), (1, .inl 14), (2, .inr (false, [(-1, 60)])), (3, .inr (false, [(52, 52)])), (4, .inr (false, [(53, 53)]))], [], kch44),
  (29, [(0, .inl 0), (1, .inl 14), (2, .inr (false, [(1, 60)])), (3, .inr (false, [(52, 52)])), (4, .inr (false, [(54, 54)])), (5, .inr (false, [(-9, -9)]))], [], kch44),
  (29, [(0, .inl 0), (1, .inl 14), (2, .inr (false, [(1, 60)])), (3, .inr (false, [(52, 52)])), (4, .inr (false, [(55, 55)])), (5, .inr (false, [(-9, -9)]))], [], kch44),
  (29, [(0, .inl 0), (1, .inl 14), (2, .inr (false, [(1, 60)])), (3, .inr (false, [(52, 52)])), (4, .inr (false, [(56, 56)])), (5, .inr (false, [(-9, -9)]))], [], kch44)] = true := by decide +kernel
def kcx61 : aw_A := .inr (.inl (1, 60, [], [(53, [(48, 55)])]))
def kch62 : aw_H := [(14, kcx61)]
/-- MiceRegisters.faultOfFigure -/
def kcc56 : ak_C := (18, [.inl 14, .inr (false, [(-1, 60)]), .inr (false, [(53, 53)]), .inr (false, [(0, 0)]), .inr (false, [(0, 7)])], kch21, [], [([], some (.inr (false, [(-9, -9)])), kch62), ([], some (.inr (false, [(-1, 63)])), [])])
def kcx63 : aw_A := .inr (.inl (1, 60, [], [(54, [(49, 57)]), (53, [(48, 55)])]))
def kch64 : aw_H := [(14, kcx63)]
/-- MiceRegisters.faultOfFigure -/
def kcc57 : ak_C := (18, [.inl 14, .inr (false, [(-1, 60)]), .inr (false, [(54, 54)]), .inr (false, [(1, 1)]), .inr (false, [(9, 9)])], kch62, [], [([], some (.inr (false, [(-9, -9)])), kch64), ([], some (.inr (false, [(-1, 63)])), [])])
/-- MiceRegisters.readMouse -/
def kcc58 : ak_C := (19, [.inl 0, .inl 14, .inr (false, [(-1, 60)]), .inr (false, [(52, 52)])], kch39, [24, 29, 30, 31], [([], some (.inr (false, [(-1, 63)])), kch36), ([], some (.inr (false, [(-9, -9)])), kch38)])
theorem kck58 : ai_chk [kcc28, kcc56, kcc57] kcc58 (fun pc => sm_ch sm_t19 pc, sm_Kn 2 6 none, fun x => sm_lk sm_ca2 x, some .int) [24, 29, 30, 31] 6 0 [] [] 2000 [] = true := by decide +kernel
/-- MiceRegisters.readLine -/
def kcc59 : ak_C := (17, [.inl 0, .inl 14, .inr (false, [(-1, 60)]), .inr (false, [(51, 51)])], kch43, [24, 25, 26], [([[], [], [], []], some (.inr (false, [(-1, 60)])), kch40), ([[], [], [(1, 60)], []], some (.inr (false, [(-9, -9)])), kch42)])
theorem kck59 : ai_chk [kcc26] kcc59 (fun pc => sm_ch sm_t17 pc, sm_Kn 2 6 none, fun x => sm_lk sm_ca2 x, some .int) [24, 25, 26] 6 4 [29] [] 2000 [(29, [(0, .inl 0), (1, .inl 14), (2, .inr (false, [(-1, 60)])), (3, .inr (false, [(51, 51)])), (4, .inr (false, [(52, 52)]))], [], kch44),
  (29, [(0, .inl 0), (1, .inl 14), (2, .inr (false, [(1, 60)])), (3, .inr (false, [(51, 51)])), (4, .inr (false, [(53, 53)])), (5, .inr (false, [(-9, -9)]))], [], kch44),
  (29, [(0, .inl 0), (1, .inl 14), (2, .inr (false, [(1, 60)])), (3, .inr (false, [(51, 51)])), (4, .inr (false, [(54, 54)])), (5, .inr (false, [(-9, -9)]))], [], kch44),
  (29, [(0, .inl 0), (1, .inl 14), (2, .inr (false, [(1, 60)])), (3, .inr (false, [(51, 51)])), (4, .inr (false, [(55, 55)])), (5, .inr (false, [(-9, -9)]))], [], kch44)] = true := by decide +kernel
def kcx65 : aw_A := .inr (.inl (1, 60, [], [(52, [(48, 55)])]))
def kch66 : aw_H := [(14, kcx65)]
/-- MiceRegisters.faultOfFigure -/
def kcc60 : ak_C := (18, [.inl 14, .inr (false, [(-1, 60)]), .inr (false, [(52, 52)]), .inr (false, [(0, 0)]), .inr (false, [(0, 7)])], kch21, [], [([], some (.inr (false, [(-9, -9)])), kch66), ([], some (.inr (false, [(-1, 63)])), [])])
def kcx67 : aw_A := .inr (.inl (1, 60, [], [(53, [(49, 57)]), (52, [(48, 55)])]))
def kch68 : aw_H := [(14, kcx67)]
/-- MiceRegisters.faultOfFigure -/
def kcc61 : ak_C := (18, [.inl 14, .inr (false, [(-1, 60)]), .inr (false, [(53, 53)]), .inr (false, [(1, 1)]), .inr (false, [(9, 9)])], kch66, [], [([], some (.inr (false, [(-9, -9)])), kch68), ([], some (.inr (false, [(-1, 63)])), [])])
/-- MiceRegisters.readMouse -/
def kcc62 : ak_C := (19, [.inl 0, .inl 14, .inr (false, [(-1, 60)]), .inr (false, [(51, 51)])], kch39, [24, 29, 30, 31], [([], some (.inr (false, [(-1, 63)])), kch36), ([], some (.inr (false, [(-9, -9)])), kch38)])
theorem kck62 : ai_chk [kcc28, kcc60, kcc61] kcc62 (fun pc => sm_ch sm_t19 pc, sm_Kn 2 6 none, fun x => sm_lk sm_ca2 x, some .int) [24, 29, 30, 31] 6 0 [] [] 2000 [] = true := by decide +kernel
/-- MiceRegisters.readLine -/
def kcc63 : ak_C := (17, [.inl 0, .inl 14, .inr (false, [(-1, 60)]), .inr (false, [(50, 50)])], kch43, [24, 25, 26], [([[], [], [], []], some (.inr (false, [(-1, 60)])), kch40), ([[], [], [(1, 60)], []], some (.inr (false, [(-9, -9)])), kch42)])
theorem kck63 : ai_chk [kcc26] kcc63 (fun pc => sm_ch sm_t17 pc, sm_Kn 2 6 none, fun x => sm_lk sm_ca2 x, some .int) [24, 25, 26] 6 4 [29] [] 2000 [(29, [(0, .inl 0), (1, .inl 14), (2, .inr (false, [(-1, 60)])), (3, .inr (false, [(50, 50)])), (4, .inr (false, [(51, 51)]))], [], kch44),
  (29, [(0, .inl 0), (1, .inl 14), (2, .inr (false, [(1, 60)])), (3, .inr (false, [(50, 50)])), (4, .inr (false, [(52, 52)])), (5, .inr (false, [(-9, -9)]))], [], kch44),
  (29, [(0, .inl 0), (1, .inl 14), (2, .inr (false, [(1, 60)])), (3, .inr (false, [(50, 50)])), (4, .inr (false, [(53, 53)])), (5, .inr (false, [(-9, -9)]))], [], kch44),
  (29, [(0, .inl 0), (1, .inl 14), (2, .inr (false, [(1, 60)])), (3, .inr (false, [(50, 50)])), (4, .inr (false, [(54, 54)])), (5, .inr (false, [(-9, -9)]))], [], kch44)] = true := by decide +kernel
def kcx69 : aw_A := .inr (.inl (1, 60, [], [(51, [(48, 55)])]))
def kch70 : aw_H := [(14, kcx69)]
/-- MiceRegisters.faultOfFigure -/
def kcc64 : ak_C := (18, [.inl 14, .inr (false, [(-1, 60)]), .inr (false, [(51, 51)]), .inr (false, [(0, 0)]), .inr (false, [(0, 7)])], kch21, [], [([], some (.inr (false, [(-9, -9)])), kch70), ([], some (.inr (false, [(-1, 63)])), [])])
def kcx71 : aw_A := .inr (.inl (1, 60, [], [(52, [(49, 57)]), (51, [(48, 55)])]))
def kch72 : aw_H := [(14, kcx71)]
/-- MiceRegisters.faultOfFigure -/
def kcc65 : ak_C := (18, [.inl 14, .inr (false, [(-1, 60)]), .inr (false, [(52, 52)]), .inr (false, [(1, 1)]), .inr (false, [(9, 9)])], kch70, [], [([], some (.inr (false, [(-9, -9)])), kch72), ([], some (.inr (false, [(-1, 63)])), [])])
/-- MiceRegisters.readMouse -/
def kcc66 : ak_C := (19, [.inl 0, .inl 14, .inr (false, [(-1, 60)]), .inr (false, [(50, 50)])], kch39, [24, 29, 30, 31], [([], some (.inr (false, [(-1, 63)])), kch36), ([], some (.inr (false, [(-9, -9)])), kch38)])
theorem kck66 : ai_chk [kcc28, kcc64, kcc65] kcc66 (fun pc => sm_ch sm_t19 pc, sm_Kn 2 6 none, fun x => sm_lk sm_ca2 x, some .int) [24, 29, 30, 31] 6 0 [] [] 2000 [] = true := by decide +kernel
/-- MiceRegisters.readLine -/
def kcc67 : ak_C := (17, [.inl 0, .inl 14, .inr (false, [(-1, 60)]), .inr (false, [(49, 49)])], kch43, [24, 25, 26], [([[], [], [], []], some (.inr (false, [(-1, 60)])), kch40), ([[], [], [(1, 60)], []], some (.inr (false, [(-9, -9)])), kch42)])
theorem kck67 : ai_chk [kcc26] kcc67 (fun pc => sm_ch sm_t17 pc, sm_Kn 2 6 none, fun x => sm_lk sm_ca2 x, some .int) [24, 25, 26] 6 4 [29] [] 2000 [(29, [(0, .inl 0), (1, .inl 14), (2, .inr (false, [(-1, 60)])), (3, .inr (false, [(49, 49)])), (4, .inr (false, [(50, 50)]))], [], kch44),
  (29, [(0, .inl 0), (1, .inl 14), (2, .inr (false, [(1, 60)])), (3, .inr (false, [(49, 49)])), (4, .inr (false, [(51, 51)])), (5, .inr (false, [(-9, -9)]))], [], kch44),
  (29, [(0, .inl 0), (1, .inl 14), (2, .inr (false, [(1, 60)])), (3, .inr (false, [(49, 49)])), (4, .inr (false, [(52, 52)])), (5, .inr (false, [(-9, -9)]))], [], kch44),
  (29, [(0, .inl 0), (1, .inl 14), (2, .inr (false, [(1, 60)])), (3, .inr (false, [(49, 49)])), (4, .inr (false, [(53, 53)])), (5, .inr (false, [(-9, -9)]))], [], kch44)] = true := by decide +kernel
def kcx73 : aw_A := .inr (.inl (1, 60, [], [(50, [(48, 55)])]))
def kch74 : aw_H := [(14, kcx73)]
/-- MiceRegisters.faultOfFigure -/
def kcc68 : ak_C := (18, [.inl 14, .inr (false, [(-1, 60)]), .inr (false, [(50, 50)]), .inr (false, [(0, 0)]), .inr (false, [(0, 7)])], kch21, [], [([], some (.inr (false, [(-9, -9)])), kch74), ([], some (.inr (false, [(-1, 63)])), [])])
def kcx75 : aw_A := .inr (.inl (1, 60, [], [(51, [(49, 57)]), (50, [(48, 55)])]))
def kch76 : aw_H := [(14, kcx75)]
/-- MiceRegisters.faultOfFigure -/
def kcc69 : ak_C := (18, [.inl 14, .inr (false, [(-1, 60)]), .inr (false, [(51, 51)]), .inr (false, [(1, 1)]), .inr (false, [(9, 9)])], kch74, [], [([], some (.inr (false, [(-9, -9)])), kch76), ([], some (.inr (false, [(-1, 63)])), [])])
/-- MiceRegisters.readMouse -/
def kcc70 : ak_C := (19, [.inl 0, .inl 14, .inr (false, [(-1, 60)]), .inr (false, [(49, 49)])], kch39, [24, 29, 30, 31], [([], some (.inr (false, [(-1, 63)])), kch36), ([], some (.inr (false, [(-9, -9)])), kch38)])
theorem kck70 : ai_chk [kcc28, kcc68, kcc69] kcc70 (fun pc => sm_ch sm_t19 pc, sm_Kn 2 6 none, fun x => sm_lk sm_ca2 x, some .int) [24, 29, 30, 31] 6 0 [] [] 2000 [] = true := by decide +kernel
/-- MiceRegisters.readLine -/
def kcc71 : ak_C := (17, [.inl 0, .inl 14, .inr (false, [(-1, 60)]), .inr (false, [(48, 48)])], kch43, [24, 25, 26], [([[], [], [], []], some (.inr (false, [(-1, 60)])), kch40), ([[], [], [(1, 60)], []], some (.inr (false, [(-9, -9)])), kch42)])
theorem kck71 : ai_chk [kcc26] kcc71 (fun pc => sm_ch sm_t17 pc, sm_Kn 2 6 none, fun x => sm_lk sm_ca2 x, some .int) [24, 25, 26] 6 4 [29] [] 2000 [(29, [(0, .inl 0), (1, .inl 14), (2, .inr (false, [(-1, 60)])), (3, .inr (false, [(48, 48)])), (4, .inr (false, [(49, 49)]))], [], kch44),
  (29, [(0, .inl 0), (1, .inl 14), (2, .inr (false, [(1, 60)])), (3, .inr (false, [(48, 48)])), (4, .inr (false, [(50, 50)])), (5, .inr (false, [(-9, -9)]))], [], kch44),
  (29, [(0, .inl 0), (1, .inl 14), (2, .inr (false, [(1, 60)])), (3, .inr (false, [(48, 48)])), (4, .inr (false, [(51, 51)])), (5, .inr (false, [(-9, -9)]))], [], kch44),
  (29, [(0, .inl 0), (1, .inl 14), (2, .inr (false, [(1, 60)])), (3, .inr (false, [(48, 48)])), (4, .inr (false, [(52, 52)])), (5, .inr (false, [(-9, -9)]))], [], kch44)] = true := by decide +kernel
def kcx77 : aw_A := .inr (.inl (1, 60, [], [(49, [(48, 55)])]))
def kch78 : aw_H := [(14, kcx77)]
/-- MiceRegisters.faultOfFigure -/
def kcc72 : ak_C := (18, [.inl 14, .inr (false, [(-1, 60)]), .inr (false, [(49, 49)]), .inr (false, [(0, 0)]), .inr (false, [(0, 7)])], kch21, [], [([], some (.inr (false, [(-9, -9)])), kch78), ([], some (.inr (false, [(-1, 63)])), [])])
def kcx79 : aw_A := .inr (.inl (1, 60, [], [(50, [(49, 57)]), (49, [(48, 55)])]))
def kch80 : aw_H := [(14, kcx79)]
/-- MiceRegisters.faultOfFigure -/
def kcc73 : ak_C := (18, [.inl 14, .inr (false, [(-1, 60)]), .inr (false, [(50, 50)]), .inr (false, [(1, 1)]), .inr (false, [(9, 9)])], kch78, [], [([], some (.inr (false, [(-9, -9)])), kch80), ([], some (.inr (false, [(-1, 63)])), [])])
/-- MiceRegisters.readMouse -/
def kcc74 : ak_C := (19, [.inl 0, .inl 14, .inr (false, [(-1, 60)]), .inr (false, [(48, 48)])], kch39, [24, 29, 30, 31], [([], some (.inr (false, [(-1, 63)])), kch36), ([], some (.inr (false, [(-9, -9)])), kch38)])
theorem kck74 : ai_chk [kcc28, kcc72, kcc73] kcc74 (fun pc => sm_ch sm_t19 pc, sm_Kn 2 6 none, fun x => sm_lk sm_ca2 x, some .int) [24, 29, 30, 31] 6 0 [] [] 2000 [] = true := by decide +kernel
/-- MiceRegisters.readLine -/
def kcc75 : ak_C := (17, [.inl 0, .inl 14, .inr (false, [(-1, 60)]), .inr (false, [(47, 47)])], kch43, [24, 25, 26], [([[], [], [], []], some (.inr (false, [(-1, 60)])), kch40), ([[], [], [(1, 60)], []], some (.inr (false, [(-9, -9)])), kch42)])
theorem kck75 : ai_chk [kcc26] kcc75 (fun pc => sm_ch sm_t17 pc, sm_Kn 2 6 none, fun x => sm_lk sm_ca2 x, some .int) [24, 25, 26] 6 4 [29] [] 2000 [(29, [(0, .inl 0), (1, .inl 14), (2, .inr (false, [(-1, 60)])), (3, .inr (false, [(47, 47)])), (4, .inr (false, [(48, 48)]))], [], kch44),
  (29, [(0, .inl 0), (1, .inl 14), (2, .inr (false, [(1, 60)])), (3, .inr (false, [(47, 47)])), (4, .inr (false, [(49, 49)])), (5, .inr (false, [(-9, -9)]))], [], kch44),
  (29, [(0, .inl 0), (1, .inl 14), (2, .inr (false, [(1, 60)])), (3, .inr (false, [(47, 47)])), (4, .inr (false, [(50, 50)])), (5, .inr (false, [(-9, -9)]))], [], kch44),
  (29, [(0, .inl 0), (1, .inl 14), (2, .inr (false, [(1, 60)])), (3, .inr (false, [(47, 47)])), (4, .inr (false, [(51, 51)])), (5, .inr (false, [(-9, -9)]))], [], kch44)] = true := by decide +kernel
def kcx81 : aw_A := .inr (.inl (1, 60, [], [(48, [(48, 55)])]))
def kch82 : aw_H := [(14, kcx81)]
/-- MiceRegisters.faultOfFigure -/
def kcc76 : ak_C := (18, [.inl 14, .inr (false, [(-1, 60)]), .inr (false, [(48, 48)]), .inr (false, [(0, 0)]), .inr (false, [(0, 7)])], kch21, [], [([], some (.inr (false, [(-9, -9)])), kch82), ([], some (.inr (false, [(-1, 63)])), [])])
def kcx83 : aw_A := .inr (.inl (1, 60, [], [(49, [(49, 57)]), (48, [(48, 55)])]))
def kch84 : aw_H := [(14, kcx83)]
/-- MiceRegisters.faultOfFigure -/
def kcc77 : ak_C := (18, [.inl 14, .inr (false, [(-1, 60)]), .inr (false, [(49, 49)]), .inr (false, [(1, 1)]), .inr (false, [(9, 9)])], kch82, [], [([], some (.inr (false, [(-9, -9)])), kch84), ([], some (.inr (false, [(-1, 63)])), [])])
/-- MiceRegisters.readMouse -/
def kcc78 : ak_C := (19, [.inl 0, .inl 14, .inr (false, [(-1, 60)]), .inr (false, [(47, 47)])], kch39, [24, 29, 30, 31], [([], some (.inr (false, [(-1, 63)])), kch36), ([], some (.inr (false, [(-9, -9)])), kch38)])
theorem kck78 : ai_chk [kcc28, kcc76, kcc77] kcc78 (fun pc => sm_ch sm_t19 pc, sm_Kn 2 6 none, fun x => sm_lk sm_ca2 x, some .int) [24, 29, 30, 31] 6 0 [] [] 2000 [] = true := by decide +kernel
/-- MiceRegisters.readLine -/
def kcc79 : ak_C := (17, [.inl 0, .inl 14, .inr (false, [(-1, 60)]), .inr (false, [(46, 46)])], kch43, [24, 25, 26], [([[], [], [], []], some (.inr (false, [(-1, 60)])), kch40), ([[], [], [(1, 60)], []], some (.inr (false, [(-9, -9)])), kch42)])
theorem kck79 : ai_chk [kcc26] kcc79 (fun pc => sm_ch sm_t17 pc, sm_Kn 2 6 none, fun x => sm_lk sm_ca2 x, some .int) [24, 25, 26] 6 4 [29] [] 2000 [(29, [(0, .inl 0), (1, .inl 14), (2, .inr (false, [(-1, 60)])), (3, .inr (false, [(46, 46)])), (4, .inr (false, [(47, 47)]))], [], kch44),
  (29, [(0, .inl 0), (1, .inl 14), (2, .inr (false, [(1, 60)])), (3, .inr (false, [(46, 46)])), (4, .inr (false, [(48, 48)])), (5, .inr (false, [(-9, -9)]))], [], kch44),
  (29, [(0, .inl 0), (1, .inl 14), (2, .inr (false, [(1, 60)])), (3, .inr (false, [(46, 46)])), (4, .inr (false, [(49, 49)])), (5, .inr (false, [(-9, -9)]))], [], kch44),
  (29, [(0, .inl 0), (1, .inl 14), (2, .inr (false, [(1, 60)])), (3, .inr (false, [(46, 46)])), (4, .inr (false, [(50, 50)])), (5, .inr (false, [(-9, -9)]))], [], kch44)] = true := by decide +kernel
