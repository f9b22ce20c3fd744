/-! Contracts over ranges of the class, and their checks; printed by a program of mine. -/
/-- MiceRegisters.isNoRow -/
def kcc10 : ak_C := (1, [.inr (false, ar_t32)], [], [], [([[(-2147483648, -1), (6, 2147483647)]], some (.inr (false, [(1, 1)])), []), ([[(0, 5)]], some (.inr (false, [(0, 0)])), [])])
theorem kck10 : ai_chk [] kcc10 (fun pc => sm_ch sm_t1 pc, sm_Kn 2 1 none, fun x => sm_lk sm_ca2 x, some .boolean) [] 1 1 [] [] 2000 [] = true := by decide +kernel
def kcx0 : aw_A := .inl (2, [.inl 1, .inl 2, .inl 9, .inl 10, .inl 15, .inl 24, .inl 33, .inl 42, .inl 46, .inl 59, .inl 80, .inr (false, [(1, 5)]), .inr (false, ar_t32), .inr (true, ar_t64), .inr (true, ar_t64)])
def kch1 : aw_H := [(0, kcx0), (80, .inr (.inl (0, 6, [], [])))]
/-- MiceRegisters.refuseBy -/
def kcx2 : aw_A := .inl (2, [.inl 1, .inl 2, .inl 9, .inl 10, .inl 15, .inl 24, .inl 33, .inl 42, .inl 46, .inl 59, .inl 80, .inr (false, ar_t32), .inr (false, ar_t32), .inr (true, ar_t64), .inr (true, ar_t64)])
def kch3 : aw_H := [(0, kcx2), (80, .inr (.inl (0, 6, [], [])))]
def kcc11 : ak_C := (2, [.inl 0, .inr (false, [(1, 5)])], kch3, [0, 80], [([], some (.inr (false, [(-3, -3)])), kch1)])
theorem kck11 : ai_chk [] kcc11 (fun pc => sm_ch sm_t2 pc, sm_Kn 2 2 none, fun x => sm_lk sm_ca2 x, some .int) [0, 80] 2 0 [] [] 2000 [] = true := by decide +kernel
def kcx4 : aw_A := .inr (.inl (0, 6, [(0, 5, [(-1, 40)])], []))
def kch5 : aw_H := [(0, kcx2), (1, kcx4), (3, .inr (.inl (0, 40, [], []))), (4, .inr (.inl (0, 40, [], []))), (5, .inr (.inl (0, 40, [], []))), (6, .inr (.inl (0, 40, [], []))), (7, .inr (.inl (0, 40, [], []))), (8, .inr (.inl (0, 40, [], []))), (80, .inr (.inl (0, 6, [], [])))]
def kch6 : aw_H := [(0, kcx0), (1, kcx4), (3, .inr (.inl (0, 40, [], []))), (4, .inr (.inl (0, 40, [], []))), (5, .inr (.inl (0, 40, [], []))), (6, .inr (.inl (0, 40, [], []))), (7, .inr (.inl (0, 40, [], []))), (8, .inr (.inl (0, 40, [], []))), (80, .inr (.inl (0, 6, [], [])))]
/-- MiceRegisters.row -/
def kcx7 : aw_A := .inr (.inr (.inl (2, [3, 4, 5, 6, 7, 8])))
def kch8 : aw_H := [(0, kcx2), (1, kcx4), (2, kcx7), (3, .inr (.inl (0, 40, [], []))), (4, .inr (.inl (0, 40, [], []))), (5, .inr (.inl (0, 40, [], []))), (6, .inr (.inl (0, 40, [], []))), (7, .inr (.inl (0, 40, [], []))), (8, .inr (.inl (0, 40, [], []))), (80, .inr (.inl (0, 6, [], [])))]
def kcc12 : ak_C := (0, [.inl 0, .inr (false, ar_t32), .inr (false, ar_t32)], kch8, [0, 1, 3, 4, 5, 6, 7, 8, 80], [([[], [], []], some (.inr (false, [(-1, -1)])), kch5), ([[], [(0, 5)], [(-2147483648, -1)]], some (.inr (false, [(-3, -3)])), kch6), ([[], [(0, 5)], [(0, 0)]], some (.inr (false, [(0, 0)])), kch5), ([[], [(0, 5)], [(1, 40)]], some (.inr (false, [(1, 40)])), kch5)])
theorem kck12 : ai_chk [kcc10, kcc11] kcc12 (fun pc => sm_ch sm_t0 pc, sm_Kn 2 4 none, fun x => sm_lk sm_ca2 x, some .int) [0, 1, 3, 4, 5, 6, 7, 8, 80] 4 3 [27] [] 2000 [(27, [(0, .inl 0), (1, .inr (false, [(0, 5)])), (2, .inr (false, [(0, 40)])), (3, .inr (false, [(0, 0)]))], [], kch8),
  (27, [(0, .inl 0), (1, .inr (false, [(0, 5)])), (2, .inr (false, [(1, 40)])), (3, .inr (false, [(1, 1)]))], [], kch8),
  (27, [(0, .inl 0), (1, .inr (false, [(0, 5)])), (2, .inr (false, [(2, 40)])), (3, .inr (false, [(2, 2)]))], [], kch8),
  (27, [(0, .inl 0), (1, .inr (false, [(0, 5)])), (2, .inr (false, [(3, 40)])), (3, .inr (false, [(3, 3)]))], [], kch8),
  (27, [(0, .inl 0), (1, .inr (false, [(0, 5)])), (2, .inr (false, [(4, 40)])), (3, .inr (false, [(4, 4)]))], [], kch8),
  (27, [(0, .inl 0), (1, .inr (false, [(0, 5)])), (2, .inr (false, [(5, 40)])), (3, .inr (false, [(5, 5)]))], [], kch8),
  (27, [(0, .inl 0), (1, .inr (false, [(0, 5)])), (2, .inr (false, [(6, 40)])), (3, .inr (false, [(6, 6)]))], [], kch8),
  (27, [(0, .inl 0), (1, .inr (false, [(0, 5)])), (2, .inr (false, [(7, 40)])), (3, .inr (false, [(7, 7)]))], [], kch8),
  (27, [(0, .inl 0), (1, .inr (false, [(0, 5)])), (2, .inr (false, [(8, 40)])), (3, .inr (false, [(8, 8)]))], [], kch8),
  (27, [(0, .inl 0), (1, .inr (false, [(0, 5)])), (2, .inr (false, [(9, 40)])), (3, .inr (false, [(9, 9)]))], [], kch8),
  (27, [(0, .inl 0), (1, .inr (false, [(0, 5)])), (2, .inr (false, [(10, 40)])), (3, .inr (false, [(10, 10)]))], [], kch8),
  (27, [(0, .inl 0), (1, .inr (false, [(0, 5)])), (2, .inr (false, [(11, 40)])), (3, .inr (false, [(11, 11)]))], [], kch8),
  (27, [(0, .inl 0), (1, .inr (false, [(0, 5)])), (2, .inr (false, [(12, 40)])), (3, .inr (false, [(12, 12)]))], [], kch8),
  (27, [(0, .inl 0), (1, .inr (false, [(0, 5)])), (2, .inr (false, [(13, 40)])), (3, .inr (false, [(13, 13)]))], [], kch8),
  (27, [(0, .inl 0), (1, .inr (false, [(0, 5)])), (2, .inr (false, [(14, 40)])), (3, .inr (false, [(14, 14)]))], [], kch8),
  (27, [(0, .inl 0), (1, .inr (false, [(0, 5)])), (2, .inr (false, [(15, 40)])), (3, .inr (false, [(15, 15)]))], [], kch8),
  (27, [(0, .inl 0), (1, .inr (false, [(0, 5)])), (2, .inr (false, [(16, 40)])), (3, .inr (false, [(16, 16)]))], [], kch8),
  (27, [(0, .inl 0), (1, .inr (false, [(0, 5)])), (2, .inr (false, [(17, 40)])), (3, .inr (false, [(17, 17)]))], [], kch8),
  (27, [(0, .inl 0), (1, .inr (false, [(0, 5)])), (2, .inr (false, [(18, 40)])), (3, .inr (false, [(18, 18)]))], [], kch8),
  (27, [(0, .inl 0), (1, .inr (false, [(0, 5)])), (2, .inr (false, [(19, 40)])), (3, .inr (false, [(19, 19)]))], [], kch8),
  (27, [(0, .inl 0), (1, .inr (false, [(0, 5)])), (2, .inr (false, [(20, 40)])), (3, .inr (false, [(20, 20)]))], [], kch8),
  (27, [(0, .inl 0), (1, .inr (false, [(0, 5)])), (2, .inr (false, [(21, 40)])), (3, .inr (false, [(21, 21)]))], [], kch8),
  (27, [(0, .inl 0), (1, .inr (false, [(0, 5)])), (2, .inr (false, [(22, 40)])), (3, .inr (false, [(22, 22)]))], [], kch8),
  (27, [(0, .inl 0), (1, .inr (false, [(0, 5)])), (2, .inr (false, [(23, 40)])), (3, .inr (false, [(23, 23)]))], [], kch8),
  (27, [(0, .inl 0), (1, .inr (false, [(0, 5)])), (2, .inr (false, [(24, 40)])), (3, .inr (false, [(24, 24)]))], [], kch8),
  (27, [(0, .inl 0), (1, .inr (false, [(0, 5)])), (2, .inr (false, [(25, 40)])), (3, .inr (false, [(25, 25)]))], [], kch8),
  (27, [(0, .inl 0), (1, .inr (false, [(0, 5)])), (2, .inr (false, [(26, 40)])), (3, .inr (false, [(26, 26)]))], [], kch8),
  (27, [(0, .inl 0), (1, .inr (false, [(0, 5)])), (2, .inr (false, [(27, 40)])), (3, .inr (false, [(27, 27)]))], [], kch8),
  (27, [(0, .inl 0), (1, .inr (false, [(0, 5)])), (2, .inr (false, [(28, 40)])), (3, .inr (false, [(28, 28)]))], [], kch8),
  (27, [(0, .inl 0), (1, .inr (false, [(0, 5)])), (2, .inr (false, [(29, 40)])), (3, .inr (false, [(29, 29)]))], [], kch8),
  (27, [(0, .inl 0), (1, .inr (false, [(0, 5)])), (2, .inr (false, [(30, 40)])), (3, .inr (false, [(30, 30)]))], [], kch8),
  (27, [(0, .inl 0), (1, .inr (false, [(0, 5)])), (2, .inr (false, [(31, 40)])), (3, .inr (false, [(31, 31)]))], [], kch8),
  (27, [(0, .inl 0), (1, .inr (false, [(0, 5)])), (2, .inr (false, [(32, 40)])), (3, .inr (false, [(32, 32)]))], [], kch8),
  (27, [(0, .inl 0), (1, .inr (false, [(0, 5)])), (2, .inr (false, [(33, 40)])), (3, .inr (false, [(33, 33)]))], [], kch8),
  (27, [(0, .inl 0), (1, .inr (false, [(0, 5)])), (2, .inr (false, [(34, 40)])), (3, .inr (false, [(34, 34)]))], [], kch8),
  (27, [(0, .inl 0), (1, .inr (false, [(0, 5)])), (2, .inr (false, [(35, 40)])), (3, .inr (false, [(35, 35)]))], [], kch8),
  (27, [(0, .inl 0), (1, .inr (false, [(0, 5)])), (2, .inr (false, [(36, 40)])), (3, .inr (false, [(36, 36)]))], [], kch8),
  (27, [(0, .inl 0), (1, .inr (false, [(0, 5)])), (2, .inr (false, [(37, 40)])), (3, .inr (false, [(37, 37)]))], [], kch8),
  (27, [(0, .inl 0), (1, .inr (false, [(0, 5)])), (2, .inr (false, [(38, 40)])), (3, .inr (false, [(38, 38)]))], [], kch8),
  (27, [(0, .inl 0), (1, .inr (false, [(0, 5)])), (2, .inr (false, [(39, 40)])), (3, .inr (false, [(39, 39)]))], [], kch8),
  (27, [(0, .inl 0), (1, .inr (false, [(0, 5)])), (2, .inr (false, [(40, 40)])), (3, .inr (false, [(40, 40)]))], [], kch8)] = true := by decide +kernel
/-- MiceRegisters.refusalOfPlace -/
def kch9 : aw_H := [(0, kcx2), (1, kcx4), (80, .inr (.inl (0, 6, [], [])))]
def kcc13 : ak_C := (4, [.inl 0, .inr (false, ar_t32), .inr (false, ar_t32)], kch9, [0, 80], [([[], [(0, 5)], []], some (.inr (false, [(-3, -3)])), kch1), ([[], [(0, 5)], [(0, 39)]], some (.inr (false, [(0, 0)])), kch3), ([[], [(-2147483648, -1), (6, 2147483647)], []], some (.inr (false, [(-1, -1)])), kch3)])
theorem kck13 : ai_chk [kcc10, kcc11] kcc13 (fun pc => sm_ch sm_t4 pc, sm_Kn 2 3 none, fun x => sm_lk sm_ca2 x, some .int) [0, 80] 3 3 [] [] 2000 [] = true := by decide +kernel
def kch10 : aw_H := [(0, kcx2)]
/-- MiceRegisters.tell -/
def kcc14 : ak_C := (5, [.inl 0, .inr (false, ar_t32)], kch10, [0], [([], some (.inr (false, [(1, 1)])), kch10)])
theorem kck14 : ai_chk [] kcc14 (fun pc => sm_ch sm_t5 pc, sm_Kn 2 2 none, fun x => sm_lk sm_ca2 x, some .int) [0] 2 0 [] [] 2000 [] = true := by decide +kernel
def kch11 : aw_H := [(0, kcx2), (3, .inr (.inl (0, 40, [], []))), (4, .inr (.inl (0, 40, [], []))), (5, .inr (.inl (0, 40, [], []))), (6, .inr (.inl (0, 40, [], []))), (7, .inr (.inl (0, 40, [], []))), (8, .inr (.inl (0, 40, [], []))), (80, .inr (.inl (0, 6, [], [])))]
def kch12 : aw_H := [(0, kcx0), (3, .inr (.inl (0, 40, [], []))), (4, .inr (.inl (0, 40, [], []))), (5, .inr (.inl (0, 40, [], []))), (6, .inr (.inl (0, 40, [], []))), (7, .inr (.inl (0, 40, [], []))), (8, .inr (.inl (0, 40, [], []))), (80, .inr (.inl (0, 6, [], [])))]
/-- MiceRegisters.lay -/
def kcc15 : ak_C := (3, [.inl 0, .inr (false, ar_t32), .inr (false, ar_t32), .inr (false, ar_t32)], kch8, [0, 3, 4, 5, 6, 7, 8, 80], [([[], [(-2147483648, -1), (6, 2147483647)], [], []], some (.inr (false, [(-1, -1)])), kch11), ([[], [(0, 5)], [(0, 39)], []], some (.inr (false, [(1, 1)])), kch11), ([[], [(0, 5)], [], []], some (.inr (false, [(-3, -3)])), kch12)])
theorem kck15 : ai_chk [kcc13, kcc14] kcc15 (fun pc => sm_ch sm_t3 pc, sm_Kn 2 6 none, fun x => sm_lk sm_ca2 x, some .int) [0, 3, 4, 5, 6, 7, 8, 80] 6 4 [] [] 2000 [] = true := by decide +kernel
/-- MiceRegisters.at -/
def kcc16 : ak_C := (6, [.inl 0, .inr (false, ar_t32), .inr (false, ar_t32)], kch8, [0, 80], [([[], [(-2147483648, -1), (6, 2147483647)], []], some (.inr (false, [(-1, -1)])), kch3), ([[], [(0, 5)], [(0, 39)]], some (.inr (false, [(1, 1)])), kch3), ([[], [(0, 5)], []], some (.inr (false, [(-3, -3)])), kch1)])
theorem kck16 : ai_chk [kcc13, kcc14] kcc16 (fun pc => sm_ch sm_t6 pc, sm_Kn 2 4 none, fun x => sm_lk sm_ca2 x, some .int) [0, 80] 4 3 [] [] 2000 [] = true := by decide +kernel
def kch13 : aw_H := [(0, kcx0), (1, kcx4), (80, .inr (.inl (0, 6, [], [])))]
/-- MiceRegisters.tear -/
def kcc17 : ak_C := (7, [.inl 0, .inr (false, ar_t32)], kch9, [0, 1, 80], [([[], [(0, 5)]], some (.inr (false, [(-3, -3)])), kch13), ([[], [(0, 5)]], some (.inr (false, [(1, 1)])), kch9), ([[], [(-2147483648, -1), (6, 2147483647)]], some (.inr (false, [(-1, -1)])), kch9)])
theorem kck17 : ai_chk [kcc10, kcc11] kcc17 (fun pc => sm_ch sm_t7 pc, sm_Kn 2 2 none, fun x => sm_lk sm_ca2 x, some .int) [0, 1, 80] 2 2 [] [] 2000 [] = true := by decide +kernel
/-- MiceRegisters.copy -/
def kcc9 : ak_C := (8, [.inl 0, .inr (false, ar_t32), .inr (false, ar_t32), .inr (false, ar_t32), .inr (false, ar_t32), .inr (false, ar_t32)], kch8, [0, 3, 4, 5, 6, 7, 8, 80], [([], some (.inr (false, [(-1, -1)])), kch11), ([], some (.inr (false, [(-3, -3)])), kch11), ([], some (.inr (false, [(1, 1)])), kch11)])
/-- MiceRegisters.mean -/
def kcc18 : ak_C := (10, [.inl 0, .inr (false, ar_t32)], kch8, [0, 80], [([[], [(0, 5)]], some (.inr (false, [(-3, -3)])), kch1), ([[], [(-2147483648, -1), (6, 2147483647)]], some (.inr (false, [(-1, -1)])), kch3), ([[], [(0, 5)]], some (.inr (false, [(1, 1)])), kch3)])
def kcb18 : sm_P := (fun pc => sm_ch sm_t10 pc, sm_Kn 2 6 none, fun x => sm_lk sm_ca2 x, some .int)
def czkc18x0 : aw_A := .inl (2, [.inl 1, .inl 2, .inl 9, .inl 10, .inl 15, .inl 24, .inl 33, .inl 42, .inl 46, .inl 59, .inl 80, .inr (false, ar_t32), .inr (false, ar_t32), .inr (true, ar_t64), .inr (true, ar_t64)])
def czkc18x1 : aw_A := .inr (.inl (0, 6, [(0, 5, [(-1, 40)])], []))
def czkc18x2 : aw_A := .inr (.inr (.inl (2, [3, 4, 5, 6, 7, 8])))
def czkc18h3 : aw_H := [(0, czkc18x0), (1, czkc18x1), (2, czkc18x2), (3, .inr (.inl (0, 40, [], []))), (4, .inr (.inl (0, 40, [], []))), (5, .inr (.inl (0, 40, [], []))), (6, .inr (.inl (0, 40, [], []))), (7, .inr (.inl (0, 40, [], []))), (8, .inr (.inl (0, 40, [], []))), (80, .inr (.inl (0, 6, [], [])))]
set_option maxRecDepth 100000 in
theorem kck18 : ai_ch2 [kcc10, kcc11, kcc14] kcc18 kcb18 [0, 80] 6 2 [42] [] 2000 [.inr (5, false, [((42, [(0, .inl 0), (1, .inr (false, [(0, 5)])), (2, .inr (false, [(1, 40)])), (3, .inr (true, ar_t64)), (5, .inr (false, [(0, 40)]))], [], czkc18h3), none)])] = true := by decide +kernel
/-- MiceRegisters.isNoText -/
def kcc19 : ak_C := (12, [.inr (false, ar_t32)], [], [], [([[(-2147483648, -1), (4, 2147483647)]], some (.inr (false, [(1, 1)])), []), ([[(0, 3)]], some (.inr (false, [(0, 0)])), [])])
theorem kck19 : ai_chk [] kcc19 (fun pc => sm_ch sm_t12 pc, sm_Kn 2 1 none, fun x => sm_lk sm_ca2 x, some .boolean) [] 1 1 [] [] 2000 [] = true := by decide +kernel
def kcx14 : aw_A := .inr (.inl (0, 4, [(0, 3, [(-1, 60)])], []))
def kch15 : aw_H := [(0, kcx2), (9, kcx14), (11, .inr (.inl (1, 60, [], []))), (12, .inr (.inl (1, 60, [], []))), (13, .inr (.inl (1, 60, [], []))), (14, .inr (.inl (1, 60, [], []))), (80, .inr (.inl (0, 6, [], [])))]
def kch16 : aw_H := [(0, kcx0), (9, kcx14), (11, .inr (.inl (1, 60, [], []))), (12, .inr (.inl (1, 60, [], []))), (13, .inr (.inl (1, 60, [], []))), (14, .inr (.inl (1, 60, [], []))), (80, .inr (.inl (0, 6, [], [])))]
/-- MiceRegisters.text -/
def kcx17 : aw_A := .inr (.inr (.inl (3, [11, 12, 13, 14])))
def kch18 : aw_H := [(0, kcx2), (9, kcx14), (10, kcx17), (11, .inr (.inl (1, 60, [], []))), (12, .inr (.inl (1, 60, [], []))), (13, .inr (.inl (1, 60, [], []))), (14, .inr (.inl (1, 60, [], []))), (80, .inr (.inl (0, 6, [], [])))]
def kcc20 : ak_C := (11, [.inl 0, .inr (false, ar_t32), .inr (false, ar_t32)], kch18, [0, 9, 11, 12, 13, 14, 80], [([[], [], []], some (.inr (false, [(-1, -1)])), kch15), ([[], [(0, 3)], [(-2147483648, -1)]], some (.inr (false, [(-3, -3)])), kch16), ([[], [(0, 3)], [(0, 0)]], some (.inr (false, [(0, 0)])), kch15), ([[], [(0, 3)], [(1, 60)]], some (.inr (false, [(1, 60)])), kch15)])
theorem kck20 : ai_chk [kcc19, kcc11] kcc20 (fun pc => sm_ch sm_t11 pc, sm_Kn 2 4 none, fun x => sm_lk sm_ca2 x, some .int) [0, 9, 11, 12, 13, 14, 80] 4 3 [27] [] 2000 [(27, [(0, .inl 0), (1, .inr (false, [(0, 3)])), (2, .inr (false, [(0, 60)])), (3, .inr (false, [(0, 0)]))], [], kch18),
  (27, [(0, .inl 0), (1, .inr (false, [(0, 3)])), (2, .inr (false, [(1, 60)])), (3, .inr (false, [(1, 1)]))], [], kch18),
  (27, [(0, .inl 0), (1, .inr (false, [(0, 3)])), (2, .inr (false, [(2, 60)])), (3, .inr (false, [(2, 2)]))], [], kch18),
  (27, [(0, .inl 0), (1, .inr (false, [(0, 3)])), (2, .inr (false, [(3, 60)])), (3, .inr (false, [(3, 3)]))], [], kch18),
  (27, [(0, .inl 0), (1, .inr (false, [(0, 3)])), (2, .inr (false, [(4, 60)])), (3, .inr (false, [(4, 4)]))], [], kch18),
  (27, [(0, .inl 0), (1, .inr (false, [(0, 3)])), (2, .inr (false, [(5, 60)])), (3, .inr (false, [(5, 5)]))], [], kch18),
  (27, [(0, .inl 0), (1, .inr (false, [(0, 3)])), (2, .inr (false, [(6, 60)])), (3, .inr (false, [(6, 6)]))], [], kch18),
  (27, [(0, .inl 0), (1, .inr (false, [(0, 3)])), (2, .inr (false, [(7, 60)])), (3, .inr (false, [(7, 7)]))], [], kch18),
  (27, [(0, .inl 0), (1, .inr (false, [(0, 3)])), (2, .inr (false, [(8, 60)])), (3, .inr (false, [(8, 8)]))], [], kch18),
  (27, [(0, .inl 0), (1, .inr (false, [(0, 3)])), (2, .inr (false, [(9, 60)])), (3, .inr (false, [(9, 9)]))], [], kch18),
  (27, [(0, .inl 0), (1, .inr (false, [(0, 3)])), (2, .inr (false, [(10, 60)])), (3, .inr (false, [(10, 10)]))], [], kch18),
  (27, [(0, .inl 0), (1, .inr (false, [(0, 3)])), (2, .inr (false, [(11, 60)])), (3, .inr (false, [(11, 11)]))], [], kch18),
  (27, [(0, .inl 0), (1, .inr (false, [(0, 3)])), (2, .inr (false, [(12, 60)])), (3, .inr (false, [(12, 12)]))], [], kch18),
  (27, [(0, .inl 0), (1, .inr (false, [(0, 3)])), (2, .inr (false, [(13, 60)])), (3, .inr (false, [(13, 13)]))], [], kch18),
  (27, [(0, .inl 0), (1, .inr (false, [(0, 3)])), (2, .inr (false, [(14, 60)])), (3, .inr (false, [(14, 14)]))], [], kch18),
  (27, [(0, .inl 0), (1, .inr (false, [(0, 3)])), (2, .inr (false, [(15, 60)])), (3, .inr (false, [(15, 15)]))], [], kch18),
  (27, [(0, .inl 0), (1, .inr (false, [(0, 3)])), (2, .inr (false, [(16, 60)])), (3, .inr (false, [(16, 16)]))], [], kch18),
  (27, [(0, .inl 0), (1, .inr (false, [(0, 3)])), (2, .inr (false, [(17, 60)])), (3, .inr (false, [(17, 17)]))], [], kch18),
  (27, [(0, .inl 0), (1, .inr (false, [(0, 3)])), (2, .inr (false, [(18, 60)])), (3, .inr (false, [(18, 18)]))], [], kch18),
  (27, [(0, .inl 0), (1, .inr (false, [(0, 3)])), (2, .inr (false, [(19, 60)])), (3, .inr (false, [(19, 19)]))], [], kch18),
  (27, [(0, .inl 0), (1, .inr (false, [(0, 3)])), (2, .inr (false, [(20, 60)])), (3, .inr (false, [(20, 20)]))], [], kch18),
  (27, [(0, .inl 0), (1, .inr (false, [(0, 3)])), (2, .inr (false, [(21, 60)])), (3, .inr (false, [(21, 21)]))], [], kch18),
  (27, [(0, .inl 0), (1, .inr (false, [(0, 3)])), (2, .inr (false, [(22, 60)])), (3, .inr (false, [(22, 22)]))], [], kch18),
  (27, [(0, .inl 0), (1, .inr (false, [(0, 3)])), (2, .inr (false, [(23, 60)])), (3, .inr (false, [(23, 23)]))], [], kch18),
  (27, [(0, .inl 0), (1, .inr (false, [(0, 3)])), (2, .inr (false, [(24, 60)])), (3, .inr (false, [(24, 24)]))], [], kch18),
  (27, [(0, .inl 0), (1, .inr (false, [(0, 3)])), (2, .inr (false, [(25, 60)])), (3, .inr (false, [(25, 25)]))], [], kch18),
  (27, [(0, .inl 0), (1, .inr (false, [(0, 3)])), (2, .inr (false, [(26, 60)])), (3, .inr (false, [(26, 26)]))], [], kch18),
  (27, [(0, .inl 0), (1, .inr (false, [(0, 3)])), (2, .inr (false, [(27, 60)])), (3, .inr (false, [(27, 27)]))], [], kch18),
  (27, [(0, .inl 0), (1, .inr (false, [(0, 3)])), (2, .inr (false, [(28, 60)])), (3, .inr (false, [(28, 28)]))], [], kch18),
  (27, [(0, .inl 0), (1, .inr (false, [(0, 3)])), (2, .inr (false, [(29, 60)])), (3, .inr (false, [(29, 29)]))], [], kch18),
  (27, [(0, .inl 0), (1, .inr (false, [(0, 3)])), (2, .inr (false, [(30, 60)])), (3, .inr (false, [(30, 30)]))], [], kch18),
  (27, [(0, .inl 0), (1, .inr (false, [(0, 3)])), (2, .inr (false, [(31, 60)])), (3, .inr (false, [(31, 31)]))], [], kch18),
  (27, [(0, .inl 0), (1, .inr (false, [(0, 3)])), (2, .inr (false, [(32, 60)])), (3, .inr (false, [(32, 32)]))], [], kch18),
  (27, [(0, .inl 0), (1, .inr (false, [(0, 3)])), (2, .inr (false, [(33, 60)])), (3, .inr (false, [(33, 33)]))], [], kch18),
  (27, [(0, .inl 0), (1, .inr (false, [(0, 3)])), (2, .inr (false, [(34, 60)])), (3, .inr (false, [(34, 34)]))], [], kch18),
  (27, [(0, .inl 0), (1, .inr (false, [(0, 3)])), (2, .inr (false, [(35, 60)])), (3, .inr (false, [(35, 35)]))], [], kch18),
  (27, [(0, .inl 0), (1, .inr (false, [(0, 3)])), (2, .inr (false, [(36, 60)])), (3, .inr (false, [(36, 36)]))], [], kch18),
  (27, [(0, .inl 0), (1, .inr (false, [(0, 3)])), (2, .inr (false, [(37, 60)])), (3, .inr (false, [(37, 37)]))], [], kch18),
  (27, [(0, .inl 0), (1, .inr (false, [(0, 3)])), (2, .inr (false, [(38, 60)])), (3, .inr (false, [(38, 38)]))], [], kch18),
  (27, [(0, .inl 0), (1, .inr (false, [(0, 3)])), (2, .inr (false, [(39, 60)])), (3, .inr (false, [(39, 39)]))], [], kch18),
  (27, [(0, .inl 0), (1, .inr (false, [(0, 3)])), (2, .inr (false, [(40, 60)])), (3, .inr (false, [(40, 40)]))], [], kch18),
  (27, [(0, .inl 0), (1, .inr (false, [(0, 3)])), (2, .inr (false, [(41, 60)])), (3, .inr (false, [(41, 41)]))], [], kch18),
  (27, [(0, .inl 0), (1, .inr (false, [(0, 3)])), (2, .inr (false, [(42, 60)])), (3, .inr (false, [(42, 42)]))], [], kch18),
  (27, [(0, .inl 0), (1, .inr (false, [(0, 3)])), (2, .inr (false, [(43, 60)])), (3, .inr (false, [(43, 43)]))], [], kch18),
  (27, [(0, .inl 0), (1, .inr (false, [(0, 3)])), (2, .inr (false, [(44, 60)])), (3, .inr (false, [(44, 44)]))], [], kch18),
  (27, [(0, .inl 0), (1, .inr (false, [(0, 3)])), (2, .inr (false, [(45, 60)])), (3, .inr (false, [(45, 45)]))], [], kch18),
  (27, [(0, .inl 0), (1, .inr (false, [(0, 3)])), (2, .inr (false, [(46, 60)])), (3, .inr (false, [(46, 46)]))], [], kch18),
  (27, [(0, .inl 0), (1, .inr (false, [(0, 3)])), (2, .inr (false, [(47, 60)])), (3, .inr (false, [(47, 47)]))], [], kch18),
  (27, [(0, .inl 0), (1, .inr (false, [(0, 3)])), (2, .inr (false, [(48, 60)])), (3, .inr (false, [(48, 48)]))], [], kch18),
  (27, [(0, .inl 0), (1, .inr (false, [(0, 3)])), (2, .inr (false, [(49, 60)])), (3, .inr (false, [(49, 49)]))], [], kch18),
  (27, [(0, .inl 0), (1, .inr (false, [(0, 3)])), (2, .inr (false, [(50, 60)])), (3, .inr (false, [(50, 50)]))], [], kch18),
  (27, [(0, .inl 0), (1, .inr (false, [(0, 3)])), (2, .inr (false, [(51, 60)])), (3, .inr (false, [(51, 51)]))], [], kch18),
  (27, [(0, .inl 0), (1, .inr (false, [(0, 3)])), (2, .inr (false, [(52, 60)])), (3, .inr (false, [(52, 52)]))], [], kch18),
  (27, [(0, .inl 0), (1, .inr (false, [(0, 3)])), (2, .inr (false, [(53, 60)])), (3, .inr (false, [(53, 53)]))], [], kch18),
  (27, [(0, .inl 0), (1, .inr (false, [(0, 3)])), (2, .inr (false, [(54, 60)])), (3, .inr (false, [(54, 54)]))], [], kch18),
  (27, [(0, .inl 0), (1, .inr (false, [(0, 3)])), (2, .inr (false, [(55, 60)])), (3, .inr (false, [(55, 55)]))], [], kch18),
  (27, [(0, .inl 0), (1, .inr (false, [(0, 3)])), (2, .inr (false, [(56, 60)])), (3, .inr (false, [(56, 56)]))], [], kch18),
  (27, [(0, .inl 0), (1, .inr (false, [(0, 3)])), (2, .inr (false, [(57, 60)])), (3, .inr (false, [(57, 57)]))], [], kch18),
  (27, [(0, .inl 0), (1, .inr (false, [(0, 3)])), (2, .inr (false, [(58, 60)])), (3, .inr (false, [(58, 58)]))], [], kch18),
  (27, [(0, .inl 0), (1, .inr (false, [(0, 3)])), (2, .inr (false, [(59, 60)])), (3, .inr (false, [(59, 59)]))], [], kch18),
  (27, [(0, .inl 0), (1, .inr (false, [(0, 3)])), (2, .inr (false, [(60, 60)])), (3, .inr (false, [(60, 60)]))], [], kch18)] = true := by decide +kernel
def kch19 : aw_H := [(0, kcx0), (11, .inr (.inl (1, 60, [], []))), (12, .inr (.inl (1, 60, [], []))), (13, .inr (.inl (1, 60, [], []))), (14, .inr (.inl (1, 60, [], []))), (80, .inr (.inl (0, 6, [], [])))]
def kch20 : aw_H := [(0, kcx2), (11, .inr (.inl (1, 60, [], []))), (12, .inr (.inl (1, 60, [], []))), (13, .inr (.inl (1, 60, [], []))), (14, .inr (.inl (1, 60, [], []))), (80, .inr (.inl (0, 6, [], [])))]
/-- MiceRegisters.put -/
def kcc21 : ak_C := (13, [.inl 0, .inr (false, ar_t32), .inr (false, ar_t32), .inr (false, ar_t32)], kch18, [0, 11, 12, 13, 14, 80], [([[], [(0, 3)], [], []], some (.inr (false, [(-3, -3)])), kch19), ([[], [(0, 3)], [(0, 59)], []], some (.inr (false, ar_t32)), kch20), ([[], [(-2147483648, -1), (4, 2147483647)], [], []], some (.inr (false, [(-1, -1)])), kch20)])
theorem kck21 : ai_chk [kcc19, kcc11] kcc21 (fun pc => sm_ch sm_t13 pc, sm_Kn 2 5 none, fun x => sm_lk sm_ca2 x, some .int) [0, 11, 12, 13, 14, 80] 5 4 [] [] 2000 [] = true := by decide +kernel
def kcx25 : aw_A := .inl (1, [.inr (false, [(0, 8)]), .inr (false, [(0, 4)]), .inr (false, ar_t32), .inr (false, ar_t32), .inr (false, ar_t32), .inl 25, .inl 26, .inl 27, .inl 28, .inl 29, .inl 30, .inl 31, .inl 32])
def kcx36 : aw_A := .inr (.inl (0, 4, [(0, 3, [(0, 7)])], []))
def kcx632 : aw_A := .inl (1, [.inr (false, [(0, 8)]), .inr (false, [(1, 4)]), .inr (false, ar_t32), .inr (false, ar_t32), .inr (false, ar_t32), .inl 25, .inl 26, .inl 27, .inl 28, .inl 29, .inl 30, .inl 31, .inl 32])
