/-! Contracts over ranges of the class, and their checks; printed by a program of mine. -/
/-- MiceRegisters.isNoRow -/
def kcc10 : ak_C := (1, [.inr (false, ar_t32)], [], [], [([[(-2147483648, -1), (6, 2147483647)]], some (.inr (false, [(1, 1)])), []), ([[(0, 5)]], some (.inr (false, [(0, 0)])), [])])
theorem kck10 : ai_chk [] kcc10 (fun pc => sm_ch sm_t1 pc, sm_Kn 2 1 none, fun x => sm_lk sm_ca2 x, some .boolean) [] 1 1 [] [] 2000 [] = true := by decide +kernel
def kcx0 : aw_A := .inl (2, [.inl 1, .inl 2, .inl 9, .inl 10, .inl 15, .inl 24, .inl 33, .inl 42, .inl 46, .inl 59, .inl 80, .inr (false, [(1, 5)]), .inr (false, ar_t32), .inr (true, ar_t64), .inr (true, ar_t64)])
def kch1 : aw_H := [(0, kcx0), (80, .inr (.inl (0, 6, [], [])))]
/-- MiceRegisters.refuseBy -/
def kcx2 : aw_A := .inl (2, [.inl 1, .inl 2, .inl 9, .inl 10, .inl 15, .inl 24, .inl 33, .inl 42, .inl 46, .inl 59, .inl 80, .inr (false, ar_t32), .inr (false, ar_t32), .inr (true, ar_t64), .inr (true, ar_t64)])
def kch3 : aw_H := [(0, kcx2), (80, .inr (.inl (0, 6, [], [])))]
def kcc11 : ak_C := (2, [.inl 0, .inr (false, [(1, 5)])], kch3, [0, 80], [([], some (.inr (false, [(-3, -3)])), kch1)])
theorem kck11 : ai_chk [] kcc11 (fun pc => sm_ch sm_t2 pc, sm_Kn 2 2 none, fun x => sm_lk sm_ca2 x, some .int) [0, 80] 2 0 [] [] 2000 [] = true := by decide +kernel
def kcx4 : aw_A := .inr (.inl (0, 6, [(0, 5, [(-1, 40)])], []))
def kch5 : aw_H := [(0, kcx2), (1, kcx4), (3, .inr (.inl (0, 40, [], []))), (4, .inr (.inl (0, 40, [], []))), (5, .inr (.inl (0, 40, [], []))), (6, .inr (.inl (0, 40, [], []))), (7, .inr (.inl (0, 40, [], []))), (8, .inr (.inl (0, 40, [], []))), (80, .inr (.inl (0, 6, [], [])))]
def kch6 : aw_H := [(0, kcx0), (1, kcx4), (3, .inr (.inl (0, 40, [], []))), (4, .inr (.inl (0, 40, [], []))), (5, .inr (.inl (0, 40, [], []))), (6, .inr (.inl (0, 40, [], []))), (7, .inr (.inl (0, 40, [], []))), (8, .inr (.inl (0, 40, [], []))), (80, .inr (.inl (0, 6, [], [])))]
/-- MiceRegisters.row -/
def kcx7 : aw_A := .inr (.inr (.inl (2, [3, 4, 5, 6, 7, 8])))
def kch8 : aw_H := [(0, kcx2), (1, kcx4), (2, kcx7), (3, .inr (.inl (0, 40, [], []))), (4, .inr (.inl (0, 40, [], []))), (5, .inr (.inl (0, 40, [], []))), (6, .inr (.inl (0, 40, [], []))), (7, .inr (.inl (0, 40, [], []))), (8, .inr (.inl (0, 40, [], []))), (80, .inr (.inl (0, 6, [], [])))]
def kcc12 : ak_C := (0, [.inl 0, .inr (false, ar_t32), .inr (false, ar_t32)], kch8, [0, 1, 3, 4, 5, 6, 7, 8, 80], [([[], [], []], some (.inr (false, [(-1, -1)])), kch5), ([[], [(0, 5)], [(-2147483648, -1)]], some (.inr (false, [(-3, -3)])), kch6), ([[], [(0, 5)], [(0, 0)]], some (.inr (false, [(0, 0)])), kch5), ([[], [(0, 5)], [(1, 40)]], some (.inr (false, [(1, 40)])), kch5)])
