def kcb18 : sm_P := (fun pc => sm_ch sm_t10 pc, sm_Kn 2 6 none, fun x => sm_lk sm_ca2 x, some .int)
def czkc18x0 : aw_A := .inl (2, [.inl 1, .inl 2, .inl 9, .inl 10, .inl 15, .inl 24, .inl 33, .inl 42, .inl 46, .inl 59, .inl 80, .inr (false, ar_t32), .inr (false, ar_t32), .inr (true, ar_t64), .inr (true, ar_t64)])
def czkc18x1 : aw_A := .inr (.inl (0, 6, [(0, 5, [(-1, 40)])], []))
def czkc18x2 : aw_A := .inr (.inr (.inl (2, [3, 4, 5, 6, 7, 8])))
def czkc18h3 : aw_H := [(0, czkc18x0), (1, czkc18x1), (2, czkc18x2), (3, .inr (.inl (0, 40, [], []))), (4, .inr (.inl (0, 40, [], []))), (5, .inr (.inl (0, 40, [], []))), (6, .inr (.inl (0, 40, [], []))), (7, .inr (.inl (0, 40, [], []))), (8, .inr (.inl (0, 40, [], []))), (80, .inr (.inl (0, 6, [], [])))]
set_option maxRecDepth 100000 in
theorem kck18 : ai_ch2 [kcc10, kcc11, kcc14] kcc18 kcb18 [0, 80] 6 2 [42] [] 2000 [.inr (5, false, [((42, [(0, .inl 0), (1, .inr (false, [(0, 5)])), (2, .inr (false, [(1, 40)])), (3, .inr (true, ar_t64)), (5, .inr (false, [(0, 40)]))], [], czkc18h3), none)])] = true := by decide +kernel
/-- MiceRegisters.isNoText -/
def kcc19 : ak_C := (12, [.inr (false, ar_t32)], [], [], [([[(-2147483648, -1), (4, 2147483647)]], some (.inr (false, [(1, 1)])), []), ([[(0, 3)]], some (.inr (false, [(0, 0)])), [])])
theorem kck19 : ai_chk [] kcc19 (fun pc => sm_ch sm_t12 pc, sm_Kn 2 1 none, fun x => sm_lk sm_ca2 x, some .boolean) [] 1 1 [] [] 2000 [] = true := by decide +kernel
def kcx14 : aw_A := .inr (.inl (0, 4, [(0, 3, [(-1, 60)])], []))
def kch15 : aw_H := [(0, kcx2), (9, kcx14), (11, .inr (.inl (1, 60, [], []))), (12, .inr (.inl (1, 60, [], []))), (13, .inr (.inl (1, 60, [], []))), (14, .inr (.inl (1, 60, [], []))), (80, .inr (.inl (0, 6, [], [])))]
def kch16 : aw_H := [(0, kcx0), (9, kcx14), (11, .inr (.inl (1, 60, [], []))), (12, .inr (.inl (1, 60, [], []))), (13, .inr (.inl (1, 60, [], []))), (14, .inr (.inl (1, 60, [], []))), (80, .inr (.inl (0, 6, [], [])))]
/-- MiceRegisters.text -/
def kcx17 : aw_A := .inr (.inr (.inl (3, [11, 12, 13, 14])))
def kch18 : aw_H := [(0, kcx2), (9, kcx14), (10, kcx17), (11, .inr (.inl (1, 60, [], []))), (12, .inr (.inl (1, 60, [], []))), (13, .inr (.inl (1, 60, [], []))), (14, .inr (.inl (1, 60, [], []))), (80, .inr (.inl (0, 6, [], [])))]
def kcc20 : ak_C := (11, [.inl 0, .inr (false, ar_t32), .inr (false, ar_t32)], kch18, [0, 9, 11, 12, 13, 14, 80], [([[], [], []], some (.inr (false, [(-1, -1)])), kch15), ([[], [(0, 3)], [(-2147483648, -1)]], some (.inr (false, [(-3, -3)])), kch16), ([[], [(0, 3)], [(0, 0)]], some (.inr (false, [(0, 0)])), kch15), ([[], [(0, 3)], [(1, 60)]], some (.inr (false, [(1, 60)])), kch15)])
