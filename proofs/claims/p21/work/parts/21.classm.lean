/-! Contracts over ranges of the class, and their checks; printed by a program of mine. -/
/-- MiceRegisters.sure -/
def kch966 : aw_H := [(0, kcx2), (15, kcx669), (18, .inr (.inl (0, 8, [], []))), (80, .inr (.inl (0, 6, [], [])))]
def kcc1042 : ak_C := (80, [.inl 0, .inr (false, ar_t32)], kch966, [0, 80], [([[], [(-2147483648, -1), (321, 2147483647)]], some (.inr (false, [(-1, -1)])), kch3), ([[], [(0, 320)]], some (.inr (false, [(-4, -4)])), kch3), ([[], [(0, 320)]], some (.inr (false, [(-3, -3)])), kch1), ([[], [(0, 320)]], some (.inr (false, [(0, 255)])), kch3)])
def kcb1042 : sm_P := (fun pc => sm_ch sm_t80 pc, sm_Kn 2 7 none, fun x => sm_lk sm_ca2 x, some .int)
def czkc1042x0 : aw_A := .inl (2, [.inl 1, .inl 2, .inl 9, .inl 10, .inl 15, .inl 24, .inl 33, .inl 42, .inl 46, .inl 59, .inl 80, .inr (false, ar_t32), .inr (false, ar_t32), .inr (true, ar_t64), .inr (true, ar_t64)])
def czkc1042x1 : aw_A := .inl (1, [.inr (false, [(0, 8)]), .inr (false, [(1, 4)]), .inr (false, ar_t32), .inr (false, ar_t32), .inr (false, ar_t32), .inl 16, .inl 17, .inl 18, .inl 19, .inl 20, .inl 21, .inl 22, .inl 23])
def czkc1042h2 : aw_H := [(0, czkc1042x0), (15, czkc1042x1), (18, .inr (.inl (0, 8, [], []))), (80, .inr (.inl (0, 6, [], [])))]
set_option maxRecDepth 100000 in
theorem kck1042 : ai_ch2 [kcc1038, kcc11, kcc14] kcc1042 kcb1042 [0, 80] 7 2 [49] [] 2000 [.inr (6, false, [((49, [(0, .inl 0), (1, .inr (false, [(0, 320)])), (2, .inr (false, [(0, 255)])), (3, .inr (false, [(0, 255)])), (4, .inr (false, ar_t32)), (5, .inr (false, [(0, 1)])), (6, .inr (false, [(0, 256)]))], [], czkc1042h2), none)])] = true := by decide +kernel

