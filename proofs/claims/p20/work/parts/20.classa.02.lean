/-- MiceRegisters.refusalOfPlace -/
def kch9 : aw_H := [(0, kcx2), (1, kcx4), (80, .inr (.inl (0, 6, [], [])))]
def kcc13 : ak_C := (4, [.inl 0, .inr (false, ar_t32), .inr (false, ar_t32)], kch9, [0, 80], [([[], [(0, 5)], []], some (.inr (false, [(-3, -3)])), kch1), ([[], [(0, 5)], [(0, 39)]], some (.inr (false, [(0, 0)])), kch3), ([[], [(-2147483648, -1), (6, 2147483647)], []], some (.inr (false, [(-1, -1)])), kch3)])
theorem kck13 : ai_chk [kcc10, kcc11] kcc13 (fun pc => sm_ch sm_t4 pc, sm_Kn 2 3 none, fun x => sm_lk sm_ca2 x, some .int) [0, 80] 3 3 [] [] 2000 [] = true := by decide +kernel
def kch10 : aw_H := [(0, kcx2)]
/-- MiceRegisters.tell -/
def kcc14 : ak_C := (5, [.inl 0, .inr (false, ar_t32)], kch10, [0], [([], some (.inr (false, [(1, 1)])), kch10)])
