def kch19 : aw_H := [(0, kcx0), (11, .inr (.inl (1, 60, [], []))), (12, .inr (.inl (1, 60, [], []))), (13, .inr (.inl (1, 60, [], []))), (14, .inr (.inl (1, 60, [], []))), (80, .inr (.inl (0, 6, [], [])))]
def kch20 : aw_H := [(0, kcx2), (11, .inr (.inl (1, 60, [], []))), (12, .inr (.inl (1, 60, [], []))), (13, .inr (.inl (1, 60, [], []))), (14, .inr (.inl (1, 60, [], []))), (80, .inr (.inl (0, 6, [], [])))]
/-- MiceRegisters.put -/
def kcc21 : ak_C := (13, [.inl 0, .inr (false, ar_t32), .inr (false, ar_t32), .inr (false, ar_t32)], kch18, [0, 11, 12, 13, 14, 80], [([[], [(0, 3)], [], []], some (.inr (false, [(-3, -3)])), kch19), ([[], [(0, 3)], [(0, 59)], []], some (.inr (false, ar_t32)), kch20), ([[], [(-2147483648, -1), (4, 2147483647)], [], []], some (.inr (false, [(-1, -1)])), kch20)])
theorem kck21 : ai_chk [kcc19, kcc11] kcc21 (fun pc => sm_ch sm_t13 pc, sm_Kn 2 5 none, fun x => sm_lk sm_ca2 x, some .int) [0, 11, 12, 13, 14, 80] 5 4 [] [] 2000 [] = true := by decide +kernel

