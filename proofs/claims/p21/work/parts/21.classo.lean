/-! Contracts over ranges of the class, and their checks; printed by a program of mine. -/
/-- MiceRegisters.digestOfTexts -/
def kch2036 : aw_H := [(0, kcx2), (9, kcx14), (10, kcx17), (11, .inr (.inl (1, 60, [], []))), (12, .inr (.inl (1, 60, [], []))), (13, .inr (.inl (1, 60, [], []))), (14, .inr (.inl (1, 60, [], [])))]
def kcc1081 : ak_C := (102, [.inl 0, .inr (true, ar_t64)], kch2036, [], [([], some (.inr (true, ar_t64)), [])])
def kcb1081 : sm_P := (fun pc => sm_ch sm_t102 pc, sm_Kn 2 7 none, fun x => sm_lk sm_ca2 x, some .long)
def czkc1081x0 : aw_A := .inl (2, [.inl 1, .inl 2, .inl 9, .inl 10, .inl 15, .inl 24, .inl 33, .inl 42, .inl 46, .inl 59, .inl 80, .inr (false, ar_t32), .inr (false, ar_t32), .inr (true, ar_t64), .inr (true, ar_t64)])
def czkc1081x1 : aw_A := .inr (.inl (0, 4, [(0, 3, [(-1, 60)])], []))
def czkc1081x2 : aw_A := .inr (.inr (.inl (3, [11, 12, 13, 14])))
def czkc1081h3 : aw_H := [(0, czkc1081x0), (9, czkc1081x1), (10, czkc1081x2), (11, .inr (.inl (1, 60, [], []))), (12, .inr (.inl (1, 60, [], []))), (13, .inr (.inl (1, 60, [], []))), (14, .inr (.inl (1, 60, [], [])))]
set_option maxRecDepth 100000 in
theorem kck1081 : ai_ch2 [] kcc1081 kcb1081 [] 7 0 [5, 29] [] 2000 [.inr (5, false, [((5, [(0, .inl 0), (1, .inr (true, ar_t64)), (3, .inr (true, ar_t64)), (5, .inr (false, [(0, 4)]))], [], czkc1081h3), none), ((29, [(0, .inl 0), (1, .inr (true, ar_t64)), (3, .inr (true, ar_t64)), (5, .inr (false, [(0, 3)])), (6, .inr (false, [(0, 60)]))], [], czkc1081h3), some 6)])] = true := by decide +kernel

