theorem kck1020 : ai_chk [kcc1014, kcc1019] kcc1020 (fun pc => sm_ch sm_t58 pc, sm_Kn 2 2 none, fun x => sm_lk sm_ca2 x, none) [24, 25, 26, 27, 28, 29, 30, 31, 32] 2 0 [] [] 2000 [] = true := by decide +kernel
/-- MiceRegisters.left -/
def kcc1021 : ak_C := (57, [.inl 0, .inr (false, ar_t32), .inr (false, ar_t32)], kch876, [24, 25, 26, 27, 28, 29, 30, 31, 32], [([[], [], []], some (.inr (false, [(-1, -1)])), kch827), ([[], [(0, 7)], [(0, 40)]], some (.inr (false, ar_t32)), kch827)])
theorem kck1021 : ai_chk [kcc976, kcc1020] kcc1021 (fun pc => sm_ch sm_t57 pc, sm_Kn 2 3 none, fun x => sm_lk sm_ca2 x, some .int) [24, 25, 26, 27, 28, 29, 30, 31, 32] 3 3 [] [] 2000 [] = true := by decide +kernel
/-- Register.linesEatenUp -/
def kcc1022 : ak_C := (61, [.inl 24], kch851, [], [([], some (.inr (false, [(0, 0)])), []), ([], some (.inr (false, ar_t32)), [])])
def kch877 : aw_H := [(24, kcx828), (27, .inr (.inl (0, 8, [], [(0, ar_t32)])))]
def kch878 : aw_H := [(24, kcx830), (27, kcx733)]
def kch879 : aw_H := [(24, kcx832), (27, kcx735)]
def kch880 : aw_H := [(24, kcx834), (27, kcx737)]
def kch881 : aw_H := [(24, kcx836), (27, kcx739)]
def kch882 : aw_H := [(24, kcx838), (27, kcx741)]
def kch883 : aw_H := [(24, kcx840), (27, kcx743)]
def kch884 : aw_H := [(24, kcx842), (27, kcx745)]
theorem kck1022 : ai_chk [] kcc1022 (fun pc => sm_ch sm_t61 pc, sm_Kn 1 3 none, fun x => sm_lk sm_ca1 x, some .int) [] 3 0 [4] [] 2000 [(4, [(0, .inl 24), (1, .inr (false, [(0, 0)])), (2, .inr (false, [(0, 0)]))], [], kch851),
  (4, [(0, .inl 24), (1, .inr (false, [(0, 1)])), (2, .inr (false, [(1, 1)]))], [], kch877),
  (4, [(0, .inl 24), (1, .inr (false, ar_t32)), (2, .inr (false, [(2, 2)]))], [], kch878),
  (4, [(0, .inl 24), (1, .inr (false, ar_t32)), (2, .inr (false, [(3, 3)]))], [], kch879),
  (4, [(0, .inl 24), (1, .inr (false, ar_t32)), (2, .inr (false, [(4, 4)]))], [], kch880),
  (4, [(0, .inl 24), (1, .inr (false, ar_t32)), (2, .inr (false, [(5, 5)]))], [], kch881),
  (4, [(0, .inl 24), (1, .inr (false, ar_t32)), (2, .inr (false, [(6, 6)]))], [], kch882),
  (4, [(0, .inl 24), (1, .inr (false, ar_t32)), (2, .inr (false, [(7, 7)]))], [], kch883),
  (4, [(0, .inl 24), (1, .inr (false, ar_t32)), (2, .inr (false, [(8, 8)]))], [], kch884)] = true := by decide +kernel
/-- MiceRegisters.eaten -/
def kcc1023 : ak_C := (60, [.inl 0, .inr (false, ar_t32)], kch876, [24, 25, 26, 27, 28, 29, 30, 31, 32], [([[], [(-2147483648, -1), (41, 2147483647)]], some (.inr (false, [(-1, -1)])), kch827), ([[], [(0, 40)]], some (.inr (false, [(-4, -4)])), kch827), ([[], [(0, 40)]], some (.inr (false, ar_t32)), kch827), ([[], [(0, 40)]], some (.inr (false, [(0, 0)])), kch827)])
theorem kck1023 : ai_chk [kcc1020, kcc1022] kcc1023 (fun pc => sm_ch sm_t60 pc, sm_Kn 2 2 none, fun x => sm_lk sm_ca2 x, some .int) [24, 25, 26, 27, 28, 29, 30, 31, 32] 2 2 [] [] 2000 [] = true := by decide +kernel
/-- MiceRegisters.when -/
def czkc1024x0 : aw_A := .inl (2, [.inl 1, .inl 2, .inl 9, .inl 10, .inl 15, .inl 24, .inl 33, .inl 42, .inl 46, .inl 59, .inl 80, .inr (false, ar_t32), .inr (false, ar_t32), .inr (true, ar_t64), .inr (true, ar_t64)])
def czkc1024x1 : aw_A := .inl (1, [.inr (false, [(0, 8)]), .inr (false, [(0, 4)]), .inr (false, ar_t32), .inr (false, ar_t32), .inr (false, ar_t32), .inl 16, .inl 17, .inl 18, .inl 19, .inl 20, .inl 21, .inl 22, .inl 23])
def czkc1024x2 : aw_A := .inr (.inl (0, 4, [(0, 3, [(0, 7)])], []))
def czkc1024x3 : aw_A := .inl (1, [.inr (false, [(0, 8)]), .inr (false, [(0, 4)]), .inr (false, ar_t32), .inr (false, ar_t32), .inr (false, ar_t32), .inl 25, .inl 26, .inl 27, .inl 28, .inl 29, .inl 30, .inl 31, .inl 32])
def czkc1024h4 : aw_H := [(0, czkc1024x0), (15, czkc1024x1), (16, .inr (.inl (0, 8, [], []))), (17, .inr (.inl (0, 8, [], []))), (18, .inr (.inl (0, 8, [], []))), (19, .inr (.inl (0, 8, [], []))), (20, .inr (.inl (0, 4, [], []))), (21, .inr (.inl (0, 4, [], []))), (22, czkc1024x2), (23, czkc1024x2), (24, czkc1024x3), (25, .inr (.inl (0, 8, [], []))), (26, .inr (.inl (0, 8, [], []))), (27, .inr (.inl (0, 8, [], []))), (28, .inr (.inl (0, 8, [], []))), (29, .inr (.inl (0, 4, [], []))), (30, .inr (.inl (0, 4, [], []))), (31, czkc1024x2), (32, czkc1024x2)]
def czkc1024h5 : aw_H := [(24, czkc1024x3), (25, .inr (.inl (0, 8, [], []))), (26, .inr (.inl (0, 8, [], []))), (27, .inr (.inl (0, 8, [], []))), (28, .inr (.inl (0, 8, [], []))), (29, .inr (.inl (0, 4, [], []))), (30, .inr (.inl (0, 4, [], []))), (31, czkc1024x2), (32, czkc1024x2)]
def kcc1024 : ak_C := (62, [.inl 0, .inr (false, ar_t32)], kch876, [24, 25, 26, 27, 28, 29, 30, 31, 32], [([[], []], some (.inr (false, [(-1, -1)])), czkc1024h5), ([[], []], some (.inr (false, [(0, 40)])), czkc1024h5), ([[], []], some (.inr (false, [(-9, -9)])), czkc1024h5)])
set_option maxRecDepth 100000 in
theorem kck1024 : ai_ch2 [kcc976, kcc1014, kcc1018] kcc1024 (fun pc => sm_ch sm_t62 pc, sm_Kn 2 3 none, fun x => sm_lk sm_ca2 x, some .int) [24, 25, 26, 27, 28, 29, 30, 31, 32] 3 2 [23] [] 2000 [.inr (2, false, [((23, [(0, .inl 0), (1, .inr (false, [(0, 7)])), (2, .inr (false, [(0, 40)]))], [], czkc1024h4), none)])] = true := by decide +kernel
/-- MiceRegisters.isSavedBy -/
def kcc1025 : ak_C := (64, [.inl 0, .inr (false, [(0, 7)]), .inr (false, [(0, 20)]), .inr (false, [(0, 7)]), .inr (false, [(0, 20)])], kch876, [24, 25, 26, 27, 28, 29, 30, 31, 32], [([], some (.inr (false, [(1, 1)])), kch827), ([], some (.inr (false, [(0, 0)])), kch827)])
def czkc1025x0 : aw_A := .inl (2, [.inl 1, .inl 2, .inl 9, .inl 10, .inl 15, .inl 24, .inl 33, .inl 42, .inl 46, .inl 59, .inl 80, .inr (false, ar_t32), .inr (false, ar_t32), .inr (true, ar_t64), .inr (true, ar_t64)])
def czkc1025x1 : aw_A := .inl (1, [.inr (false, [(0, 8)]), .inr (false, [(0, 4)]), .inr (false, ar_t32), .inr (false, ar_t32), .inr (false, ar_t32), .inl 16, .inl 17, .inl 18, .inl 19, .inl 20, .inl 21, .inl 22, .inl 23])
def czkc1025x2 : aw_A := .inr (.inl (0, 4, [(0, 3, [(0, 7)])], []))
def czkc1025x3 : aw_A := .inl (1, [.inr (false, [(0, 8)]), .inr (false, [(0, 4)]), .inr (false, ar_t32), .inr (false, ar_t32), .inr (false, ar_t32), .inl 25, .inl 26, .inl 27, .inl 28, .inl 29, .inl 30, .inl 31, .inl 32])
def czkc1025h4 : aw_H := [(0, czkc1025x0), (15, czkc1025x1), (16, .inr (.inl (0, 8, [], []))), (17, .inr (.inl (0, 8, [], []))), (18, .inr (.inl (0, 8, [], []))), (19, .inr (.inl (0, 8, [], []))), (20, .inr (.inl (0, 4, [], []))), (21, .inr (.inl (0, 4, [], []))), (22, czkc1025x2), (23, czkc1025x2), (24, czkc1025x3), (25, .inr (.inl (0, 8, [], []))), (26, .inr (.inl (0, 8, [], []))), (27, .inr (.inl (0, 8, [], []))), (28, .inr (.inl (0, 8, [], []))), (29, .inr (.inl (0, 4, [], []))), (30, .inr (.inl (0, 4, [], []))), (31, czkc1025x2), (32, czkc1025x2)]
set_option maxRecDepth 100000 in
theorem kck1025 : ai_ch2 [kcc1014, kcc1018] kcc1025 (fun pc => sm_ch sm_t64 pc, sm_Kn 2 6 none, fun x => sm_lk sm_ca2 x, some .boolean) [24, 25, 26, 27, 28, 29, 30, 31, 32] 6 0 [28] [] 2000 [.inr (5, false, [((28, [(0, .inl 0), (1, .inr (false, [(0, 7)])), (2, .inr (false, [(0, 20)])), (3, .inr (false, [(0, 7)])), (4, .inr (false, [(0, 20)])), (5, .inr (false, [(0, 20)]))], [], czkc1025h4), none)])] = true := by decide +kernel
def kch885 : aw_H := [(0, kcx2), (24, kcx25), (25, .inr (.inl (0, 8, [], []))), (26, .inr (.inl (0, 8, [], []))), (27, .inr (.inl (0, 8, [], []))), (28, .inr (.inl (0, 8, [], []))), (29, .inr (.inl (0, 4, [], []))), (30, .inr (.inl (0, 4, [], []))), (31, kcx36), (32, kcx36)]
/-- MiceRegisters.save -/
def kcc1026 : ak_C := (63, [.inl 0, .inr (false, ar_t32), .inr (false, ar_t32)], kch876, [0, 24, 25, 26, 27, 28, 29, 30, 31, 32], [([[], [], []], some (.inr (false, [(-1, -1)])), kch885), ([[], [(0, 7)], [(1, 20)]], some (.inr (false, [(0, 0)])), kch885), ([[], [(0, 7)], [(1, 20)]], some (.inr (false, [(1, 20)])), kch885), ([[], [(0, 7)], [(1, 20)]], some (.inr (false, [(-9, -9)])), kch885)])
def kcb1026 : sm_P := (fun pc => sm_ch sm_t63 pc, sm_Kn 2 5 none, fun x => sm_lk sm_ca2 x, some .int)
def czkc1026x0 : aw_A := .inl (2, [.inl 1, .inl 2, .inl 9, .inl 10, .inl 15, .inl 24, .inl 33, .inl 42, .inl 46, .inl 59, .inl 80, .inr (false, ar_t32), .inr (false, ar_t32), .inr (true, ar_t64), .inr (true, ar_t64)])
def czkc1026x1 : aw_A := .inl (1, [.inr (false, [(0, 8)]), .inr (false, [(0, 4)]), .inr (false, ar_t32), .inr (false, ar_t32), .inr (false, ar_t32), .inl 16, .inl 17, .inl 18, .inl 19, .inl 20, .inl 21, .inl 22, .inl 23])
def czkc1026x2 : aw_A := .inr (.inl (0, 4, [(0, 3, [(0, 7)])], []))
def czkc1026x3 : aw_A := .inl (1, [.inr (false, [(0, 8)]), .inr (false, [(0, 4)]), .inr (false, ar_t32), .inr (false, ar_t32), .inr (false, ar_t32), .inl 25, .inl 26, .inl 27, .inl 28, .inl 29, .inl 30, .inl 31, .inl 32])
def czkc1026h4 : aw_H := [(0, czkc1026x0), (15, czkc1026x1), (16, .inr (.inl (0, 8, [], []))), (17, .inr (.inl (0, 8, [], []))), (18, .inr (.inl (0, 8, [], []))), (19, .inr (.inl (0, 8, [], []))), (20, .inr (.inl (0, 4, [], []))), (21, .inr (.inl (0, 4, [], []))), (22, czkc1026x2), (23, czkc1026x2), (24, czkc1026x3), (25, .inr (.inl (0, 8, [], []))), (26, .inr (.inl (0, 8, [], []))), (27, .inr (.inl (0, 8, [], []))), (28, .inr (.inl (0, 8, [], []))), (29, .inr (.inl (0, 4, [], []))), (30, .inr (.inl (0, 4, [], []))), (31, czkc1026x2), (32, czkc1026x2)]
set_option maxRecDepth 100000 in
theorem kck1026 : ai_ch2 [kcc976, kcc1025, kcc14] kcc1026 kcb1026 [0, 24, 25, 26, 27, 28, 29, 30, 31, 32] 5 3 [43, 52] [] 2000 [.inr (3, false, [((43, [(0, .inl 0), (1, .inr (false, [(0, 7)])), (2, .inr (false, [(1, 20)])), (3, .inr (false, [(1, 21)]))], [], czkc1026h4), none), ((52, [(0, .inl 0), (1, .inr (false, [(0, 7)])), (2, .inr (false, [(1, 20)])), (3, .inr (false, [(1, 20)])), (4, .inr (false, [(0, 8)]))], [], czkc1026h4), some 4)])] = true := by decide +kernel


