def kcx786 : aw_A := .inl (0, [.inr (false, [(40, 40)]), .inl 43, .inl 44, .inl 45])
def kch787 : aw_H := [(15, kcx688), (18, .inr (.inl (0, 8, [], []))), (19, .inr (.inl (0, 8, [], []))), (23, kcx36), (42, kcx786), (43, .inr (.inr (.inr ()))), (44, .inr (.inr (.inr ()))), (45, .inr (.inr (.inr ())))]
/-- MiceRegisters.year -/
def kcc997 : ak_C := (42, [.inl 0], kch783, [15, 18, 19, 23, 42, 43, 44, 45], [([], some (.inr (false, [(-4, -4)])), kch785), ([], some (.inr (false, [(-2, -2)])), kch787), ([], some (.inr (false, ar_t32)), kch782)])
theorem kck997 : ai_chk [kcc996] kcc997 (fun pc => sm_ch sm_t42 pc, sm_Kn 2 1 none, fun x => sm_lk sm_ca2 x, some .int) [15, 18, 19, 23, 42] 1 0 [] [] 2000 [] = true := by decide +kernel
/-- Deeds.add -/
def kcc1 : ak_C := (44, [.inl 42, .inr (false, [(1, 1)]), .inr (false, [(0, 7)]), .inr (false, ar_t32)], kch767, [42, 43, 44, 45], [([], none, kch766)])
def kch788 : aw_H := [(19, .inr (.inl (0, 8, [], [])))]
/-- Register.change -/
def kcc998 : ak_C := (45, [.inl 15, .inr (false, [(1, 1)]), .inr (false, [(0, 7)]), .inr (false, ar_t32)], kch756, [19], [([], some (.inr (false, ar_t32)), kch788)])
theorem kck998 : ai_chk [] kcc998 (fun pc => sm_ch sm_t45 pc, sm_Kn 1 5 none, fun x => sm_lk sm_ca1 x, some .int) [19] 5 0 [] [] 2000 [] = true := by decide +kernel
def kch789 : aw_H := [(19, .inr (.inl (0, 8, [], []))), (42, kcx696), (43, .inr (.inr (.inr ()))), (44, .inr (.inr (.inr ()))), (45, .inr (.inr (.inr ())))]
/-- MiceRegisters.doTruly -/
def kch790 : aw_H := [(0, kcx2), (15, kcx669), (19, .inr (.inl (0, 8, [], []))), (42, kcx696), (43, .inr (.inr (.inr ()))), (44, .inr (.inr (.inr ()))), (45, .inr (.inr (.inr ())))]
def kcc999 : ak_C := (43, [.inl 0, .inr (false, [(1, 1)]), .inr (false, [(0, 7)]), .inr (false, ar_t32)], kch790, [19, 42, 43, 44, 45], [([], some (.inr (false, ar_t32)), kch789)])
theorem kck999 : ai_chk [kcc1, kcc998] kcc999 (fun pc => sm_ch sm_t43 pc, sm_Kn 2 4 none, fun x => sm_lk sm_ca2 x, some .int) [19, 42] 4 0 [] [] 2000 [] = true := by decide +kernel
def kch791 : aw_H := [(19, .inr (.inl (0, 8, [], []))), (42, kcx786), (43, .inr (.inr (.inr ()))), (44, .inr (.inr (.inr ()))), (45, .inr (.inr (.inr ())))]
/-- MiceRegisters.cheese -/
def kcc1000 : ak_C := (47, [.inl 0, .inr (false, ar_t32), .inr (false, ar_t32)], kch790, [19, 42, 43, 44, 45], [([[], [], []], some (.inr (false, [(-1, -1)])), kch789), ([[], [(0, 7)], [(1, 9)]], some (.inr (false, [(-4, -4)])), kch789), ([[], [(0, 7)], [(1, 9)]], some (.inr (false, [(-2, -2)])), kch791), ([[], [(0, 7)], [(1, 9)]], some (.inr (false, ar_t32)), kch789)])
theorem kck1000 : ai_chk [kcc976, kcc999] kcc1000 (fun pc => sm_ch sm_t47 pc, sm_Kn 2 3 none, fun x => sm_lk sm_ca2 x, some .int) [19, 42] 3 3 [] [] 2000 [] = true := by decide +kernel
def kcx792 : aw_A := .inl (1, [.inr (false, [(0, 8)]), .inr (false, [(0, 4)]), .inr (false, ar_t32), .inr (false, [(0, 7)]), .inr (false, ar_t32), .inl 16, .inl 17, .inl 18, .inl 19, .inl 20, .inl 21, .inl 22, .inl 23])
def kch793 : aw_H := [(15, kcx792)]
/-- Register.change -/
def kch794 : aw_H := [(15, kcx669)]
def kcc1001 : ak_C := (45, [.inl 15, .inr (false, [(2, 2)]), .inr (false, [(0, 7)]), .inr (false, ar_t32)], kch794, [15], [([], some (.inr (false, ar_t32)), kch793)])
theorem kck1001 : ai_chk [] kcc1001 (fun pc => sm_ch sm_t45 pc, sm_Kn 1 5 none, fun x => sm_lk sm_ca1 x, some .int) [15] 5 0 [] [] 2000 [] = true := by decide +kernel
def kch795 : aw_H := [(15, kcx792), (42, kcx696), (43, .inr (.inr (.inr ()))), (44, .inr (.inr (.inr ()))), (45, .inr (.inr (.inr ())))]
/-- MiceRegisters.doTruly -/
def kch796 : aw_H := [(0, kcx2), (15, kcx669), (42, kcx696), (43, .inr (.inr (.inr ()))), (44, .inr (.inr (.inr ()))), (45, .inr (.inr (.inr ())))]
def kcc1002 : ak_C := (43, [.inl 0, .inr (false, [(2, 2)]), .inr (false, [(0, 7)]), .inr (false, ar_t32)], kch796, [15, 42, 43, 44, 45], [([], some (.inr (false, ar_t32)), kch795)])
theorem kck1002 : ai_chk [kcc0, kcc1001] kcc1002 (fun pc => sm_ch sm_t43 pc, sm_Kn 2 4 none, fun x => sm_lk sm_ca2 x, some .int) [15, 42] 4 0 [] [] 2000 [] = true := by decide +kernel
def kcx797 : aw_A := .inl (1, [.inr (false, [(0, 8)]), .inr (false, [(0, 4)]), .inr (false, ar_t32), .inr (false, [(-9, -9)]), .inr (false, ar_t32), .inl 16, .inl 17, .inl 18, .inl 19, .inl 20, .inl 21, .inl 22, .inl 23])
def kch798 : aw_H := [(15, kcx797)]
/-- Register.change -/
def kcc1003 : ak_C := (45, [.inl 15, .inr (false, [(2, 2)]), .inr (false, [(-9, -9)]), .inr (false, ar_t32)], kch794, [15], [([], some (.inr (false, ar_t32)), kch798)])
theorem kck1003 : ai_chk [] kcc1003 (fun pc => sm_ch sm_t45 pc, sm_Kn 1 5 none, fun x => sm_lk sm_ca1 x, some .int) [15] 5 0 [] [] 2000 [] = true := by decide +kernel
def kch799 : aw_H := [(15, kcx797), (42, kcx696), (43, .inr (.inr (.inr ()))), (44, .inr (.inr (.inr ()))), (45, .inr (.inr (.inr ())))]
/-- MiceRegisters.doTruly -/
def kcc1004 : ak_C := (43, [.inl 0, .inr (false, [(2, 2)]), .inr (false, [(-9, -9)]), .inr (false, ar_t32)], kch796, [15, 42, 43, 44, 45], [([], some (.inr (false, ar_t32)), kch799)])
theorem kck1004 : ai_chk [kcc0, kcc1003] kcc1004 (fun pc => sm_ch sm_t43 pc, sm_Kn 2 4 none, fun x => sm_lk sm_ca2 x, some .int) [15, 42] 4 0 [] [] 2000 [] = true := by decide +kernel
def kch800 : aw_H := [(15, kcx669), (42, kcx696), (43, .inr (.inr (.inr ()))), (44, .inr (.inr (.inr ()))), (45, .inr (.inr (.inr ())))]
def kch801 : aw_H := [(15, kcx688), (42, kcx786), (43, .inr (.inr (.inr ()))), (44, .inr (.inr (.inr ()))), (45, .inr (.inr (.inr ())))]
def kcx802 : aw_A := .inl (1, [.inr (false, [(0, 8)]), .inr (false, [(0, 4)]), .inr (false, ar_t32), .inr (false, [(-9, -9), (0, 7)]), .inr (false, ar_t32), .inl 16, .inl 17, .inl 18, .inl 19, .inl 20, .inl 21, .inl 22, .inl 23])
def kch803 : aw_H := [(15, kcx802), (42, kcx696), (43, .inr (.inr (.inr ()))), (44, .inr (.inr (.inr ()))), (45, .inr (.inr (.inr ())))]
/-- MiceRegisters.cat -/
def kcc1005 : ak_C := (48, [.inl 0, .inr (false, ar_t32)], kch796, [15, 42, 43, 44, 45], [([[], [(-9, -9), (0, 7)]], some (.inr (false, [(-4, -4)])), kch800), ([[], [(-9, -9), (0, 7)]], some (.inr (false, [(-2, -2)])), kch801), ([[], [(-9, -9), (0, 7)]], some (.inr (false, ar_t32)), kch803), ([[], []], some (.inr (false, [(-1, -1)])), kch800)])
theorem kck1005 : ai_chk [kcc976, kcc1002, kcc1004] kcc1005 (fun pc => sm_ch sm_t48 pc, sm_Kn 2 2 none, fun x => sm_lk sm_ca2 x, some .int) [15, 42] 2 2 [] [] 2000 [] = true := by decide +kernel
/-- Register.change -/
def kcc1006 : ak_C := (45, [.inl 15, .inr (false, [(3, 3)]), .inr (false, [(0, 7)]), .inr (false, ar_t32)], kch794, [15], [([], some (.inr (false, [(0, 1)])), kch794)])
theorem kck1006 : ai_chk [] kcc1006 (fun pc => sm_ch sm_t45 pc, sm_Kn 1 5 none, fun x => sm_lk sm_ca1 x, some .int) [15] 5 0 [] [] 2000 [] = true := by decide +kernel
/-- MiceRegisters.doTruly -/
def kcc1007 : ak_C := (43, [.inl 0, .inr (false, [(3, 3)]), .inr (false, [(0, 7)]), .inr (false, ar_t32)], kch796, [15, 42, 43, 44, 45], [([], some (.inr (false, [(0, 1)])), kch800)])
theorem kck1007 : ai_chk [kcc0, kcc1006] kcc1007 (fun pc => sm_ch sm_t43 pc, sm_Kn 2 4 none, fun x => sm_lk sm_ca2 x, some .int) [15, 42] 4 0 [] [] 2000 [] = true := by decide +kernel
def kch804 : aw_H := [(15, kcx669), (42, kcx786), (43, .inr (.inr (.inr ()))), (44, .inr (.inr (.inr ()))), (45, .inr (.inr (.inr ())))]
/-- MiceRegisters.wax -/
def kcc1008 : ak_C := (49, [.inl 0, .inr (false, ar_t32)], kch796, [15, 42, 43, 44, 45], [([[], [(0, 7)]], some (.inr (false, [(-2, -2)])), kch804), ([[], [(0, 7)]], some (.inr (false, [(0, 1)])), kch800), ([[], []], some (.inr (false, [(-1, -1)])), kch800)])
theorem kck1008 : ai_chk [kcc976, kcc1007] kcc1008 (fun pc => sm_ch sm_t49 pc, sm_Kn 2 2 none, fun x => sm_lk sm_ca2 x, some .int) [15, 42] 2 2 [] [] 2000 [] = true := by decide +kernel
/-- MiceRegisters.doAgain -/
def kch805 : aw_H := [(0, kcx2), (15, kcx669), (16, .inr (.inl (0, 8, [], []))), (17, .inr (.inl (0, 8, [], []))), (18, .inr (.inl (0, 8, [], []))), (19, .inr (.inl (0, 8, [], []))), (20, .inr (.inl (0, 4, [], []))), (21, .inr (.inl (0, 4, [], []))), (22, kcx36), (23, kcx36), (42, kcx696)]
def kcc8 : ak_C := (51, [.inl 0], kch805, [15, 18, 19, 23], [([], none, kch768)])
def kch806 : aw_H := [(15, kcx669), (18, .inr (.inl (0, 8, [], []))), (19, .inr (.inl (0, 8, [], []))), (23, kcx36), (42, kcx696)]
def kcx807 : aw_A := .inl (0, [.inr (false, [(0, 39)]), .inl 43, .inl 44, .inl 45])
def kch808 : aw_H := [(15, kcx669), (18, .inr (.inl (0, 8, [], []))), (19, .inr (.inl (0, 8, [], []))), (23, kcx36), (42, kcx807)]
/-- MiceRegisters.undo -/
def kcc1009 : ak_C := (50, [.inl 0, .inr (false, ar_t32)], kch805, [15, 18, 19, 23, 42], [([[], []], some (.inr (false, [(-1, -1)])), kch806), ([[], [(0, 39)]], some (.inr (false, [(-38, 40)])), kch808)])
theorem kck1009 : ai_chk [kcc8] kcc1009 (fun pc => sm_ch sm_t50 pc, sm_Kn 2 3 none, fun x => sm_lk sm_ca2 x, some .int) [15, 18, 19, 23, 42] 3 2 [] [] 2000 [] = true := by decide +kernel
/-- MiceRegisters.isNoPlace -/
def kcc1010 : ak_C := (53, [.inr (false, ar_t32)], [], [], [([[(-2147483648, -1), (3, 2147483647)]], some (.inr (false, [(1, 1)])), []), ([[(0, 2)]], some (.inr (false, [(0, 0)])), [])])
theorem kck1010 : ai_chk [] kcc1010 (fun pc => sm_ch sm_t53 pc, sm_Kn 2 1 none, fun x => sm_lk sm_ca2 x, some .boolean) [] 1 1 [] [] 2000 [] = true := by decide +kernel
def kcx809 : aw_A := .inl (0, [.inr (false, [(0, 40)]), .inl 56, .inl 57, .inl 58])
def kch810 : aw_H := [(55, kcx809), (56, .inr (.inr (.inr ()))), (57, .inr (.inr (.inr ()))), (58, .inr (.inr (.inr ())))]
/-- Deeds.takeFrom -/
def kch811 : aw_H := [(42, kcx696), (55, kcx699)]
def kcc6 : ak_C := (54, [.inl 55, .inl 42], kch811, [55, 56, 57, 58], [([], none, kch810)])
