theorem kck994 : ai_chk [kcc980, kcc985] kcc994 (fun pc => sm_ch sm_t46 pc, sm_Kn 1 6 none, fun x => sm_lk sm_ca1 x, some .int) [15, 18, 19, 23] 6 0 [4, 100] [] 2000 [(4, [(0, .inl 15), (1, .inr (false, ar_t32)), (2, .inr (false, [(0, 0)])), (3, .inr (false, [(0, 0)]))], [], kch769),
  (4, [(0, .inl 15), (1, .inr (false, ar_t32)), (2, .inr (false, ar_t32)), (3, .inr (false, [(1, 1)])), (4, .inr (false, [(-9, -9), (0, 7)]))], [], kch770),
  (4, [(0, .inl 15), (1, .inr (false, ar_t32)), (2, .inr (false, ar_t32)), (3, .inr (false, [(2, 2)])), (4, .inr (false, [(-9, -9), (0, 7)]))], [], kch771),
  (4, [(0, .inl 15), (1, .inr (false, ar_t32)), (2, .inr (false, ar_t32)), (3, .inr (false, [(3, 3)])), (4, .inr (false, [(-9, -9), (0, 7)]))], [], kch772),
  (4, [(0, .inl 15), (1, .inr (false, ar_t32)), (2, .inr (false, ar_t32)), (3, .inr (false, [(4, 4)])), (4, .inr (false, [(-9, -9), (0, 7)]))], [], kch773),
  (100, [(0, .inl 15), (1, .inr (false, ar_t32)), (2, .inr (false, ar_t32)), (3, .inr (false, [(0, 0)]))], [], kch769),
  (100, [(0, .inl 15), (1, .inr (false, ar_t32)), (2, .inr (false, ar_t32)), (3, .inr (false, [(1, 1)]))], [], kch774),
  (100, [(0, .inl 15), (1, .inr (false, ar_t32)), (2, .inr (false, ar_t32)), (3, .inr (false, [(2, 2)]))], [], kch775),
  (100, [(0, .inl 15), (1, .inr (false, ar_t32)), (2, .inr (false, ar_t32)), (3, .inr (false, [(3, 3)]))], [], kch776),
  (100, [(0, .inl 15), (1, .inr (false, ar_t32)), (2, .inr (false, ar_t32)), (3, .inr (false, [(4, 4)]))], [], kch777),
  (100, [(0, .inl 15), (1, .inr (false, ar_t32)), (2, .inr (false, ar_t32)), (3, .inr (false, [(5, 5)]))], [], kch778),
  (100, [(0, .inl 15), (1, .inr (false, ar_t32)), (2, .inr (false, ar_t32)), (3, .inr (false, [(6, 6)]))], [], kch779),
  (100, [(0, .inl 15), (1, .inr (false, ar_t32)), (2, .inr (false, ar_t32)), (3, .inr (false, [(7, 7)]))], [], kch780),
  (100, [(0, .inl 15), (1, .inr (false, ar_t32)), (2, .inr (false, ar_t32)), (3, .inr (false, [(8, 8)]))], [], kch781)] = true := by decide +kernel
/-- Register.change -/
def kcc995 : ak_C := (45, [.inl 15, .inr (false, [(0, 0)]), .inr (false, [(0, 0)]), .inr (false, ar_t32)], kch769, [15, 18, 19, 23], [([], some (.inr (false, ar_t32)), kch768)])
theorem kck995 : ai_chk [kcc994] kcc995 (fun pc => sm_ch sm_t45 pc, sm_Kn 1 5 none, fun x => sm_lk sm_ca1 x, some .int) [15, 18, 19, 23] 5 0 [] [] 2000 [] = true := by decide +kernel
def kch782 : aw_H := [(15, kcx669), (18, .inr (.inl (0, 8, [], []))), (19, .inr (.inl (0, 8, [], []))), (23, kcx36), (42, kcx696), (43, .inr (.inr (.inr ()))), (44, .inr (.inr (.inr ()))), (45, .inr (.inr (.inr ())))]
/-- MiceRegisters.doTruly -/
def kch783 : aw_H := [(0, kcx2), (15, kcx669), (16, .inr (.inl (0, 8, [], []))), (18, .inr (.inl (0, 8, [], []))), (19, .inr (.inl (0, 8, [], []))), (20, .inr (.inl (0, 4, [], []))), (21, .inr (.inl (0, 4, [], []))), (23, kcx36), (42, kcx696), (43, .inr (.inr (.inr ()))), (44, .inr (.inr (.inr ()))), (45, .inr (.inr (.inr ())))]
def kcc996 : ak_C := (43, [.inl 0, .inr (false, [(0, 0)]), .inr (false, [(0, 0)]), .inr (false, ar_t32)], kch783, [15, 18, 19, 23, 42, 43, 44, 45], [([], some (.inr (false, ar_t32)), kch782)])
theorem kck996 : ai_chk [kcc0, kcc995] kcc996 (fun pc => sm_ch sm_t43 pc, sm_Kn 2 4 none, fun x => sm_lk sm_ca2 x, some .int) [15, 18, 19, 23, 42] 4 0 [] [] 2000 [] = true := by decide +kernel
def kcx784 : aw_A := .inl (1, [.inr (false, [(0, 8)]), .inr (false, [(0, 0)]), .inr (false, ar_t32), .inr (false, ar_t32), .inr (false, ar_t32), .inl 16, .inl 17, .inl 18, .inl 19, .inl 20, .inl 21, .inl 22, .inl 23])
def kch785 : aw_H := [(15, kcx784), (18, .inr (.inl (0, 8, [], []))), (19, .inr (.inl (0, 8, [], []))), (23, kcx36), (42, kcx696), (43, .inr (.inr (.inr ()))), (44, .inr (.inr (.inr ()))), (45, .inr (.inr (.inr ())))]
def kcx786 : aw_A := .inl (0, [.inr (false, [(40, 40)]), .inl 43, .inl 44, .inl 45])
def kch787 : aw_H := [(15, kcx688), (18, .inr (.inl (0, 8, [], []))), (19, .inr (.inl (0, 8, [], []))), (23, kcx36), (42, kcx786), (43, .inr (.inr (.inr ()))), (44, .inr (.inr (.inr ()))), (45, .inr (.inr (.inr ())))]
/-- MiceRegisters.year -/
def kcc997 : ak_C := (42, [.inl 0], kch783, [15, 18, 19, 23, 42, 43, 44, 45], [([], some (.inr (false, [(-4, -4)])), kch785), ([], some (.inr (false, [(-2, -2)])), kch787), ([], some (.inr (false, ar_t32)), kch782)])
theorem kck997 : ai_chk [kcc996] kcc997 (fun pc => sm_ch sm_t42 pc, sm_Kn 2 1 none, fun x => sm_lk sm_ca2 x, some .int) [15, 18, 19, 23, 42] 1 0 [] [] 2000 [] = true := by decide +kernel
/-- Deeds.add -/
def kcc1 : ak_C := (44, [.inl 42, .inr (false, [(1, 1)]), .inr (false, [(0, 7)]), .inr (false, ar_t32)], kch767, [42, 43, 44, 45], [([], none, kch766)])
def kch788 : aw_H := [(19, .inr (.inl (0, 8, [], [])))]
/-- Register.change -/
def kcc998 : ak_C := (45, [.inl 15, .inr (false, [(1, 1)]), .inr (false, [(0, 7)]), .inr (false, ar_t32)], kch756, [19], [([], some (.inr (false, ar_t32)), kch788)])
theorem kck998 : ai_chk [] kcc998 (fun pc => sm_ch sm_t45 pc, sm_Kn 1 5 none, fun x => sm_lk sm_ca1 x, some .int) [19] 5 0 [] [] 2000 [] = true := by decide +kernel
def kch789 : aw_H := [(19, .inr (.inl (0, 8, [], []))), (42, kcx696), (43, .inr (.inr (.inr ()))), (44, .inr (.inr (.inr ()))), (45, .inr (.inr (.inr ())))]
/-- MiceRegisters.doTruly -/
def kch790 : aw_H := [(0, kcx2), (15, kcx669), (19, .inr (.inl (0, 8, [], []))), (42, kcx696), (43, .inr (.inr (.inr ()))), (44, .inr (.inr (.inr ()))), (45, .inr (.inr (.inr ())))]
def kcc999 : ak_C := (43, [.inl 0, .inr (false, [(1, 1)]), .inr (false, [(0, 7)]), .inr (false, ar_t32)], kch790, [19, 42, 43, 44, 45], [([], some (.inr (false, ar_t32)), kch789)])
theorem kck999 : ai_chk [kcc1, kcc998] kcc999 (fun pc => sm_ch sm_t43 pc, sm_Kn 2 4 none, fun x => sm_lk sm_ca2 x, some .int) [19, 42] 4 0 [] [] 2000 [] = true := by decide +kernel
def kch791 : aw_H := [(19, .inr (.inl (0, 8, [], []))), (42, kcx786), (43, .inr (.inr (.inr ()))), (44, .inr (.inr (.inr ()))), (45, .inr (.inr (.inr ())))]
/-- MiceRegisters.cheese -/
def kcc1000 : ak_C := (47, [.inl 0, .inr (false, ar_t32), .inr (false, ar_t32)], kch790, [19, 42, 43, 44, 45], [([[], [], []], some (.inr (false, [(-1, -1)])), kch789), ([[], [(0, 7)], [(1, 9)]], some (.inr (false, [(-4, -4)])), kch789), ([[], [(0, 7)], [(1, 9)]], some (.inr (false, [(-2, -2)])), kch791), ([[], [(0, 7)], [(1, 9)]], some (.inr (false, ar_t32)), kch789)])
theorem kck1000 : ai_chk [kcc976, kcc999] kcc1000 (fun pc => sm_ch sm_t47 pc, sm_Kn 2 3 none, fun x => sm_lk sm_ca2 x, some .int) [19, 42] 3 3 [] [] 2000 [] = true := by decide +kernel
def kcx792 : aw_A := .inl (1, [.inr (false, [(0, 8)]), .inr (false, [(0, 4)]), .inr (false, ar_t32), .inr (false, [(0, 7)]), .inr (false, ar_t32), .inl 16, .inl 17, .inl 18, .inl 19, .inl 20, .inl 21, .inl 22, .inl 23])
def kch793 : aw_H := [(15, kcx792)]
/-- Register.change -/
def kch794 : aw_H := [(15, kcx669)]
def kcc1001 : ak_C := (45, [.inl 15, .inr (false, [(2, 2)]), .inr (false, [(0, 7)]), .inr (false, ar_t32)], kch794, [15], [([], some (.inr (false, ar_t32)), kch793)])
theorem kck1001 : ai_chk [] kcc1001 (fun pc => sm_ch sm_t45 pc, sm_Kn 1 5 none, fun x => sm_lk sm_ca1 x, some .int) [15] 5 0 [] [] 2000 [] = true := by decide +kernel
def kch795 : aw_H := [(15, kcx792), (42, kcx696), (43, .inr (.inr (.inr ()))), (44, .inr (.inr (.inr ()))), (45, .inr (.inr (.inr ())))]
/-- MiceRegisters.doTruly -/
def kch796 : aw_H := [(0, kcx2), (15, kcx669), (42, kcx696), (43, .inr (.inr (.inr ()))), (44, .inr (.inr (.inr ()))), (45, .inr (.inr (.inr ())))]
def kcc1002 : ak_C := (43, [.inl 0, .inr (false, [(2, 2)]), .inr (false, [(0, 7)]), .inr (false, ar_t32)], kch796, [15, 42, 43, 44, 45], [([], some (.inr (false, ar_t32)), kch795)])
theorem kck1002 : ai_chk [kcc0, kcc1001] kcc1002 (fun pc => sm_ch sm_t43 pc, sm_Kn 2 4 none, fun x => sm_lk sm_ca2 x, some .int) [15, 42] 4 0 [] [] 2000 [] = true := by decide +kernel
def kcx797 : aw_A := .inl (1, [.inr (false, [(0, 8)]), .inr (false, [(0, 4)]), .inr (false, ar_t32), .inr (false, [(-9, -9)]), .inr (false, ar_t32), .inl 16, .inl 17, .inl 18, .inl 19, .inl 20, .inl 21, .inl 22, .inl 23])
def kch798 : aw_H := [(15, kcx797)]
/-- Register.change -/
def kcc1003 : ak_C := (45, [.inl 15, .inr (false, [(2, 2)]), .inr (false, [(-9, -9)]), .inr (false, ar_t32)], kch794, [15], [([], some (.inr (false, ar_t32)), kch798)])
theorem kck1003 : ai_chk [] kcc1003 (fun pc => sm_ch sm_t45 pc, sm_Kn 1 5 none, fun x => sm_lk sm_ca1 x, some .int) [15] 5 0 [] [] 2000 [] = true := by decide +kernel
def kch799 : aw_H := [(15, kcx797), (42, kcx696), (43, .inr (.inr (.inr ()))), (44, .inr (.inr (.inr ()))), (45, .inr (.inr (.inr ())))]
/-- MiceRegisters.doTruly -/
def kcc1004 : ak_C := (43, [.inl 0, .inr (false, [(2, 2)]), .inr (false, [(-9, -9)]), .inr (false, ar_t32)], kch796, [15, 42, 43, 44, 45], [([], some (.inr (false, ar_t32)), kch799)])
theorem kck1004 : ai_chk [kcc0, kcc1003] kcc1004 (fun pc => sm_ch sm_t43 pc, sm_Kn 2 4 none, fun x => sm_lk sm_ca2 x, some .int) [15, 42] 4 0 [] [] 2000 [] = true := by decide +kernel
def kch800 : aw_H := [(15, kcx669), (42, kcx696), (43, .inr (.inr (.inr ()))), (44, .inr (.inr (.inr ()))), (45, .inr (.inr (.inr ())))]
def kch801 : aw_H := [(15, kcx688), (42, kcx786), (43, .inr (.inr (.inr ()))), (44, .inr (.inr (.inr ()))), (45, .inr (.inr (.inr ())))]
def kcx802 : aw_A := .inl (1, [.inr (false, [(0, 8)]), .inr (false, [(0, 4)]), .inr (false, ar_t32), .inr (false, [(-9, -9), (0, 7)]), .inr (false, ar_t32), .inl 16, .inl 17, .inl 18, .inl 19, .inl 20, .inl 21, .inl 22, .inl 23])
def kch803 : aw_H := [(15, kcx802), (42, kcx696), (43, .inr (.inr (.inr ()))), (44, .inr (.inr (.inr ()))), (45, .inr (.inr (.inr ())))]
/-- MiceRegisters.cat -/
def kcc1005 : ak_C := (48, [.inl 0, .inr (false, ar_t32)], kch796, [15, 42, 43, 44, 45], [([[], [(-9, -9), (0, 7)]], some (.inr (false, [(-4, -4)])), kch800), ([[], [(-9, -9), (0, 7)]], some (.inr (false, [(-2, -2)])), kch801), ([[], [(-9, -9), (0, 7)]], some (.inr (false, ar_t32)), kch803), ([[], []], some (.inr (false, [(-1, -1)])), kch800)])
theorem kck1005 : ai_chk [kcc976, kcc1002, kcc1004] kcc1005 (fun pc => sm_ch sm_t48 pc, sm_Kn 2 2 none, fun x => sm_lk sm_ca2 x, some .int) [15, 42] 2 2 [] [] 2000 [] = true := by decide +kernel
/-- Register.change -/
def kcc1006 : ak_C := (45, [.inl 15, .inr (false, [(3, 3)]), .inr (false, [(0, 7)]), .inr (false, ar_t32)], kch794, [15], [([], some (.inr (false, [(0, 1)])), kch794)])
theorem kck1006 : ai_chk [] kcc1006 (fun pc => sm_ch sm_t45 pc, sm_Kn 1 5 none, fun x => sm_lk sm_ca1 x, some .int) [15] 5 0 [] [] 2000 [] = true := by decide +kernel
/-- MiceRegisters.doTruly -/
def kcc1007 : ak_C := (43, [.inl 0, .inr (false, [(3, 3)]), .inr (false, [(0, 7)]), .inr (false, ar_t32)], kch796, [15, 42, 43, 44, 45], [([], some (.inr (false, [(0, 1)])), kch800)])
theorem kck1007 : ai_chk [kcc0, kcc1006] kcc1007 (fun pc => sm_ch sm_t43 pc, sm_Kn 2 4 none, fun x => sm_lk sm_ca2 x, some .int) [15, 42] 4 0 [] [] 2000 [] = true := by decide +kernel
def kch804 : aw_H := [(15, kcx669), (42, kcx786), (43, .inr (.inr (.inr ()))), (44, .inr (.inr (.inr ()))), (45, .inr (.inr (.inr ())))]
/-- MiceRegisters.wax -/
def kcc1008 : ak_C := (49, [.inl 0, .inr (false, ar_t32)], kch796, [15, 42, 43, 44, 45], [([[], [(0, 7)]], some (.inr (false, [(-2, -2)])), kch804), ([[], [(0, 7)]], some (.inr (false, [(0, 1)])), kch800), ([[], []], some (.inr (false, [(-1, -1)])), kch800)])
theorem kck1008 : ai_chk [kcc976, kcc1007] kcc1008 (fun pc => sm_ch sm_t49 pc, sm_Kn 2 2 none, fun x => sm_lk sm_ca2 x, some .int) [15, 42] 2 2 [] [] 2000 [] = true := by decide +kernel
/-- MiceRegisters.doAgain -/
def kch805 : aw_H := [(0, kcx2), (15, kcx669), (16, .inr (.inl (0, 8, [], []))), (17, .inr (.inl (0, 8, [], []))), (18, .inr (.inl (0, 8, [], []))), (19, .inr (.inl (0, 8, [], []))), (20, .inr (.inl (0, 4, [], []))), (21, .inr (.inl (0, 4, [], []))), (22, kcx36), (23, kcx36), (42, kcx696)]
def kcc8 : ak_C := (51, [.inl 0], kch805, [15, 18, 19, 23], [([], none, kch768)])
def kch806 : aw_H := [(15, kcx669), (18, .inr (.inl (0, 8, [], []))), (19, .inr (.inl (0, 8, [], []))), (23, kcx36), (42, kcx696)]
def kcx807 : aw_A := .inl (0, [.inr (false, [(0, 39)]), .inl 43, .inl 44, .inl 45])
def kch808 : aw_H := [(15, kcx669), (18, .inr (.inl (0, 8, [], []))), (19, .inr (.inl (0, 8, [], []))), (23, kcx36), (42, kcx807)]
/-- MiceRegisters.undo -/
def kcc1009 : ak_C := (50, [.inl 0, .inr (false, ar_t32)], kch805, [15, 18, 19, 23, 42], [([[], []], some (.inr (false, [(-1, -1)])), kch806), ([[], [(0, 39)]], some (.inr (false, [(-38, 40)])), kch808)])
theorem kck1009 : ai_chk [kcc8] kcc1009 (fun pc => sm_ch sm_t50 pc, sm_Kn 2 3 none, fun x => sm_lk sm_ca2 x, some .int) [15, 18, 19, 23, 42] 3 2 [] [] 2000 [] = true := by decide +kernel
/-- MiceRegisters.isNoPlace -/
def kcc1010 : ak_C := (53, [.inr (false, ar_t32)], [], [], [([[(-2147483648, -1), (3, 2147483647)]], some (.inr (false, [(1, 1)])), []), ([[(0, 2)]], some (.inr (false, [(0, 0)])), [])])
theorem kck1010 : ai_chk [] kcc1010 (fun pc => sm_ch sm_t53 pc, sm_Kn 2 1 none, fun x => sm_lk sm_ca2 x, some .boolean) [] 1 1 [] [] 2000 [] = true := by decide +kernel
def kcx809 : aw_A := .inl (0, [.inr (false, [(0, 40)]), .inl 56, .inl 57, .inl 58])
def kch810 : aw_H := [(55, kcx809), (56, .inr (.inr (.inr ()))), (57, .inr (.inr (.inr ()))), (58, .inr (.inr (.inr ())))]
/-- Deeds.takeFrom -/
def kch811 : aw_H := [(42, kcx696), (55, kcx699)]
def kcc6 : ak_C := (54, [.inl 55, .inl 42], kch811, [55, 56, 57, 58], [([], none, kch810)])
def kcx812 : aw_A := .inl (0, [.inr (false, [(0, 40)]), .inl 52, .inl 53, .inl 54])
def kch813 : aw_H := [(51, kcx812), (52, .inr (.inr (.inr ()))), (53, .inr (.inr (.inr ()))), (54, .inr (.inr (.inr ())))]
/-- Deeds.takeFrom -/
def kch814 : aw_H := [(42, kcx696), (51, kcx698)]
def kcc4 : ak_C := (54, [.inl 51, .inl 42], kch814, [51, 52, 53, 54], [([], none, kch813)])
def kcx815 : aw_A := .inl (0, [.inr (false, [(0, 40)]), .inl 48, .inl 49, .inl 50])
def kch816 : aw_H := [(47, kcx815), (48, .inr (.inr (.inr ()))), (49, .inr (.inr (.inr ()))), (50, .inr (.inr (.inr ())))]
/-- Deeds.takeFrom -/
def kch817 : aw_H := [(42, kcx696), (47, kcx697)]
def kcc2 : ak_C := (54, [.inl 47, .inl 42], kch817, [47, 48, 49, 50], [([], none, kch816)])
def kch818 : aw_H := [(47, kcx697), (48, .inr (.inr (.inr ()))), (49, .inr (.inr (.inr ()))), (50, .inr (.inr (.inr ()))), (51, kcx698), (52, .inr (.inr (.inr ()))), (53, .inr (.inr (.inr ()))), (54, .inr (.inr (.inr ()))), (55, kcx699), (56, .inr (.inr (.inr ()))), (57, .inr (.inr (.inr ()))), (58, .inr (.inr (.inr ())))]
/-- MiceRegisters.keep -/
def kch819 : aw_H := [(0, kcx2), (15, kcx669), (42, kcx696), (46, .inr (.inr (.inl (4, [47, 51, 55])))), (47, kcx697), (48, .inr (.inr (.inr ()))), (49, .inr (.inr (.inr ()))), (50, .inr (.inr (.inr ()))), (51, kcx698), (52, .inr (.inr (.inr ()))), (53, .inr (.inr (.inr ()))), (54, .inr (.inr (.inr ()))), (55, kcx699), (56, .inr (.inr (.inr ()))), (57, .inr (.inr (.inr ()))), (58, .inr (.inr (.inr ())))]
def kcc1011 : ak_C := (52, [.inl 0, .inr (false, ar_t32)], kch819, [47, 48, 49, 50, 51, 52, 53, 54, 55, 56, 57, 58], [([[], [(0, 2)]], some (.inr (false, [(-4, -4)])), kch818), ([[], [(0, 2)]], some (.inr (false, [(0, 40)])), kch818), ([[], [(-2147483648, -1), (3, 2147483647)]], some (.inr (false, [(-1, -1)])), kch818)])
theorem kck1011 : ai_chk [kcc1010, kcc6, kcc4, kcc2] kcc1011 (fun pc => sm_ch sm_t52 pc, sm_Kn 2 2 none, fun x => sm_lk sm_ca2 x, some .int) [47, 51, 55] 2 2 [] [] 2000 [] = true := by decide +kernel
/-- Deeds.takeFrom -/
def kch820 : aw_H := [(42, kcx696), (55, kcx809)]
def kcc7 : ak_C := (54, [.inl 42, .inl 55], kch820, [42, 43, 44, 45], [([], none, kch766)])
/-- Deeds.takeFrom -/
def kch821 : aw_H := [(42, kcx696), (51, kcx812)]
def kcc5 : ak_C := (54, [.inl 42, .inl 51], kch821, [42, 43, 44, 45], [([], none, kch766)])
/-- Deeds.takeFrom -/
def kch822 : aw_H := [(42, kcx696), (47, kcx815)]
def kcc3 : ak_C := (54, [.inl 42, .inl 47], kch822, [42, 43, 44, 45], [([], none, kch766)])
def kch823 : aw_H := [(0, kcx0), (15, kcx669), (18, .inr (.inl (0, 8, [], []))), (19, .inr (.inl (0, 8, [], []))), (23, kcx36), (42, kcx696), (43, .inr (.inr (.inr ()))), (44, .inr (.inr (.inr ()))), (45, .inr (.inr (.inr ()))), (80, .inr (.inl (0, 6, [], [])))]
def kch824 : aw_H := [(0, kcx2), (15, kcx669), (18, .inr (.inl (0, 8, [], []))), (19, .inr (.inl (0, 8, [], []))), (23, kcx36), (42, kcx696), (43, .inr (.inr (.inr ()))), (44, .inr (.inr (.inr ()))), (45, .inr (.inr (.inr ()))), (80, .inr (.inl (0, 6, [], [])))]
/-- MiceRegisters.on -/
def kch825 : aw_H := [(0, kcx2), (15, kcx669), (16, .inr (.inl (0, 8, [], []))), (17, .inr (.inl (0, 8, [], []))), (18, .inr (.inl (0, 8, [], []))), (19, .inr (.inl (0, 8, [], []))), (20, .inr (.inl (0, 4, [], []))), (21, .inr (.inl (0, 4, [], []))), (22, kcx36), (23, kcx36), (42, kcx696), (43, .inr (.inr (.inr ()))), (44, .inr (.inr (.inr ()))), (45, .inr (.inr (.inr ()))), (46, .inr (.inr (.inl (4, [47, 51, 55])))), (47, kcx697), (51, kcx698), (55, kcx699), (80, .inr (.inl (0, 6, [], [])))]
def kcc1012 : ak_C := (55, [.inl 0, .inr (false, ar_t32)], kch825, [0, 15, 18, 19, 23, 42, 43, 44, 45, 80], [([[], [(0, 2)]], some (.inr (false, [(-3, -3)])), kch823), ([[], [(0, 2)]], some (.inr (false, [(0, 40)])), kch824), ([[], [(-2147483648, -1), (3, 2147483647)]], some (.inr (false, [(-1, -1)])), kch824)])
theorem kck1012 : ai_chk [kcc1010, kcc11, kcc7, kcc8, kcc5, kcc3] kcc1012 (fun pc => sm_ch sm_t55 pc, sm_Kn 2 2 none, fun x => sm_lk sm_ca2 x, some .int) [0, 15, 18, 19, 23, 42, 80] 2 2 [] [] 2000 [] = true := by decide +kernel
/-- MiceRegisters.likes -/
def kch826 : aw_H := [(0, kcx2), (15, kcx669), (20, .inr (.inl (0, 4, [], [])))]
def kcc1013 : ak_C := (56, [.inl 0, .inr (false, ar_t32), .inr (false, ar_t32), .inr (false, ar_t32), .inr (false, ar_t32)], kch826, [0], [([[], [], [], [], []], some (.inr (false, [(-1, -1)])), kch10), ([[], [(0, 3)], [(0, 9)], [(0, 20)], [(0, 7)]], some (.inr (false, [(1, 1)])), kch10)])
theorem kck1013 : ai_chk [kcc984, kcc979, kcc14] kcc1013 (fun pc => sm_ch sm_t56 pc, sm_Kn 2 5 none, fun x => sm_lk sm_ca2 x, some .int) [0] 5 5 [] [] 2000 [] = true := by decide +kernel
def kch827 : aw_H := [(24, kcx25), (25, .inr (.inl (0, 8, [], []))), (26, .inr (.inl (0, 8, [], []))), (27, .inr (.inl (0, 8, [], []))), (28, .inr (.inl (0, 8, [], []))), (29, .inr (.inl (0, 4, [], []))), (30, .inr (.inl (0, 4, [], []))), (31, kcx36), (32, kcx36)]
/-- Register.takeFrom -/
def kcc1014 : ak_C := (23, [.inl 24, .inl 15], kch671, [24, 25, 26, 27, 28, 29, 30, 31, 32], [([], none, kch827)])
def kcx828 : aw_A := .inl (1, [.inr (false, [(1, 8)]), .inr (false, [(0, 4)]), .inr (false, ar_t32), .inr (false, ar_t32), .inr (false, ar_t32), .inl 25, .inl 26, .inl 27, .inl 28, .inl 29, .inl 30, .inl 31, .inl 32])
def kch829 : aw_H := [(15, kcx669), (16, .inr (.inl (0, 8, [], []))), (17, .inr (.inl (0, 8, [], []))), (18, .inr (.inl (0, 8, [], []))), (19, .inr (.inl (0, 8, [], []))), (20, .inr (.inl (0, 4, [], []))), (21, .inr (.inl (0, 4, [], []))), (22, kcx36), (23, kcx36), (24, kcx828), (25, .inr (.inl (0, 8, [], []))), (26, .inr (.inl (0, 8, [], []))), (27, .inr (.inl (0, 8, [], []))), (28, .inr (.inl (0, 8, [], []))), (29, .inr (.inl (0, 4, [], []))), (30, .inr (.inl (0, 4, [], []))), (31, kcx36), (32, kcx36)]
def kcx830 : aw_A := .inl (1, [.inr (false, [(2, 8)]), .inr (false, [(0, 4)]), .inr (false, ar_t32), .inr (false, ar_t32), .inr (false, ar_t32), .inl 25, .inl 26, .inl 27, .inl 28, .inl 29, .inl 30, .inl 31, .inl 32])
def kch831 : aw_H := [(15, kcx669), (16, .inr (.inl (0, 8, [], []))), (17, .inr (.inl (0, 8, [], []))), (18, .inr (.inl (0, 8, [], []))), (19, .inr (.inl (0, 8, [], []))), (20, .inr (.inl (0, 4, [], []))), (21, .inr (.inl (0, 4, [], []))), (22, kcx36), (23, kcx36), (24, kcx830), (25, .inr (.inl (0, 8, [], []))), (26, .inr (.inl (0, 8, [], []))), (27, .inr (.inl (0, 8, [], []))), (28, .inr (.inl (0, 8, [], []))), (29, .inr (.inl (0, 4, [], []))), (30, .inr (.inl (0, 4, [], []))), (31, kcx36), (32, kcx36)]
def kcx832 : aw_A := .inl (1, [.inr (false, [(3, 8)]), .inr (false, [(0, 4)]), .inr (false, ar_t32), .inr (false, ar_t32), .inr (false, ar_t32), .inl 25, .inl 26, .inl 27, .inl 28, .inl 29, .inl 30, .inl 31, .inl 32])
def kch833 : aw_H := [(15, kcx669), (16, .inr (.inl (0, 8, [], []))), (17, .inr (.inl (0, 8, [], []))), (18, .inr (.inl (0, 8, [], []))), (19, .inr (.inl (0, 8, [], []))), (20, .inr (.inl (0, 4, [], []))), (21, .inr (.inl (0, 4, [], []))), (22, kcx36), (23, kcx36), (24, kcx832), (25, .inr (.inl (0, 8, [], []))), (26, .inr (.inl (0, 8, [], []))), (27, .inr (.inl (0, 8, [], []))), (28, .inr (.inl (0, 8, [], []))), (29, .inr (.inl (0, 4, [], []))), (30, .inr (.inl (0, 4, [], []))), (31, kcx36), (32, kcx36)]
def kcx834 : aw_A := .inl (1, [.inr (false, [(4, 8)]), .inr (false, [(0, 4)]), .inr (false, ar_t32), .inr (false, ar_t32), .inr (false, ar_t32), .inl 25, .inl 26, .inl 27, .inl 28, .inl 29, .inl 30, .inl 31, .inl 32])
def kch835 : aw_H := [(15, kcx669), (16, .inr (.inl (0, 8, [], []))), (17, .inr (.inl (0, 8, [], []))), (18, .inr (.inl (0, 8, [], []))), (19, .inr (.inl (0, 8, [], []))), (20, .inr (.inl (0, 4, [], []))), (21, .inr (.inl (0, 4, [], []))), (22, kcx36), (23, kcx36), (24, kcx834), (25, .inr (.inl (0, 8, [], []))), (26, .inr (.inl (0, 8, [], []))), (27, .inr (.inl (0, 8, [], []))), (28, .inr (.inl (0, 8, [], []))), (29, .inr (.inl (0, 4, [], []))), (30, .inr (.inl (0, 4, [], []))), (31, kcx36), (32, kcx36)]
def kcx836 : aw_A := .inl (1, [.inr (false, [(5, 8)]), .inr (false, [(0, 4)]), .inr (false, ar_t32), .inr (false, ar_t32), .inr (false, ar_t32), .inl 25, .inl 26, .inl 27, .inl 28, .inl 29, .inl 30, .inl 31, .inl 32])
def kch837 : aw_H := [(15, kcx669), (16, .inr (.inl (0, 8, [], []))), (17, .inr (.inl (0, 8, [], []))), (18, .inr (.inl (0, 8, [], []))), (19, .inr (.inl (0, 8, [], []))), (20, .inr (.inl (0, 4, [], []))), (21, .inr (.inl (0, 4, [], []))), (22, kcx36), (23, kcx36), (24, kcx836), (25, .inr (.inl (0, 8, [], []))), (26, .inr (.inl (0, 8, [], []))), (27, .inr (.inl (0, 8, [], []))), (28, .inr (.inl (0, 8, [], []))), (29, .inr (.inl (0, 4, [], []))), (30, .inr (.inl (0, 4, [], []))), (31, kcx36), (32, kcx36)]
def kcx838 : aw_A := .inl (1, [.inr (false, [(6, 8)]), .inr (false, [(0, 4)]), .inr (false, ar_t32), .inr (false, ar_t32), .inr (false, ar_t32), .inl 25, .inl 26, .inl 27, .inl 28, .inl 29, .inl 30, .inl 31, .inl 32])
def kch839 : aw_H := [(15, kcx669), (16, .inr (.inl (0, 8, [], []))), (17, .inr (.inl (0, 8, [], []))), (18, .inr (.inl (0, 8, [], []))), (19, .inr (.inl (0, 8, [], []))), (20, .inr (.inl (0, 4, [], []))), (21, .inr (.inl (0, 4, [], []))), (22, kcx36), (23, kcx36), (24, kcx838), (25, .inr (.inl (0, 8, [], []))), (26, .inr (.inl (0, 8, [], []))), (27, .inr (.inl (0, 8, [], []))), (28, .inr (.inl (0, 8, [], []))), (29, .inr (.inl (0, 4, [], []))), (30, .inr (.inl (0, 4, [], []))), (31, kcx36), (32, kcx36)]
def kcx840 : aw_A := .inl (1, [.inr (false, [(7, 8)]), .inr (false, [(0, 4)]), .inr (false, ar_t32), .inr (false, ar_t32), .inr (false, ar_t32), .inl 25, .inl 26, .inl 27, .inl 28, .inl 29, .inl 30, .inl 31, .inl 32])
def kch841 : aw_H := [(15, kcx669), (16, .inr (.inl (0, 8, [], []))), (17, .inr (.inl (0, 8, [], []))), (18, .inr (.inl (0, 8, [], []))), (19, .inr (.inl (0, 8, [], []))), (20, .inr (.inl (0, 4, [], []))), (21, .inr (.inl (0, 4, [], []))), (22, kcx36), (23, kcx36), (24, kcx840), (25, .inr (.inl (0, 8, [], []))), (26, .inr (.inl (0, 8, [], []))), (27, .inr (.inl (0, 8, [], []))), (28, .inr (.inl (0, 8, [], []))), (29, .inr (.inl (0, 4, [], []))), (30, .inr (.inl (0, 4, [], []))), (31, kcx36), (32, kcx36)]
def kcx842 : aw_A := .inl (1, [.inr (false, [(8, 8)]), .inr (false, [(0, 4)]), .inr (false, ar_t32), .inr (false, ar_t32), .inr (false, ar_t32), .inl 25, .inl 26, .inl 27, .inl 28, .inl 29, .inl 30, .inl 31, .inl 32])
def kch843 : aw_H := [(15, kcx669), (16, .inr (.inl (0, 8, [], []))), (17, .inr (.inl (0, 8, [], []))), (18, .inr (.inl (0, 8, [], []))), (19, .inr (.inl (0, 8, [], []))), (20, .inr (.inl (0, 4, [], []))), (21, .inr (.inl (0, 4, [], []))), (22, kcx36), (23, kcx36), (24, kcx842), (25, .inr (.inl (0, 8, [], []))), (26, .inr (.inl (0, 8, [], []))), (27, .inr (.inl (0, 8, [], []))), (28, .inr (.inl (0, 8, [], []))), (29, .inr (.inl (0, 4, [], []))), (30, .inr (.inl (0, 4, [], []))), (31, kcx36), (32, kcx36)]
def kch844 : aw_H := [(15, kcx669), (16, .inr (.inl (0, 8, [], []))), (17, .inr (.inl (0, 8, [], []))), (18, .inr (.inl (0, 8, [], []))), (19, .inr (.inl (0, 8, [], []))), (20, .inr (.inl (0, 4, [], []))), (21, .inr (.inl (0, 4, [], []))), (22, kcx36), (23, kcx36), (24, kcx632), (25, .inr (.inl (0, 8, [], []))), (26, .inr (.inl (0, 8, [], []))), (27, .inr (.inl (0, 8, [], []))), (28, .inr (.inl (0, 8, [], []))), (29, .inr (.inl (0, 4, [], []))), (30, .inr (.inl (0, 4, [], []))), (31, kcx36), (32, kcx36)]
def kcx845 : aw_A := .inl (1, [.inr (false, [(0, 8)]), .inr (false, [(2, 4)]), .inr (false, ar_t32), .inr (false, ar_t32), .inr (false, ar_t32), .inl 25, .inl 26, .inl 27, .inl 28, .inl 29, .inl 30, .inl 31, .inl 32])
def kch846 : aw_H := [(15, kcx669), (16, .inr (.inl (0, 8, [], []))), (17, .inr (.inl (0, 8, [], []))), (18, .inr (.inl (0, 8, [], []))), (19, .inr (.inl (0, 8, [], []))), (20, .inr (.inl (0, 4, [], []))), (21, .inr (.inl (0, 4, [], []))), (22, kcx36), (23, kcx36), (24, kcx845), (25, .inr (.inl (0, 8, [], []))), (26, .inr (.inl (0, 8, [], []))), (27, .inr (.inl (0, 8, [], []))), (28, .inr (.inl (0, 8, [], []))), (29, .inr (.inl (0, 4, [], []))), (30, .inr (.inl (0, 4, [], []))), (31, kcx36), (32, kcx36)]
def kcx847 : aw_A := .inl (1, [.inr (false, [(0, 8)]), .inr (false, [(3, 4)]), .inr (false, ar_t32), .inr (false, ar_t32), .inr (false, ar_t32), .inl 25, .inl 26, .inl 27, .inl 28, .inl 29, .inl 30, .inl 31, .inl 32])
def kch848 : aw_H := [(15, kcx669), (16, .inr (.inl (0, 8, [], []))), (17, .inr (.inl (0, 8, [], []))), (18, .inr (.inl (0, 8, [], []))), (19, .inr (.inl (0, 8, [], []))), (20, .inr (.inl (0, 4, [], []))), (21, .inr (.inl (0, 4, [], []))), (22, kcx36), (23, kcx36), (24, kcx847), (25, .inr (.inl (0, 8, [], []))), (26, .inr (.inl (0, 8, [], []))), (27, .inr (.inl (0, 8, [], []))), (28, .inr (.inl (0, 8, [], []))), (29, .inr (.inl (0, 4, [], []))), (30, .inr (.inl (0, 4, [], []))), (31, kcx36), (32, kcx36)]
def kcx849 : aw_A := .inl (1, [.inr (false, [(0, 8)]), .inr (false, [(4, 4)]), .inr (false, ar_t32), .inr (false, ar_t32), .inr (false, ar_t32), .inl 25, .inl 26, .inl 27, .inl 28, .inl 29, .inl 30, .inl 31, .inl 32])
