def kcx812 : aw_A := .inl (0, [.inr (false, [(0, 40)]), .inl 52, .inl 53, .inl 54])
def kch813 : aw_H := [(51, kcx812), (52, .inr (.inr (.inr ()))), (53, .inr (.inr (.inr ()))), (54, .inr (.inr (.inr ())))]
/-- Deeds.takeFrom -/
def kch814 : aw_H := [(42, kcx696), (51, kcx698)]
def kcc4 : ak_C := (54, [.inl 51, .inl 42], kch814, [51, 52, 53, 54], [([], none, kch813)])
def kcx815 : aw_A := .inl (0, [.inr (false, [(0, 40)]), .inl 48, .inl 49, .inl 50])
def kch816 : aw_H := [(47, kcx815), (48, .inr (.inr (.inr ()))), (49, .inr (.inr (.inr ()))), (50, .inr (.inr (.inr ())))]
/-- Deeds.takeFrom -/
def kch817 : aw_H := [(42, kcx696), (47, kcx697)]
def kcc2 : ak_C := (54, [.inl 47, .inl 42], kch817, [47, 48, 49, 50], [([], none, kch816)])
def kch818 : aw_H := [(47, kcx697), (48, .inr (.inr (.inr ()))), (49, .inr (.inr (.inr ()))), (50, .inr (.inr (.inr ()))), (51, kcx698), (52, .inr (.inr (.inr ()))), (53, .inr (.inr (.inr ()))), (54, .inr (.inr (.inr ()))), (55, kcx699), (56, .inr (.inr (.inr ()))), (57, .inr (.inr (.inr ()))), (58, .inr (.inr (.inr ())))]
/-- MiceRegisters.keep -/
def kch819 : aw_H := [(0, kcx2), (15, kcx669), (42, kcx696), (46, .inr (.inr (.inl (4, [47, 51, 55])))), (47, kcx697), (48, .inr (.inr (.inr ()))), (49, .inr (.inr (.inr ()))), (50, .inr (.inr (.inr ()))), (51, kcx698), (52, .inr (.inr (.inr ()))), (53, .inr (.inr (.inr ()))), (54, .inr (.inr (.inr ()))), (55, kcx699), (56, .inr (.inr (.inr ()))), (57, .inr (.inr (.inr ()))), (58, .inr (.inr (.inr ())))]
def kcc1011 : ak_C := (52, [.inl 0, .inr (false, ar_t32)], kch819, [47, 48, 49, 50, 51, 52, 53, 54, 55, 56, 57, 58], [([[], [(0, 2)]], some (.inr (false, [(-4, -4)])), kch818), ([[], [(0, 2)]], some (.inr (false, [(0, 40)])), kch818), ([[], [(-2147483648, -1), (3, 2147483647)]], some (.inr (false, [(-1, -1)])), kch818)])
theorem kck1011 : ai_chk [kcc1010, kcc6, kcc4, kcc2] kcc1011 (fun pc => sm_ch sm_t52 pc, sm_Kn 2 2 none, fun x => sm_lk sm_ca2 x, some .int) [47, 51, 55] 2 2 [] [] 2000 [] = true := by decide +kernel
/-- Deeds.takeFrom -/
def kch820 : aw_H := [(42, kcx696), (55, kcx809)]
def kcc7 : ak_C := (54, [.inl 42, .inl 55], kch820, [42, 43, 44, 45], [([], none, kch766)])
/-- Deeds.takeFrom -/
def kch821 : aw_H := [(42, kcx696), (51, kcx812)]
def kcc5 : ak_C := (54, [.inl 42, .inl 51], kch821, [42, 43, 44, 45], [([], none, kch766)])
/-- Deeds.takeFrom -/
def kch822 : aw_H := [(42, kcx696), (47, kcx815)]
def kcc3 : ak_C := (54, [.inl 42, .inl 47], kch822, [42, 43, 44, 45], [([], none, kch766)])
def kch823 : aw_H := [(0, kcx0), (15, kcx669), (18, .inr (.inl (0, 8, [], []))), (19, .inr (.inl (0, 8, [], []))), (23, kcx36), (42, kcx696), (43, .inr (.inr (.inr ()))), (44, .inr (.inr (.inr ()))), (45, .inr (.inr (.inr ()))), (80, .inr (.inl (0, 6, [], [])))]
def kch824 : aw_H := [(0, kcx2), (15, kcx669), (18, .inr (.inl (0, 8, [], []))), (19, .inr (.inl (0, 8, [], []))), (23, kcx36), (42, kcx696), (43, .inr (.inr (.inr ()))), (44, .inr (.inr (.inr ()))), (45, .inr (.inr (.inr ()))), (80, .inr (.inl (0, 6, [], [])))]
/-- MiceRegisters.on -/
def kch825 : aw_H := [(0, kcx2), (15, kcx669), (16, .inr (.inl (0, 8, [], []))), (17, .inr (.inl (0, 8, [], []))), (18, .inr (.inl (0, 8, [], []))), (19, .inr (.inl (0, 8, [], []))), (20, .inr (.inl (0, 4, [], []))), (21, .inr (.inl (0, 4, [], []))), (22, kcx36), (23, kcx36), (42, kcx696), (43, .inr (.inr (.inr ()))), (44, .inr (.inr (.inr ()))), (45, .inr (.inr (.inr ()))), (46, .inr (.inr (.inl (4, [47, 51, 55])))), (47, kcx697), (51, kcx698), (55, kcx699), (80, .inr (.inl (0, 6, [], [])))]
def kcc1012 : ak_C := (55, [.inl 0, .inr (false, ar_t32)], kch825, [0, 15, 18, 19, 23, 42, 43, 44, 45, 80], [([[], [(0, 2)]], some (.inr (false, [(-3, -3)])), kch823), ([[], [(0, 2)]], some (.inr (false, [(0, 40)])), kch824), ([[], [(-2147483648, -1), (3, 2147483647)]], some (.inr (false, [(-1, -1)])), kch824)])
theorem kck1012 : ai_chk [kcc1010, kcc11, kcc7, kcc8, kcc5, kcc3] kcc1012 (fun pc => sm_ch sm_t55 pc, sm_Kn 2 2 none, fun x => sm_lk sm_ca2 x, some .int) [0, 15, 18, 19, 23, 42, 80] 2 2 [] [] 2000 [] = true := by decide +kernel
/-- MiceRegisters.likes -/
def kch826 : aw_H := [(0, kcx2), (15, kcx669), (20, .inr (.inl (0, 4, [], [])))]
def kcc1013 : ak_C := (56, [.inl 0, .inr (false, ar_t32), .inr (false, ar_t32), .inr (false, ar_t32), .inr (false, ar_t32)], kch826, [0], [([[], [], [], [], []], some (.inr (false, [(-1, -1)])), kch10), ([[], [(0, 3)], [(0, 9)], [(0, 20)], [(0, 7)]], some (.inr (false, [(1, 1)])), kch10)])
theorem kck1013 : ai_chk [kcc984, kcc979, kcc14] kcc1013 (fun pc => sm_ch sm_t56 pc, sm_Kn 2 5 none, fun x => sm_lk sm_ca2 x, some .int) [0] 5 5 [] [] 2000 [] = true := by decide +kernel
def kch827 : aw_H := [(24, kcx25), (25, .inr (.inl (0, 8, [], []))), (26, .inr (.inl (0, 8, [], []))), (27, .inr (.inl (0, 8, [], []))), (28, .inr (.inl (0, 8, [], []))), (29, .inr (.inl (0, 4, [], []))), (30, .inr (.inl (0, 4, [], []))), (31, kcx36), (32, kcx36)]
/-- Register.takeFrom -/
def kcc1014 : ak_C := (23, [.inl 24, .inl 15], kch671, [24, 25, 26, 27, 28, 29, 30, 31, 32], [([], none, kch827)])
def kcx828 : aw_A := .inl (1, [.inr (false, [(1, 8)]), .inr (false, [(0, 4)]), .inr (false, ar_t32), .inr (false, ar_t32), .inr (false, ar_t32), .inl 25, .inl 26, .inl 27, .inl 28, .inl 29, .inl 30, .inl 31, .inl 32])
def kch829 : aw_H := [(15, kcx669), (16, .inr (.inl (0, 8, [], []))), (17, .inr (.inl (0, 8, [], []))), (18, .inr (.inl (0, 8, [], []))), (19, .inr (.inl (0, 8, [], []))), (20, .inr (.inl (0, 4, [], []))), (21, .inr (.inl (0, 4, [], []))), (22, kcx36), (23, kcx36), (24, kcx828), (25, .inr (.inl (0, 8, [], []))), (26, .inr (.inl (0, 8, [], []))), (27, .inr (.inl (0, 8, [], []))), (28, .inr (.inl (0, 8, [], []))), (29, .inr (.inl (0, 4, [], []))), (30, .inr (.inl (0, 4, [], []))), (31, kcx36), (32, kcx36)]
def kcx830 : aw_A := .inl (1, [.inr (false, [(2, 8)]), .inr (false, [(0, 4)]), .inr (false, ar_t32), .inr (false, ar_t32), .inr (false, ar_t32), .inl 25, .inl 26, .inl 27, .inl 28, .inl 29, .inl 30, .inl 31, .inl 32])
def kch831 : aw_H := [(15, kcx669), (16, .inr (.inl (0, 8, [], []))), (17, .inr (.inl (0, 8, [], []))), (18, .inr (.inl (0, 8, [], []))), (19, .inr (.inl (0, 8, [], []))), (20, .inr (.inl (0, 4, [], []))), (21, .inr (.inl (0, 4, [], []))), (22, kcx36), (23, kcx36), (24, kcx830), (25, .inr (.inl (0, 8, [], []))), (26, .inr (.inl (0, 8, [], []))), (27, .inr (.inl (0, 8, [], []))), (28, .inr (.inl (0, 8, [], []))), (29, .inr (.inl (0, 4, [], []))), (30, .inr (.inl (0, 4, [], []))), (31, kcx36), (32, kcx36)]
def kcx832 : aw_A := .inl (1, [.inr (false, [(3, 8)]), .inr (false, [(0, 4)]), .inr (false, ar_t32), .inr (false, ar_t32), .inr (false, ar_t32), .inl 25, .inl 26, .inl 27, .inl 28, .inl 29, .inl 30, .inl 31, .inl 32])
def kch833 : aw_H := [(15, kcx669), (16, .inr (.inl (0, 8, [], []))), (17, .inr (.inl (0, 8, [], []))), (18, .inr (.inl (0, 8, [], []))), (19, .inr (.inl (0, 8, [], []))), (20, .inr (.inl (0, 4, [], []))), (21, .inr (.inl (0, 4, [], []))), (22, kcx36), (23, kcx36), (24, kcx832), (25, .inr (.inl (0, 8, [], []))), (26, .inr (.inl (0, 8, [], []))), (27, .inr (.inl (0, 8, [], []))), (28, .inr (.inl (0, 8, [], []))), (29, .inr (.inl (0, 4, [], []))), (30, .inr (.inl (0, 4, [], []))), (31, kcx36), (32, kcx36)]
def kcx834 : aw_A := .inl (1, [.inr (false, [(4, 8)]), .inr (false, [(0, 4)]), .inr (false, ar_t32), .inr (false, ar_t32), .inr (false, ar_t32), .inl 25, .inl 26, .inl 27, .inl 28, .inl 29, .inl 30, .inl 31, .inl 32])
def kch835 : aw_H := [(15, kcx669), (16, .inr (.inl (0, 8, [], []))), (17, .inr (.inl (0, 8, [], []))), (18, .inr (.inl (0, 8, [], []))), (19, .inr (.inl (0, 8, [], []))), (20, .inr (.inl (0, 4, [], []))), (21, .inr (.inl (0, 4, [], []))), (22, kcx36), (23, kcx36), (24, kcx834), (25, .inr (.inl (0, 8, [], []))), (26, .inr (.inl (0, 8, [], []))), (27, .inr (.inl (0, 8, [], []))), (28, .inr (.inl (0, 8, [], []))), (29, .inr (.inl (0, 4, [], []))), (30, .inr (.inl (0, 4, [], []))), (31, kcx36), (32, kcx36)]
def kcx836 : aw_A := .inl (1, [.inr (false, [(5, 8)]), .inr (false, [(0, 4)]), .inr (false, ar_t32), .inr (false, ar_t32), .inr (false, ar_t32), .inl 25, .inl 26, .inl 27, .inl 28, .inl 29, .inl 30, .inl 31, .inl 32])
def kch837 : aw_H := [(15, kcx669), (16, .inr (.inl (0, 8, [], []))), (17, .inr (.inl (0, 8, [], []))), (18, .inr (.inl (0, 8, [], []))), (19, .inr (.inl (0, 8, [], []))), (20, .inr (.inl (0, 4, [], []))), (21, .inr (.inl (0, 4, [], []))), (22, kcx36), (23, kcx36), (24, kcx836), (25, .inr (.inl (0, 8, [], []))), (26, .inr (.inl (0, 8, [], []))), (27, .inr (.inl (0, 8, [], []))), (28, .inr (.inl (0, 8, [], []))), (29, .inr (.inl (0, 4, [], []))), (30, .inr (.inl (0, 4, [], []))), (31, kcx36), (32, kcx36)]
def kcx838 : aw_A := .inl (1, [.inr (false, [(6, 8)]), .inr (false, [(0, 4)]), .inr (false, ar_t32), .inr (false, ar_t32), .inr (false, ar_t32), .inl 25, .inl 26, .inl 27, .inl 28, .inl 29, .inl 30, .inl 31, .inl 32])
def kch839 : aw_H := [(15, kcx669), (16, .inr (.inl (0, 8, [], []))), (17, .inr (.inl (0, 8, [], []))), (18, .inr (.inl (0, 8, [], []))), (19, .inr (.inl (0, 8, [], []))), (20, .inr (.inl (0, 4, [], []))), (21, .inr (.inl (0, 4, [], []))), (22, kcx36), (23, kcx36), (24, kcx838), (25, .inr (.inl (0, 8, [], []))), (26, .inr (.inl (0, 8, [], []))), (27, .inr (.inl (0, 8, [], []))), (28, .inr (.inl (0, 8, [], []))), (29, .inr (.inl (0, 4, [], []))), (30, .inr (.inl (0, 4, [], []))), (31, kcx36), (32, kcx36)]
def kcx840 : aw_A := .inl (1, [.inr (false, [(7, 8)]), .inr (false, [(0, 4)]), .inr (false, ar_t32), .inr (false, ar_t32), .inr (false, ar_t32), .inl 25, .inl 26, .inl 27, .inl 28, .inl 29, .inl 30, .inl 31, .inl 32])
