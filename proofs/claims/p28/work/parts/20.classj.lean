def kcx669 : aw_A := .inl (1, [.inr (false, [(0, 8)]), .inr (false, [(0, 4)]), .inr (false, ar_t32), .inr (false, ar_t32), .inr (false, ar_t32), .inl 16, .inl 17, .inl 18, .inl 19, .inl 20, .inl 21, .inl 22, .inl 23])
/-- Register.takeFrom -/
def kch671 : aw_H := [(15, kcx669), (16, .inr (.inl (0, 8, [], []))), (17, .inr (.inl (0, 8, [], []))), (18, .inr (.inl (0, 8, [], []))), (19, .inr (.inl (0, 8, [], []))), (20, .inr (.inl (0, 4, [], []))), (21, .inr (.inl (0, 4, [], []))), (22, kcx36), (23, kcx36), (24, kcx25), (25, .inr (.inl (0, 8, [], []))), (26, .inr (.inl (0, 8, [], []))), (27, .inr (.inl (0, 8, [], []))), (28, .inr (.inl (0, 8, [], []))), (29, .inr (.inl (0, 4, [], []))), (30, .inr (.inl (0, 4, [], []))), (31, kcx36), (32, kcx36)]
def kcx672 : aw_A := .inl (1, [.inr (false, [(1, 8)]), .inr (false, [(0, 4)]), .inr (false, ar_t32), .inr (false, ar_t32), .inr (false, ar_t32), .inl 16, .inl 17, .inl 18, .inl 19, .inl 20, .inl 21, .inl 22, .inl 23])
def kcx674 : aw_A := .inl (1, [.inr (false, [(2, 8)]), .inr (false, [(0, 4)]), .inr (false, ar_t32), .inr (false, ar_t32), .inr (false, ar_t32), .inl 16, .inl 17, .inl 18, .inl 19, .inl 20, .inl 21, .inl 22, .inl 23])
def kcx676 : aw_A := .inl (1, [.inr (false, [(3, 8)]), .inr (false, [(0, 4)]), .inr (false, ar_t32), .inr (false, ar_t32), .inr (false, ar_t32), .inl 16, .inl 17, .inl 18, .inl 19, .inl 20, .inl 21, .inl 22, .inl 23])
def kcx678 : aw_A := .inl (1, [.inr (false, [(4, 8)]), .inr (false, [(0, 4)]), .inr (false, ar_t32), .inr (false, ar_t32), .inr (false, ar_t32), .inl 16, .inl 17, .inl 18, .inl 19, .inl 20, .inl 21, .inl 22, .inl 23])
def kcx680 : aw_A := .inl (1, [.inr (false, [(5, 8)]), .inr (false, [(0, 4)]), .inr (false, ar_t32), .inr (false, ar_t32), .inr (false, ar_t32), .inl 16, .inl 17, .inl 18, .inl 19, .inl 20, .inl 21, .inl 22, .inl 23])
def kcx682 : aw_A := .inl (1, [.inr (false, [(6, 8)]), .inr (false, [(0, 4)]), .inr (false, ar_t32), .inr (false, ar_t32), .inr (false, ar_t32), .inl 16, .inl 17, .inl 18, .inl 19, .inl 20, .inl 21, .inl 22, .inl 23])
def kcx684 : aw_A := .inl (1, [.inr (false, [(7, 8)]), .inr (false, [(0, 4)]), .inr (false, ar_t32), .inr (false, ar_t32), .inr (false, ar_t32), .inl 16, .inl 17, .inl 18, .inl 19, .inl 20, .inl 21, .inl 22, .inl 23])
def kcx686 : aw_A := .inl (1, [.inr (false, [(8, 8)]), .inr (false, [(0, 4)]), .inr (false, ar_t32), .inr (false, ar_t32), .inr (false, ar_t32), .inl 16, .inl 17, .inl 18, .inl 19, .inl 20, .inl 21, .inl 22, .inl 23])
def kcx688 : aw_A := .inl (1, [.inr (false, [(0, 8)]), .inr (false, [(1, 4)]), .inr (false, ar_t32), .inr (false, ar_t32), .inr (false, ar_t32), .inl 16, .inl 17, .inl 18, .inl 19, .inl 20, .inl 21, .inl 22, .inl 23])
def kcx690 : aw_A := .inl (1, [.inr (false, [(0, 8)]), .inr (false, [(2, 4)]), .inr (false, ar_t32), .inr (false, ar_t32), .inr (false, ar_t32), .inl 16, .inl 17, .inl 18, .inl 19, .inl 20, .inl 21, .inl 22, .inl 23])
def kcx692 : aw_A := .inl (1, [.inr (false, [(0, 8)]), .inr (false, [(3, 4)]), .inr (false, ar_t32), .inr (false, ar_t32), .inr (false, ar_t32), .inl 16, .inl 17, .inl 18, .inl 19, .inl 20, .inl 21, .inl 22, .inl 23])
def kcx694 : aw_A := .inl (1, [.inr (false, [(0, 8)]), .inr (false, [(4, 4)]), .inr (false, ar_t32), .inr (false, ar_t32), .inr (false, ar_t32), .inl 16, .inl 17, .inl 18, .inl 19, .inl 20, .inl 21, .inl 22, .inl 23])
def kcx696 : aw_A := .inl (0, [.inr (false, [(0, 40)]), .inl 43, .inl 44, .inl 45])
def kcx697 : aw_A := .inl (0, [.inr (false, [(-1, 40)]), .inl 48, .inl 49, .inl 50])
def kcx698 : aw_A := .inl (0, [.inr (false, [(-1, 40)]), .inl 52, .inl 53, .inl 54])
def kcx699 : aw_A := .inl (0, [.inr (false, [(-1, 40)]), .inl 56, .inl 57, .inl 58])
/-- MiceRegisters.isNoLine -/
def kch712 : aw_H := [(0, kcx2), (15, kcx669)]
def kcc976 : ak_C := (25, [.inl 0, .inr (false, ar_t32)], kch712, [], [([[], []], some (.inr (false, [(1, 1)])), []), ([[], [(0, 7)]], some (.inr (false, [(0, 0)])), [])])
theorem kck976 : ai_chk [] kcc976 (fun pc => sm_ch sm_t25 pc, sm_Kn 2 2 none, fun x => sm_lk sm_ca2 x, some .boolean) [] 2 2 [] [] 2000 [] = true := by decide +kernel
/-- Register.isOpen -/
def kch713 : aw_H := [(15, kcx669), (18, .inr (.inl (0, 8, [], [])))]
def kcc977 : ak_C := (29, [.inl 15, .inr (false, [(0, 7)])], kch713, [], [([], some (.inr (false, [(1, 1)])), []), ([], some (.inr (false, [(0, 0)])), [])])
theorem kck977 : ai_chk [] kcc977 (fun pc => sm_ch sm_t29 pc, sm_Kn 1 2 none, fun x => sm_lk sm_ca1 x, some .boolean) [] 2 0 [] [] 2000 [] = true := by decide +kernel
/-- Register.distance -/
def kch714 : aw_H := [(15, kcx669), (23, kcx36)]
def kcc978 : ak_C := (30, [.inl 15, .inr (false, [(0, 3)]), .inr (false, [(0, 7)])], kch714, [], [([], some (.inr (false, [(0, 7)])), [])])
theorem kck978 : ai_chk [] kcc978 (fun pc => sm_ch sm_t30 pc, sm_Kn 1 3 none, fun x => sm_lk sm_ca1 x, some .int) [] 3 0 [] [] 2000 [] = true := by decide +kernel
/-- MiceRegisters.liking -/
def kcc979 : ak_C := (31, [.inr (false, ar_t32), .inr (false, ar_t32), .inr (false, ar_t32), .inr (false, ar_t32)], [], [], [([], some (.inr (false, ar_t32)), [])])
theorem kck979 : ai_chk [] kcc979 (fun pc => sm_ch sm_t31 pc, sm_Kn 2 4 none, fun x => sm_lk sm_ca2 x, some .int) [] 4 0 [] [] 2000 [] = true := by decide +kernel
/-- Register.lineWantedBy -/
def kch715 : aw_H := [(15, kcx669), (16, .inr (.inl (0, 8, [], []))), (18, .inr (.inl (0, 8, [], []))), (19, .inr (.inl (0, 8, [], []))), (20, .inr (.inl (0, 4, [], []))), (23, kcx36)]
def kcc980 : ak_C := (28, [.inl 15, .inr (false, [(0, 3)])], kch715, [], [([], some (.inr (false, [(-9, -9)])), []), ([], some (.inr (false, [(-9, -9), (0, 7)])), [])])
def kch716 : aw_H := [(15, kcx672), (16, .inr (.inl (0, 8, [], []))), (18, .inr (.inl (0, 8, [], []))), (19, .inr (.inl (0, 8, [], []))), (20, .inr (.inl (0, 4, [], []))), (23, kcx36)]
def kch717 : aw_H := [(15, kcx674), (16, .inr (.inl (0, 8, [], []))), (18, .inr (.inl (0, 8, [], []))), (19, .inr (.inl (0, 8, [], []))), (20, .inr (.inl (0, 4, [], []))), (23, kcx36)]
def kch718 : aw_H := [(15, kcx676), (16, .inr (.inl (0, 8, [], []))), (18, .inr (.inl (0, 8, [], []))), (19, .inr (.inl (0, 8, [], []))), (20, .inr (.inl (0, 4, [], []))), (23, kcx36)]
def kch719 : aw_H := [(15, kcx678), (16, .inr (.inl (0, 8, [], []))), (18, .inr (.inl (0, 8, [], []))), (19, .inr (.inl (0, 8, [], []))), (20, .inr (.inl (0, 4, [], []))), (23, kcx36)]
def kch720 : aw_H := [(15, kcx680), (16, .inr (.inl (0, 8, [], []))), (18, .inr (.inl (0, 8, [], []))), (19, .inr (.inl (0, 8, [], []))), (20, .inr (.inl (0, 4, [], []))), (23, kcx36)]
def kch721 : aw_H := [(15, kcx682), (16, .inr (.inl (0, 8, [], []))), (18, .inr (.inl (0, 8, [], []))), (19, .inr (.inl (0, 8, [], []))), (20, .inr (.inl (0, 4, [], []))), (23, kcx36)]
def kch722 : aw_H := [(15, kcx684), (16, .inr (.inl (0, 8, [], []))), (18, .inr (.inl (0, 8, [], []))), (19, .inr (.inl (0, 8, [], []))), (20, .inr (.inl (0, 4, [], []))), (23, kcx36)]
def kch723 : aw_H := [(15, kcx686), (16, .inr (.inl (0, 8, [], []))), (18, .inr (.inl (0, 8, [], []))), (19, .inr (.inl (0, 8, [], []))), (20, .inr (.inl (0, 4, [], []))), (23, kcx36)]
theorem kck980 : ai_chk [kcc977, kcc978, kcc979] kcc980 (fun pc => sm_ch sm_t28 pc, sm_Kn 1 8 none, fun x => sm_lk sm_ca1 x, some .int) [] 8 0 [11] [] 2000 [(11, [(0, .inl 15), (1, .inr (false, [(0, 3)])), (2, .inr (false, [(-9, -9)])), (3, .inr (false, [(0, 0)])), (4, .inr (false, [(0, 0)])), (5, .inr (false, [(0, 0)]))], [], kch715),
  (11, [(0, .inl 15), (1, .inr (false, [(0, 3)])), (2, .inr (false, [(-9, -9), (0, 0)])), (3, .inr (false, [(0, 2147483647)])), (4, .inr (false, [(0, 7)])), (5, .inr (false, [(1, 1)]))], [], kch716),
  (11, [(0, .inl 15), (1, .inr (false, [(0, 3)])), (2, .inr (false, [(-9, -9), (0, 1)])), (3, .inr (false, [(0, 2147483647)])), (4, .inr (false, [(0, 7)])), (5, .inr (false, [(2, 2)]))], [], kch717),
  (11, [(0, .inl 15), (1, .inr (false, [(0, 3)])), (2, .inr (false, [(-9, -9), (0, 2)])), (3, .inr (false, [(0, 2147483647)])), (4, .inr (false, [(0, 7)])), (5, .inr (false, [(3, 3)]))], [], kch718),
  (11, [(0, .inl 15), (1, .inr (false, [(0, 3)])), (2, .inr (false, [(-9, -9), (0, 3)])), (3, .inr (false, [(0, 2147483647)])), (4, .inr (false, [(0, 7)])), (5, .inr (false, [(4, 4)]))], [], kch719),
  (11, [(0, .inl 15), (1, .inr (false, [(0, 3)])), (2, .inr (false, [(-9, -9), (0, 4)])), (3, .inr (false, [(0, 2147483647)])), (4, .inr (false, [(0, 7)])), (5, .inr (false, [(5, 5)]))], [], kch720),
  (11, [(0, .inl 15), (1, .inr (false, [(0, 3)])), (2, .inr (false, [(-9, -9), (0, 5)])), (3, .inr (false, [(0, 2147483647)])), (4, .inr (false, [(0, 7)])), (5, .inr (false, [(6, 6)]))], [], kch721),
  (11, [(0, .inl 15), (1, .inr (false, [(0, 3)])), (2, .inr (false, [(-9, -9), (0, 6)])), (3, .inr (false, [(0, 2147483647)])), (4, .inr (false, [(0, 7)])), (5, .inr (false, [(7, 7)]))], [], kch722),
  (11, [(0, .inl 15), (1, .inr (false, [(0, 3)])), (2, .inr (false, [(-9, -9), (0, 7)])), (3, .inr (false, [(0, 2147483647)])), (4, .inr (false, [(0, 7)])), (5, .inr (false, [(8, 8)]))], [], kch723)] = true := by decide +kernel
/-- Register.miceThatWant -/
def kcc981 : ak_C := (27, [.inl 15, .inr (false, ar_t32)], kch715, [], [([], some (.inr (false, [(0, 0)])), []), ([], some (.inr (false, ar_t32)), [])])
def kch724 : aw_H := [(15, kcx688), (16, .inr (.inl (0, 8, [], []))), (18, .inr (.inl (0, 8, [], []))), (19, .inr (.inl (0, 8, [], []))), (20, .inr (.inl (0, 4, [], []))), (23, kcx36)]
def kch725 : aw_H := [(15, kcx690), (16, .inr (.inl (0, 8, [], []))), (18, .inr (.inl (0, 8, [], []))), (19, .inr (.inl (0, 8, [], []))), (20, .inr (.inl (0, 4, [], []))), (23, kcx36)]
def kch726 : aw_H := [(15, kcx692), (16, .inr (.inl (0, 8, [], []))), (18, .inr (.inl (0, 8, [], []))), (19, .inr (.inl (0, 8, [], []))), (20, .inr (.inl (0, 4, [], []))), (23, kcx36)]
def kch727 : aw_H := [(15, kcx694), (16, .inr (.inl (0, 8, [], []))), (18, .inr (.inl (0, 8, [], []))), (19, .inr (.inl (0, 8, [], []))), (20, .inr (.inl (0, 4, [], []))), (23, kcx36)]
theorem kck981 : ai_chk [kcc980] kcc981 (fun pc => sm_ch sm_t27 pc, sm_Kn 1 4 none, fun x => sm_lk sm_ca1 x, some .int) [] 4 0 [4] [] 2000 [(4, [(0, .inl 15), (1, .inr (false, ar_t32)), (2, .inr (false, [(0, 0)])), (3, .inr (false, [(0, 0)]))], [], kch715),
  (4, [(0, .inl 15), (1, .inr (false, ar_t32)), (2, .inr (false, [(0, 1)])), (3, .inr (false, [(1, 1)]))], [], kch724),
  (4, [(0, .inl 15), (1, .inr (false, ar_t32)), (2, .inr (false, ar_t32)), (3, .inr (false, [(2, 2)]))], [], kch725),
  (4, [(0, .inl 15), (1, .inr (false, ar_t32)), (2, .inr (false, ar_t32)), (3, .inr (false, [(3, 3)]))], [], kch726),
  (4, [(0, .inl 15), (1, .inr (false, ar_t32)), (2, .inr (false, ar_t32)), (3, .inr (false, [(4, 4)]))], [], kch727)] = true := by decide +kernel
/-- MiceRegisters.ofLine -/
def kch728 : aw_H := [(0, kcx2), (15, kcx669), (16, .inr (.inl (0, 8, [], []))), (17, .inr (.inl (0, 8, [], []))), (18, .inr (.inl (0, 8, [], []))), (19, .inr (.inl (0, 8, [], []))), (20, .inr (.inl (0, 4, [], []))), (23, kcx36)]
def kcc982 : ak_C := (26, [.inl 0, .inr (false, [(0, 7)]), .inr (false, ar_t32)], kch728, [], [([[], [], []], some (.inr (false, ar_t32)), []), ([[], [], [(-2147483648, -1), (5, 2147483647)]], some (.inr (false, [(0, 0)])), [])])
theorem kck982 : ai_chk [kcc981] kcc982 (fun pc => sm_ch sm_t26 pc, sm_Kn 2 3 none, fun x => sm_lk sm_ca2 x, some .int) [] 3 3 [] [] 2000 [] = true := by decide +kernel
/-- MiceRegisters.line -/
def kcc983 : ak_C := (24, [.inl 0, .inr (false, ar_t32), .inr (false, ar_t32)], kch728, [0], [([[], [], []], some (.inr (false, [(-1, -1)])), kch10), ([[], [(0, 7)], [(0, 5)]], some (.inr (false, [(1, 1)])), kch10)])
theorem kck983 : ai_chk [kcc976, kcc982, kcc14] kcc983 (fun pc => sm_ch sm_t24 pc, sm_Kn 2 3 none, fun x => sm_lk sm_ca2 x, some .int) [0] 3 3 [] [] 2000 [] = true := by decide +kernel
/-- MiceRegisters.isNoMouse -/
def kcc984 : ak_C := (33, [.inl 0, .inr (false, ar_t32)], kch712, [], [([[], []], some (.inr (false, [(1, 1)])), []), ([[], [(0, 3)]], some (.inr (false, [(0, 0)])), [])])
theorem kck984 : ai_chk [] kcc984 (fun pc => sm_ch sm_t33 pc, sm_Kn 2 2 none, fun x => sm_lk sm_ca2 x, some .boolean) [] 2 2 [] [] 2000 [] = true := by decide +kernel
/-- MiceRegisters.eatenInAYear -/
def kcc985 : ak_C := (35, [.inr (false, ar_t32), .inr (false, ar_t32)], [], [], [([], some (.inr (false, ar_t32)), [])])
theorem kck985 : ai_chk [] kcc985 (fun pc => sm_ch sm_t35 pc, sm_Kn 2 2 none, fun x => sm_lk sm_ca2 x, some .int) [] 2 0 [] [] 2000 [] = true := by decide +kernel
/-- MiceRegisters.ofMouse -/
def kch729 : aw_H := [(0, kcx2), (15, kcx669), (16, .inr (.inl (0, 8, [], []))), (18, .inr (.inl (0, 8, [], []))), (19, .inr (.inl (0, 8, [], []))), (20, .inr (.inl (0, 4, [], []))), (21, .inr (.inl (0, 4, [], []))), (23, kcx36)]
def kcc986 : ak_C := (34, [.inl 0, .inr (false, [(0, 3)]), .inr (false, ar_t32)], kch729, [], [([[], [], []], some (.inr (false, ar_t32)), []), ([[], [], [(-2147483648, -1), (4, 2147483647)]], some (.inr (false, [(-9, -9)])), [])])
theorem kck986 : ai_chk [kcc985, kcc980] kcc986 (fun pc => sm_ch sm_t34 pc, sm_Kn 2 3 none, fun x => sm_lk sm_ca2 x, some .int) [] 3 3 [] [] 2000 [] = true := by decide +kernel
/-- MiceRegisters.mouse -/
def kcc987 : ak_C := (32, [.inl 0, .inr (false, ar_t32), .inr (false, ar_t32)], kch729, [0], [([[], [], []], some (.inr (false, [(-1, -1)])), kch10), ([[], [(0, 3)], [(0, 4)]], some (.inr (false, [(1, 1)])), kch10)])
theorem kck987 : ai_chk [kcc984, kcc986, kcc14] kcc987 (fun pc => sm_ch sm_t32 pc, sm_Kn 2 3 none, fun x => sm_lk sm_ca2 x, some .int) [0] 3 3 [] [] 2000 [] = true := by decide +kernel
/-- MiceRegisters.isOfKind -/
def kcc988 : ak_C := (37, [.inr (false, ar_t32), .inr (false, ar_t32)], [], [], [([], some (.inr (false, [(0, 0)])), []), ([], some (.inr (false, [(1, 1)])), [])])
theorem kck988 : ai_chk [] kcc988 (fun pc => sm_ch sm_t37 pc, sm_Kn 2 2 none, fun x => sm_lk sm_ca2 x, some .boolean) [] 2 0 [] [] 2000 [] = true := by decide +kernel
/-- Register.yearsToEatUpAlone -/
def kch730 : aw_H := [(15, kcx669), (18, .inr (.inl (0, 8, [], []))), (20, .inr (.inl (0, 4, [], []))), (21, .inr (.inl (0, 4, [], []))), (23, kcx36)]
def kcc989 : ak_C := (40, [.inl 15, .inr (false, [(0, 3)])], kch730, [], [([], some (.inr (false, ar_t32)), []), ([], some (.inr (false, [(0, 0)])), [])])
theorem kck989 : ai_chk [kcc985] kcc989 (fun pc => sm_ch sm_t40 pc, sm_Kn 1 3 none, fun x => sm_lk sm_ca1 x, some .int) [] 3 0 [] [] 2000 [] = true := by decide +kernel
/-- Register.linesLittleWrong -/
def kch731 : aw_H := [(15, kcx669), (16, .inr (.inl (0, 8, [], [])))]
def kcc990 : ak_C := (39, [.inl 15], kch731, [], [([], some (.inr (false, [(0, 0)])), []), ([], some (.inr (false, [(0, 8)])), [])])
def kch732 : aw_H := [(15, kcx672), (16, .inr (.inl (0, 8, [], [(0, ar_t32)])))]
def kcx733 : aw_A := .inr (.inl (0, 8, [], [(0, ar_t32), (1, ar_t32)]))
def kch734 : aw_H := [(15, kcx674), (16, kcx733)]
def kcx735 : aw_A := .inr (.inl (0, 8, [], [(0, ar_t32), (1, ar_t32), (2, ar_t32)]))
def kch736 : aw_H := [(15, kcx676), (16, kcx735)]
def kcx737 : aw_A := .inr (.inl (0, 8, [], [(0, ar_t32), (1, ar_t32), (2, ar_t32), (3, ar_t32)]))
def kch738 : aw_H := [(15, kcx678), (16, kcx737)]
def kcx739 : aw_A := .inr (.inl (0, 8, [], [(0, ar_t32), (1, ar_t32), (2, ar_t32), (3, ar_t32), (4, ar_t32)]))
def kch740 : aw_H := [(15, kcx680), (16, kcx739)]
def kcx741 : aw_A := .inr (.inl (0, 8, [], [(0, ar_t32), (1, ar_t32), (2, ar_t32), (3, ar_t32), (4, ar_t32), (5, ar_t32)]))
def kch742 : aw_H := [(15, kcx682), (16, kcx741)]
def kcx743 : aw_A := .inr (.inl (0, 8, [], [(0, ar_t32), (1, ar_t32), (2, ar_t32), (3, ar_t32), (4, ar_t32), (5, ar_t32), (6, ar_t32)]))
def kch744 : aw_H := [(15, kcx684), (16, kcx743)]
def kcx745 : aw_A := .inr (.inl (0, 8, [], [(0, ar_t32), (1, ar_t32), (2, ar_t32), (3, ar_t32), (4, ar_t32), (5, ar_t32), (6, ar_t32), (7, ar_t32)]))
def kch746 : aw_H := [(15, kcx686), (16, kcx745)]
theorem kck990 : ai_chk [] kcc990 (fun pc => sm_ch sm_t39 pc, sm_Kn 1 3 none, fun x => sm_lk sm_ca1 x, some .int) [] 3 0 [4] [] 2000 [(4, [(0, .inl 15), (1, .inr (false, [(0, 0)])), (2, .inr (false, [(0, 0)]))], [], kch731),
  (4, [(0, .inl 15), (1, .inr (false, [(0, 1)])), (2, .inr (false, [(1, 1)]))], [], kch732),
  (4, [(0, .inl 15), (1, .inr (false, [(0, 2)])), (2, .inr (false, [(2, 2)]))], [], kch734),
  (4, [(0, .inl 15), (1, .inr (false, [(0, 3)])), (2, .inr (false, [(3, 3)]))], [], kch736),
  (4, [(0, .inl 15), (1, .inr (false, [(0, 4)])), (2, .inr (false, [(4, 4)]))], [], kch738),
  (4, [(0, .inl 15), (1, .inr (false, [(0, 5)])), (2, .inr (false, [(5, 5)]))], [], kch740),
  (4, [(0, .inl 15), (1, .inr (false, [(0, 6)])), (2, .inr (false, [(6, 6)]))], [], kch742),
  (4, [(0, .inl 15), (1, .inr (false, [(0, 7)])), (2, .inr (false, [(7, 7)]))], [], kch744),
  (4, [(0, .inl 15), (1, .inr (false, [(0, 8)])), (2, .inr (false, [(8, 8)]))], [], kch746)] = true := by decide +kernel
/-- Register.linesLikedBy -/
def kch747 : aw_H := [(15, kcx669), (16, .inr (.inl (0, 8, [], []))), (19, .inr (.inl (0, 8, [], []))), (20, .inr (.inl (0, 4, [], []))), (23, kcx36)]
def kcc991 : ak_C := (38, [.inl 15, .inr (false, [(0, 3)])], kch747, [], [([], some (.inr (false, [(0, 0)])), []), ([], some (.inr (false, [(0, 8)])), [])])
def kch748 : aw_H := [(15, kcx672), (16, .inr (.inl (0, 8, [], []))), (19, .inr (.inl (0, 8, [], []))), (20, .inr (.inl (0, 4, [], []))), (23, kcx36)]
def kch749 : aw_H := [(15, kcx674), (16, .inr (.inl (0, 8, [], []))), (19, .inr (.inl (0, 8, [], []))), (20, .inr (.inl (0, 4, [], []))), (23, kcx36)]
def kch750 : aw_H := [(15, kcx676), (16, .inr (.inl (0, 8, [], []))), (19, .inr (.inl (0, 8, [], []))), (20, .inr (.inl (0, 4, [], []))), (23, kcx36)]
def kch751 : aw_H := [(15, kcx678), (16, .inr (.inl (0, 8, [], []))), (19, .inr (.inl (0, 8, [], []))), (20, .inr (.inl (0, 4, [], []))), (23, kcx36)]
def kch752 : aw_H := [(15, kcx680), (16, .inr (.inl (0, 8, [], []))), (19, .inr (.inl (0, 8, [], []))), (20, .inr (.inl (0, 4, [], []))), (23, kcx36)]
def kch753 : aw_H := [(15, kcx682), (16, .inr (.inl (0, 8, [], []))), (19, .inr (.inl (0, 8, [], []))), (20, .inr (.inl (0, 4, [], []))), (23, kcx36)]
def kch754 : aw_H := [(15, kcx684), (16, .inr (.inl (0, 8, [], []))), (19, .inr (.inl (0, 8, [], []))), (20, .inr (.inl (0, 4, [], []))), (23, kcx36)]
def kch755 : aw_H := [(15, kcx686), (16, .inr (.inl (0, 8, [], []))), (19, .inr (.inl (0, 8, [], []))), (20, .inr (.inl (0, 4, [], []))), (23, kcx36)]
theorem kck991 : ai_chk [kcc978, kcc979] kcc991 (fun pc => sm_ch sm_t38 pc, sm_Kn 1 4 none, fun x => sm_lk sm_ca1 x, some .int) [] 4 0 [4] [] 2000 [(4, [(0, .inl 15), (1, .inr (false, [(0, 3)])), (2, .inr (false, [(0, 0)])), (3, .inr (false, [(0, 0)]))], [], kch747),
  (4, [(0, .inl 15), (1, .inr (false, [(0, 3)])), (2, .inr (false, [(0, 1)])), (3, .inr (false, [(1, 1)]))], [], kch748),
  (4, [(0, .inl 15), (1, .inr (false, [(0, 3)])), (2, .inr (false, [(0, 2)])), (3, .inr (false, [(2, 2)]))], [], kch749),
  (4, [(0, .inl 15), (1, .inr (false, [(0, 3)])), (2, .inr (false, [(0, 3)])), (3, .inr (false, [(3, 3)]))], [], kch750),
  (4, [(0, .inl 15), (1, .inr (false, [(0, 3)])), (2, .inr (false, [(0, 4)])), (3, .inr (false, [(4, 4)]))], [], kch751),
  (4, [(0, .inl 15), (1, .inr (false, [(0, 3)])), (2, .inr (false, [(0, 5)])), (3, .inr (false, [(5, 5)]))], [], kch752),
  (4, [(0, .inl 15), (1, .inr (false, [(0, 3)])), (2, .inr (false, [(0, 6)])), (3, .inr (false, [(6, 6)]))], [], kch753),
  (4, [(0, .inl 15), (1, .inr (false, [(0, 3)])), (2, .inr (false, [(0, 7)])), (3, .inr (false, [(7, 7)]))], [], kch754),
  (4, [(0, .inl 15), (1, .inr (false, [(0, 3)])), (2, .inr (false, [(0, 8)])), (3, .inr (false, [(8, 8)]))], [], kch755)] = true := by decide +kernel
/-- Register.allCheese -/
def kch756 : aw_H := [(15, kcx669), (19, .inr (.inl (0, 8, [], [])))]
def kcc992 : ak_C := (41, [.inl 15], kch756, [], [([], some (.inr (false, [(0, 0)])), []), ([], some (.inr (false, ar_t32)), [])])
def kch757 : aw_H := [(15, kcx672), (19, .inr (.inl (0, 8, [], [])))]
def kch758 : aw_H := [(15, kcx674), (19, .inr (.inl (0, 8, [], [])))]
def kch759 : aw_H := [(15, kcx676), (19, .inr (.inl (0, 8, [], [])))]
def kch760 : aw_H := [(15, kcx678), (19, .inr (.inl (0, 8, [], [])))]
def kch761 : aw_H := [(15, kcx680), (19, .inr (.inl (0, 8, [], [])))]
def kch762 : aw_H := [(15, kcx682), (19, .inr (.inl (0, 8, [], [])))]
def kch763 : aw_H := [(15, kcx684), (19, .inr (.inl (0, 8, [], [])))]
def kch764 : aw_H := [(15, kcx686), (19, .inr (.inl (0, 8, [], [])))]
theorem kck992 : ai_chk [] kcc992 (fun pc => sm_ch sm_t41 pc, sm_Kn 1 3 none, fun x => sm_lk sm_ca1 x, some .int) [] 3 0 [4] [] 2000 [(4, [(0, .inl 15), (1, .inr (false, [(0, 0)])), (2, .inr (false, [(0, 0)]))], [], kch756),
  (4, [(0, .inl 15), (1, .inr (false, ar_t32)), (2, .inr (false, [(1, 1)]))], [], kch757),
  (4, [(0, .inl 15), (1, .inr (false, ar_t32)), (2, .inr (false, [(2, 2)]))], [], kch758),
  (4, [(0, .inl 15), (1, .inr (false, ar_t32)), (2, .inr (false, [(3, 3)]))], [], kch759),
  (4, [(0, .inl 15), (1, .inr (false, ar_t32)), (2, .inr (false, [(4, 4)]))], [], kch760),
  (4, [(0, .inl 15), (1, .inr (false, ar_t32)), (2, .inr (false, [(5, 5)]))], [], kch761),
  (4, [(0, .inl 15), (1, .inr (false, ar_t32)), (2, .inr (false, [(6, 6)]))], [], kch762),
  (4, [(0, .inl 15), (1, .inr (false, ar_t32)), (2, .inr (false, [(7, 7)]))], [], kch763),
  (4, [(0, .inl 15), (1, .inr (false, ar_t32)), (2, .inr (false, [(8, 8)]))], [], kch764)] = true := by decide +kernel
/-- MiceRegisters.mark -/
def kch765 : aw_H := [(0, kcx2), (15, kcx669), (16, .inr (.inl (0, 8, [], []))), (18, .inr (.inl (0, 8, [], []))), (19, .inr (.inl (0, 8, [], []))), (20, .inr (.inl (0, 4, [], []))), (21, .inr (.inl (0, 4, [], []))), (23, kcx36), (80, .inr (.inl (0, 6, [], [])))]
def kcc993 : ak_C := (36, [.inl 0, .inr (false, ar_t32), .inr (false, ar_t32)], kch765, [0, 80], [([[], [], []], some (.inr (false, [(-1, -1)])), kch3), ([[], [(0, 3)], [(1, 5)]], some (.inr (false, ar_t32)), kch3), ([[], [(0, 3)], [(1, 3), (5, 5)]], some (.inr (false, [(0, 0)])), kch3), ([[], [(0, 3)], [(1, 5)]], some (.inr (false, [(-3, -3)])), kch1)])
theorem kck993 : ai_chk [kcc984, kcc988, kcc985, kcc989, kcc990, kcc991, kcc992, kcc11] kcc993 (fun pc => sm_ch sm_t36 pc, sm_Kn 2 3 none, fun x => sm_lk sm_ca2 x, some .int) [0, 80] 3 3 [] [] 2000 [] = true := by decide +kernel
def kch766 : aw_H := [(42, kcx696), (43, .inr (.inr (.inr ()))), (44, .inr (.inr (.inr ()))), (45, .inr (.inr (.inr ())))]
/-- Deeds.add -/
def kch767 : aw_H := [(42, kcx696)]
def kcc0 : ak_C := (44, [.inl 42, .inr (false, [(0, 0), (2, 3)]), .inr (false, ar_t32), .inr (false, ar_t32)], kch767, [42, 43, 44, 45], [([], none, kch766)])
def kch768 : aw_H := [(15, kcx669), (18, .inr (.inl (0, 8, [], []))), (19, .inr (.inl (0, 8, [], []))), (23, kcx36)]
/-- Register.passYear -/
def kch769 : aw_H := [(15, kcx669), (16, .inr (.inl (0, 8, [], []))), (18, .inr (.inl (0, 8, [], []))), (19, .inr (.inl (0, 8, [], []))), (20, .inr (.inl (0, 4, [], []))), (21, .inr (.inl (0, 4, [], []))), (23, kcx36)]
def kcc994 : ak_C := (46, [.inl 15, .inr (false, ar_t32)], kch769, [15, 18, 19, 23], [([], some (.inr (false, ar_t32)), kch768)])
def kch770 : aw_H := [(15, kcx688), (16, .inr (.inl (0, 8, [], []))), (18, .inr (.inl (0, 8, [], []))), (19, .inr (.inl (0, 8, [], []))), (20, .inr (.inl (0, 4, [], []))), (21, .inr (.inl (0, 4, [], []))), (23, kcx36)]
def kch771 : aw_H := [(15, kcx690), (16, .inr (.inl (0, 8, [], []))), (18, .inr (.inl (0, 8, [], []))), (19, .inr (.inl (0, 8, [], []))), (20, .inr (.inl (0, 4, [], []))), (21, .inr (.inl (0, 4, [], []))), (23, kcx36)]
def kch772 : aw_H := [(15, kcx692), (16, .inr (.inl (0, 8, [], []))), (18, .inr (.inl (0, 8, [], []))), (19, .inr (.inl (0, 8, [], []))), (20, .inr (.inl (0, 4, [], []))), (21, .inr (.inl (0, 4, [], []))), (23, kcx36)]
def kch773 : aw_H := [(15, kcx694), (16, .inr (.inl (0, 8, [], []))), (18, .inr (.inl (0, 8, [], []))), (19, .inr (.inl (0, 8, [], []))), (20, .inr (.inl (0, 4, [], []))), (21, .inr (.inl (0, 4, [], []))), (23, kcx36)]
def kch774 : aw_H := [(15, kcx672), (16, .inr (.inl (0, 8, [], []))), (18, .inr (.inl (0, 8, [], []))), (19, .inr (.inl (0, 8, [], []))), (20, .inr (.inl (0, 4, [], []))), (21, .inr (.inl (0, 4, [], []))), (23, kcx36)]
def kch775 : aw_H := [(15, kcx674), (16, .inr (.inl (0, 8, [], []))), (18, .inr (.inl (0, 8, [], []))), (19, .inr (.inl (0, 8, [], []))), (20, .inr (.inl (0, 4, [], []))), (21, .inr (.inl (0, 4, [], []))), (23, kcx36)]
def kch776 : aw_H := [(15, kcx676), (16, .inr (.inl (0, 8, [], []))), (18, .inr (.inl (0, 8, [], []))), (19, .inr (.inl (0, 8, [], []))), (20, .inr (.inl (0, 4, [], []))), (21, .inr (.inl (0, 4, [], []))), (23, kcx36)]
def kch777 : aw_H := [(15, kcx678), (16, .inr (.inl (0, 8, [], []))), (18, .inr (.inl (0, 8, [], []))), (19, .inr (.inl (0, 8, [], []))), (20, .inr (.inl (0, 4, [], []))), (21, .inr (.inl (0, 4, [], []))), (23, kcx36)]
def kch778 : aw_H := [(15, kcx680), (16, .inr (.inl (0, 8, [], []))), (18, .inr (.inl (0, 8, [], []))), (19, .inr (.inl (0, 8, [], []))), (20, .inr (.inl (0, 4, [], []))), (21, .inr (.inl (0, 4, [], []))), (23, kcx36)]
def kch779 : aw_H := [(15, kcx682), (16, .inr (.inl (0, 8, [], []))), (18, .inr (.inl (0, 8, [], []))), (19, .inr (.inl (0, 8, [], []))), (20, .inr (.inl (0, 4, [], []))), (21, .inr (.inl (0, 4, [], []))), (23, kcx36)]
def kch780 : aw_H := [(15, kcx684), (16, .inr (.inl (0, 8, [], []))), (18, .inr (.inl (0, 8, [], []))), (19, .inr (.inl (0, 8, [], []))), (20, .inr (.inl (0, 4, [], []))), (21, .inr (.inl (0, 4, [], []))), (23, kcx36)]
def kch781 : aw_H := [(15, kcx686), (16, .inr (.inl (0, 8, [], []))), (18, .inr (.inl (0, 8, [], []))), (19, .inr (.inl (0, 8, [], []))), (20, .inr (.inl (0, 4, [], []))), (21, .inr (.inl (0, 4, [], []))), (23, kcx36)]
theorem kck994 : ai_chk [kcc980, kcc985] kcc994 (fun pc => sm_ch sm_t46 pc, sm_Kn 1 6 none, fun x => sm_lk sm_ca1 x, some .int) [15, 18, 19, 23] 6 0 [4, 100] [] 2000 [(4, [(0, .inl 15), (1, .inr (false, ar_t32)), (2, .inr (false, [(0, 0)])), (3, .inr (false, [(0, 0)]))], [], kch769),
  (4, [(0, .inl 15), (1, .inr (false, ar_t32)), (2, .inr (false, ar_t32)), (3, .inr (false, [(1, 1)])), (4, .inr (false, [(-9, -9), (0, 7)]))], [], kch770),
  (4, [(0, .inl 15), (1, .inr (false, ar_t32)), (2, .inr (false, ar_t32)), (3, .inr (false, [(2, 2)])), (4, .inr (false, [(-9, -9), (0, 7)]))], [], kch771),
  (4, [(0, .inl 15), (1, .inr (false, ar_t32)), (2, .inr (false, ar_t32)), (3, .inr (false, [(3, 3)])), (4, .inr (false, [(-9, -9), (0, 7)]))], [], kch772),
  (4, [(0, .inl 15), (1, .inr (false, ar_t32)), (2, .inr (false, ar_t32)), (3, .inr (false, [(4, 4)])), (4, .inr (false, [(-9, -9), (0, 7)]))], [], kch773),
  (100, [(0, .inl 15), (1, .inr (false, ar_t32)), (2, .inr (false, ar_t32)), (3, .inr (false, [(0, 0)]))], [], kch769),
  (100, [(0, .inl 15), (1, .inr (false, ar_t32)), (2, .inr (false, ar_t32)), (3, .inr (false, [(1, 1)]))], [], kch774),
  (100, [(0, .inl 15), (1, .inr (false, ar_t32)), (2, .inr (false, ar_t32)), (3, .inr (false, [(2, 2)]))], [], kch775),
  (100, [(0, .inl 15), (1, .inr (false, ar_t32)), (2, .inr (false, ar_t32)), (3, .inr (false, [(3, 3)]))], [], kch776),
  (100, [(0, .inl 15), (1, .inr (false, ar_t32)), (2, .inr (false, ar_t32)), (3, .inr (false, [(4, 4)]))], [], kch777),
  (100, [(0, .inl 15), (1, .inr (false, ar_t32)), (2, .inr (false, ar_t32)), (3, .inr (false, [(5, 5)]))], [], kch778),
  (100, [(0, .inl 15), (1, .inr (false, ar_t32)), (2, .inr (false, ar_t32)), (3, .inr (false, [(6, 6)]))], [], kch779),
  (100, [(0, .inl 15), (1, .inr (false, ar_t32)), (2, .inr (false, ar_t32)), (3, .inr (false, [(7, 7)]))], [], kch780),
  (100, [(0, .inl 15), (1, .inr (false, ar_t32)), (2, .inr (false, ar_t32)), (3, .inr (false, [(8, 8)]))], [], kch781)] = true := by decide +kernel
/-- Register.change -/
def kcc995 : ak_C := (45, [.inl 15, .inr (false, [(0, 0)]), .inr (false, [(0, 0)]), .inr (false, ar_t32)], kch769, [15, 18, 19, 23], [([], some (.inr (false, ar_t32)), kch768)])
theorem kck995 : ai_chk [kcc994] kcc995 (fun pc => sm_ch sm_t45 pc, sm_Kn 1 5 none, fun x => sm_lk sm_ca1 x, some .int) [15, 18, 19, 23] 5 0 [] [] 2000 [] = true := by decide +kernel
def kch782 : aw_H := [(15, kcx669), (18, .inr (.inl (0, 8, [], []))), (19, .inr (.inl (0, 8, [], []))), (23, kcx36), (42, kcx696), (43, .inr (.inr (.inr ()))), (44, .inr (.inr (.inr ()))), (45, .inr (.inr (.inr ())))]
/-- MiceRegisters.doTruly -/
def kch783 : aw_H := [(0, kcx2), (15, kcx669), (16, .inr (.inl (0, 8, [], []))), (18, .inr (.inl (0, 8, [], []))), (19, .inr (.inl (0, 8, [], []))), (20, .inr (.inl (0, 4, [], []))), (21, .inr (.inl (0, 4, [], []))), (23, kcx36), (42, kcx696), (43, .inr (.inr (.inr ()))), (44, .inr (.inr (.inr ()))), (45, .inr (.inr (.inr ())))]
def kcc996 : ak_C := (43, [.inl 0, .inr (false, [(0, 0)]), .inr (false, [(0, 0)]), .inr (false, ar_t32)], kch783, [15, 18, 19, 23, 42, 43, 44, 45], [([], some (.inr (false, ar_t32)), kch782)])
theorem kck996 : ai_chk [kcc0, kcc995] kcc996 (fun pc => sm_ch sm_t43 pc, sm_Kn 2 4 none, fun x => sm_lk sm_ca2 x, some .int) [15, 18, 19, 23, 42] 4 0 [] [] 2000 [] = true := by decide +kernel
def kcx784 : aw_A := .inl (1, [.inr (false, [(0, 8)]), .inr (false, [(0, 0)]), .inr (false, ar_t32), .inr (false, ar_t32), .inr (false, ar_t32), .inl 16, .inl 17, .inl 18, .inl 19, .inl 20, .inl 21, .inl 22, .inl 23])
def kch785 : aw_H := [(15, kcx784), (18, .inr (.inl (0, 8, [], []))), (19, .inr (.inl (0, 8, [], []))), (23, kcx36), (42, kcx696), (43, .inr (.inr (.inr ()))), (44, .inr (.inr (.inr ()))), (45, .inr (.inr (.inr ())))]
def kcx786 : aw_A := .inl (0, [.inr (false, [(40, 40)]), .inl 43, .inl 44, .inl 45])
def kch787 : aw_H := [(15, kcx688), (18, .inr (.inl (0, 8, [], []))), (19, .inr (.inl (0, 8, [], []))), (23, kcx36), (42, kcx786), (43, .inr (.inr (.inr ()))), (44, .inr (.inr (.inr ()))), (45, .inr (.inr (.inr ())))]
/-- MiceRegisters.year -/
def kcc997 : ak_C := (42, [.inl 0], kch783, [15, 18, 19, 23, 42, 43, 44, 45], [([], some (.inr (false, [(-4, -4)])), kch785), ([], some (.inr (false, [(-2, -2)])), kch787), ([], some (.inr (false, ar_t32)), kch782)])
theorem kck997 : ai_chk [kcc996] kcc997 (fun pc => sm_ch sm_t42 pc, sm_Kn 2 1 none, fun x => sm_lk sm_ca2 x, some .int) [15, 18, 19, 23, 42] 1 0 [] [] 2000 [] = true := by decide +kernel
/-- Deeds.add -/
def kcc1 : ak_C := (44, [.inl 42, .inr (false, [(1, 1)]), .inr (false, [(0, 7)]), .inr (false, ar_t32)], kch767, [42, 43, 44, 45], [([], none, kch766)])
def kch788 : aw_H := [(19, .inr (.inl (0, 8, [], [])))]
/-- Register.change -/
def kcc998 : ak_C := (45, [.inl 15, .inr (false, [(1, 1)]), .inr (false, [(0, 7)]), .inr (false, ar_t32)], kch756, [19], [([], some (.inr (false, ar_t32)), kch788)])
theorem kck998 : ai_chk [] kcc998 (fun pc => sm_ch sm_t45 pc, sm_Kn 1 5 none, fun x => sm_lk sm_ca1 x, some .int) [19] 5 0 [] [] 2000 [] = true := by decide +kernel
def kch789 : aw_H := [(19, .inr (.inl (0, 8, [], []))), (42, kcx696), (43, .inr (.inr (.inr ()))), (44, .inr (.inr (.inr ()))), (45, .inr (.inr (.inr ())))]
/-- MiceRegisters.doTruly -/
def kch790 : aw_H := [(0, kcx2), (15, kcx669), (19, .inr (.inl (0, 8, [], []))), (42, kcx696), (43, .inr (.inr (.inr ()))), (44, .inr (.inr (.inr ()))), (45, .inr (.inr (.inr ())))]
def kcc999 : ak_C := (43, [.inl 0, .inr (false, [(1, 1)]), .inr (false, [(0, 7)]), .inr (false, ar_t32)], kch790, [19, 42, 43, 44, 45], [([], some (.inr (false, ar_t32)), kch789)])
theorem kck999 : ai_chk [kcc1, kcc998] kcc999 (fun pc => sm_ch sm_t43 pc, sm_Kn 2 4 none, fun x => sm_lk sm_ca2 x, some .int) [19, 42] 4 0 [] [] 2000 [] = true := by decide +kernel
def kch791 : aw_H := [(19, .inr (.inl (0, 8, [], []))), (42, kcx786), (43, .inr (.inr (.inr ()))), (44, .inr (.inr (.inr ()))), (45, .inr (.inr (.inr ())))]
/-- MiceRegisters.cheese -/
def kcc1000 : ak_C := (47, [.inl 0, .inr (false, ar_t32), .inr (false, ar_t32)], kch790, [19, 42, 43, 44, 45], [([[], [], []], some (.inr (false, [(-1, -1)])), kch789), ([[], [(0, 7)], [(1, 9)]], some (.inr (false, [(-4, -4)])), kch789), ([[], [(0, 7)], [(1, 9)]], some (.inr (false, [(-2, -2)])), kch791), ([[], [(0, 7)], [(1, 9)]], some (.inr (false, ar_t32)), kch789)])
theorem kck1000 : ai_chk [kcc976, kcc999] kcc1000 (fun pc => sm_ch sm_t47 pc, sm_Kn 2 3 none, fun x => sm_lk sm_ca2 x, some .int) [19, 42] 3 3 [] [] 2000 [] = true := by decide +kernel
def kcx792 : aw_A := .inl (1, [.inr (false, [(0, 8)]), .inr (false, [(0, 4)]), .inr (false, ar_t32), .inr (false, [(0, 7)]), .inr (false, ar_t32), .inl 16, .inl 17, .inl 18, .inl 19, .inl 20, .inl 21, .inl 22, .inl 23])
def kch793 : aw_H := [(15, kcx792)]
/-- Register.change -/
def kch794 : aw_H := [(15, kcx669)]
def kcc1001 : ak_C := (45, [.inl 15, .inr (false, [(2, 2)]), .inr (false, [(0, 7)]), .inr (false, ar_t32)], kch794, [15], [([], some (.inr (false, ar_t32)), kch793)])
theorem kck1001 : ai_chk [] kcc1001 (fun pc => sm_ch sm_t45 pc, sm_Kn 1 5 none, fun x => sm_lk sm_ca1 x, some .int) [15] 5 0 [] [] 2000 [] = true := by decide +kernel
def kch795 : aw_H := [(15, kcx792), (42, kcx696), (43, .inr (.inr (.inr ()))), (44, .inr (.inr (.inr ()))), (45, .inr (.inr (.inr ())))]
/-- MiceRegisters.doTruly -/
def kch796 : aw_H := [(0, kcx2), (15, kcx669), (42, kcx696), (43, .inr (.inr (.inr ()))), (44, .inr (.inr (.inr ()))), (45, .inr (.inr (.inr ())))]
def kcc1002 : ak_C := (43, [.inl 0, .inr (false, [(2, 2)]), .inr (false, [(0, 7)]), .inr (false, ar_t32)], kch796, [15, 42, 43, 44, 45], [([], some (.inr (false, ar_t32)), kch795)])
theorem kck1002 : ai_chk [kcc0, kcc1001] kcc1002 (fun pc => sm_ch sm_t43 pc, sm_Kn 2 4 none, fun x => sm_lk sm_ca2 x, some .int) [15, 42] 4 0 [] [] 2000 [] = true := by decide +kernel
def kcx797 : aw_A := .inl (1, [.inr (false, [(0, 8)]), .inr (false, [(0, 4)]), .inr (false, ar_t32), .inr (false, [(-9, -9)]), .inr (false, ar_t32), .inl 16, .inl 17, .inl 18, .inl 19, .inl 20, .inl 21, .inl 22, .inl 23])
def kch798 : aw_H := [(15, kcx797)]
/-- Register.change -/
def kcc1003 : ak_C := (45, [.inl 15, .inr (false, [(2, 2)]), .inr (false, [(-9, -9)]), .inr (false, ar_t32)], kch794, [15], [([], some (.inr (false, ar_t32)), kch798)])
theorem kck1003 : ai_chk [] kcc1003 (fun pc => sm_ch sm_t45 pc, sm_Kn 1 5 none, fun x => sm_lk sm_ca1 x, some .int) [15] 5 0 [] [] 2000 [] = true := by decide +kernel
def kch799 : aw_H := [(15, kcx797), (42, kcx696), (43, .inr (.inr (.inr ()))), (44, .inr (.inr (.inr ()))), (45, .inr (.inr (.inr ())))]
/-- MiceRegisters.doTruly -/
def kcc1004 : ak_C := (43, [.inl 0, .inr (false, [(2, 2)]), .inr (false, [(-9, -9)]), .inr (false, ar_t32)], kch796, [15, 42, 43, 44, 45], [([], some (.inr (false, ar_t32)), kch799)])
theorem kck1004 : ai_chk [kcc0, kcc1003] kcc1004 (fun pc => sm_ch sm_t43 pc, sm_Kn 2 4 none, fun x => sm_lk sm_ca2 x, some .int) [15, 42] 4 0 [] [] 2000 [] = true := by decide +kernel
def kch800 : aw_H := [(15, kcx669), (42, kcx696), (43, .inr (.inr (.inr ()))), (44, .inr (.inr (.inr ()))), (45, .inr (.inr (.inr ())))]
def kch801 : aw_H := [(15, kcx688), (42, kcx786), (43, .inr (.inr (.inr ()))), (44, .inr (.inr (.inr ()))), (45, .inr (.inr (.inr ())))]
def kcx802 : aw_A := .inl (1, [.inr (false, [(0, 8)]), .inr (false, [(0, 4)]), .inr (false, ar_t32), .inr (false, [(-9, -9), (0, 7)]), .inr (false, ar_t32), .inl 16, .inl 17, .inl 18, .inl 19, .inl 20, .inl 21, .inl 22, .inl 23])
def kch803 : aw_H := [(15, kcx802), (42, kcx696), (43, .inr (.inr (.inr ()))), (44, .inr (.inr (.inr ()))), (45, .inr (.inr (.inr ())))]
/-- MiceRegisters.cat -/
def kcc1005 : ak_C := (48, [.inl 0, .inr (false, ar_t32)], kch796, [15, 42, 43, 44, 45], [([[], [(-9, -9), (0, 7)]], some (.inr (false, [(-4, -4)])), kch800), ([[], [(-9, -9), (0, 7)]], some (.inr (false, [(-2, -2)])), kch801), ([[], [(-9, -9), (0, 7)]], some (.inr (false, ar_t32)), kch803), ([[], []], some (.inr (false, [(-1, -1)])), kch800)])
theorem kck1005 : ai_chk [kcc976, kcc1002, kcc1004] kcc1005 (fun pc => sm_ch sm_t48 pc, sm_Kn 2 2 none, fun x => sm_lk sm_ca2 x, some .int) [15, 42] 2 2 [] [] 2000 [] = true := by decide +kernel
/-- Register.change -/
def kcc1006 : ak_C := (45, [.inl 15, .inr (false, [(3, 3)]), .inr (false, [(0, 7)]), .inr (false, ar_t32)], kch794, [15], [([], some (.inr (false, [(0, 1)])), kch794)])
theorem kck1006 : ai_chk [] kcc1006 (fun pc => sm_ch sm_t45 pc, sm_Kn 1 5 none, fun x => sm_lk sm_ca1 x, some .int) [15] 5 0 [] [] 2000 [] = true := by decide +kernel
/-- MiceRegisters.doTruly -/
def kcc1007 : ak_C := (43, [.inl 0, .inr (false, [(3, 3)]), .inr (false, [(0, 7)]), .inr (false, ar_t32)], kch796, [15, 42, 43, 44, 45], [([], some (.inr (false, [(0, 1)])), kch800)])
theorem kck1007 : ai_chk [kcc0, kcc1006] kcc1007 (fun pc => sm_ch sm_t43 pc, sm_Kn 2 4 none, fun x => sm_lk sm_ca2 x, some .int) [15, 42] 4 0 [] [] 2000 [] = true := by decide +kernel
def kch804 : aw_H := [(15, kcx669), (42, kcx786), (43, .inr (.inr (.inr ()))), (44, .inr (.inr (.inr ()))), (45, .inr (.inr (.inr ())))]
/-- MiceRegisters.wax -/
def kcc1008 : ak_C := (49, [.inl 0, .inr (false, ar_t32)], kch796, [15, 42, 43, 44, 45], [([[], [(0, 7)]], some (.inr (false, [(-2, -2)])), kch804), ([[], [(0, 7)]], some (.inr (false, [(0, 1)])), kch800), ([[], []], some (.inr (false, [(-1, -1)])), kch800)])
theorem kck1008 : ai_chk [kcc976, kcc1007] kcc1008 (fun pc => sm_ch sm_t49 pc, sm_Kn 2 2 none, fun x => sm_lk sm_ca2 x, some .int) [15, 42] 2 2 [] [] 2000 [] = true := by decide +kernel
/-- MiceRegisters.doAgain -/
def kch805 : aw_H := [(0, kcx2), (15, kcx669), (16, .inr (.inl (0, 8, [], []))), (17, .inr (.inl (0, 8, [], []))), (18, .inr (.inl (0, 8, [], []))), (19, .inr (.inl (0, 8, [], []))), (20, .inr (.inl (0, 4, [], []))), (21, .inr (.inl (0, 4, [], []))), (22, kcx36), (23, kcx36), (42, kcx696)]
def kcc8 : ak_C := (51, [.inl 0], kch805, [15, 18, 19, 23], [([], none, kch768)])
def kch806 : aw_H := [(15, kcx669), (18, .inr (.inl (0, 8, [], []))), (19, .inr (.inl (0, 8, [], []))), (23, kcx36), (42, kcx696)]
def kcx807 : aw_A := .inl (0, [.inr (false, [(0, 39)]), .inl 43, .inl 44, .inl 45])
def kch808 : aw_H := [(15, kcx669), (18, .inr (.inl (0, 8, [], []))), (19, .inr (.inl (0, 8, [], []))), (23, kcx36), (42, kcx807)]
/-- MiceRegisters.undo -/
def kcc1009 : ak_C := (50, [.inl 0, .inr (false, ar_t32)], kch805, [15, 18, 19, 23, 42], [([[], []], some (.inr (false, [(-1, -1)])), kch806), ([[], [(0, 39)]], some (.inr (false, [(-38, 40)])), kch808)])
theorem kck1009 : ai_chk [kcc8] kcc1009 (fun pc => sm_ch sm_t50 pc, sm_Kn 2 3 none, fun x => sm_lk sm_ca2 x, some .int) [15, 18, 19, 23, 42] 3 2 [] [] 2000 [] = true := by decide +kernel
/-- MiceRegisters.isNoPlace -/
def kcc1010 : ak_C := (53, [.inr (false, ar_t32)], [], [], [([[(-2147483648, -1), (3, 2147483647)]], some (.inr (false, [(1, 1)])), []), ([[(0, 2)]], some (.inr (false, [(0, 0)])), [])])
theorem kck1010 : ai_chk [] kcc1010 (fun pc => sm_ch sm_t53 pc, sm_Kn 2 1 none, fun x => sm_lk sm_ca2 x, some .boolean) [] 1 1 [] [] 2000 [] = true := by decide +kernel
def kcx809 : aw_A := .inl (0, [.inr (false, [(0, 40)]), .inl 56, .inl 57, .inl 58])
def kch810 : aw_H := [(55, kcx809), (56, .inr (.inr (.inr ()))), (57, .inr (.inr (.inr ()))), (58, .inr (.inr (.inr ())))]
/-- Deeds.takeFrom -/
def kch811 : aw_H := [(42, kcx696), (55, kcx699)]
def kcc6 : ak_C := (54, [.inl 55, .inl 42], kch811, [55, 56, 57, 58], [([], none, kch810)])
def kcx812 : aw_A := .inl (0, [.inr (false, [(0, 40)]), .inl 52, .inl 53, .inl 54])
def kch813 : aw_H := [(51, kcx812), (52, .inr (.inr (.inr ()))), (53, .inr (.inr (.inr ()))), (54, .inr (.inr (.inr ())))]
/-- Deeds.takeFrom -/
def kch814 : aw_H := [(42, kcx696), (51, kcx698)]
def kcc4 : ak_C := (54, [.inl 51, .inl 42], kch814, [51, 52, 53, 54], [([], none, kch813)])
def kcx815 : aw_A := .inl (0, [.inr (false, [(0, 40)]), .inl 48, .inl 49, .inl 50])
def kch816 : aw_H := [(47, kcx815), (48, .inr (.inr (.inr ()))), (49, .inr (.inr (.inr ()))), (50, .inr (.inr (.inr ())))]
/-- Deeds.takeFrom -/
def kch817 : aw_H := [(42, kcx696), (47, kcx697)]
def kcc2 : ak_C := (54, [.inl 47, .inl 42], kch817, [47, 48, 49, 50], [([], none, kch816)])
def kch818 : aw_H := [(47, kcx697), (48, .inr (.inr (.inr ()))), (49, .inr (.inr (.inr ()))), (50, .inr (.inr (.inr ()))), (51, kcx698), (52, .inr (.inr (.inr ()))), (53, .inr (.inr (.inr ()))), (54, .inr (.inr (.inr ()))), (55, kcx699), (56, .inr (.inr (.inr ()))), (57, .inr (.inr (.inr ()))), (58, .inr (.inr (.inr ())))]
/-- MiceRegisters.keep -/
def kch819 : aw_H := [(0, kcx2), (15, kcx669), (42, kcx696), (46, .inr (.inr (.inl (4, [47, 51, 55])))), (47, kcx697), (48, .inr (.inr (.inr ()))), (49, .inr (.inr (.inr ()))), (50, .inr (.inr (.inr ()))), (51, kcx698), (52, .inr (.inr (.inr ()))), (53, .inr (.inr (.inr ()))), (54, .inr (.inr (.inr ()))), (55, kcx699), (56, .inr (.inr (.inr ()))), (57, .inr (.inr (.inr ()))), (58, .inr (.inr (.inr ())))]
def kcc1011 : ak_C := (52, [.inl 0, .inr (false, ar_t32)], kch819, [47, 48, 49, 50, 51, 52, 53, 54, 55, 56, 57, 58], [([[], [(0, 2)]], some (.inr (false, [(-4, -4)])), kch818), ([[], [(0, 2)]], some (.inr (false, [(0, 40)])), kch818), ([[], [(-2147483648, -1), (3, 2147483647)]], some (.inr (false, [(-1, -1)])), kch818)])
theorem kck1011 : ai_chk [kcc1010, kcc6, kcc4, kcc2] kcc1011 (fun pc => sm_ch sm_t52 pc, sm_Kn 2 2 none, fun x => sm_lk sm_ca2 x, some .int) [47, 51, 55] 2 2 [] [] 2000 [] = true := by decide +kernel
/-- Deeds.takeFrom -/
def kch820 : aw_H := [(42, kcx696), (55, kcx809)]
def kcc7 : ak_C := (54, [.inl 42, .inl 55], kch820, [42, 43, 44, 45], [([], none, kch766)])
/-- Deeds.takeFrom -/
def kch821 : aw_H := [(42, kcx696), (51, kcx812)]
def kcc5 : ak_C := (54, [.inl 42, .inl 51], kch821, [42, 43, 44, 45], [([], none, kch766)])
/-- Deeds.takeFrom -/
def kch822 : aw_H := [(42, kcx696), (47, kcx815)]
def kcc3 : ak_C := (54, [.inl 42, .inl 47], kch822, [42, 43, 44, 45], [([], none, kch766)])
def kch823 : aw_H := [(0, kcx0), (15, kcx669), (18, .inr (.inl (0, 8, [], []))), (19, .inr (.inl (0, 8, [], []))), (23, kcx36), (42, kcx696), (43, .inr (.inr (.inr ()))), (44, .inr (.inr (.inr ()))), (45, .inr (.inr (.inr ()))), (80, .inr (.inl (0, 6, [], [])))]
def kch824 : aw_H := [(0, kcx2), (15, kcx669), (18, .inr (.inl (0, 8, [], []))), (19, .inr (.inl (0, 8, [], []))), (23, kcx36), (42, kcx696), (43, .inr (.inr (.inr ()))), (44, .inr (.inr (.inr ()))), (45, .inr (.inr (.inr ()))), (80, .inr (.inl (0, 6, [], [])))]
/-- MiceRegisters.on -/
def kch825 : aw_H := [(0, kcx2), (15, kcx669), (16, .inr (.inl (0, 8, [], []))), (17, .inr (.inl (0, 8, [], []))), (18, .inr (.inl (0, 8, [], []))), (19, .inr (.inl (0, 8, [], []))), (20, .inr (.inl (0, 4, [], []))), (21, .inr (.inl (0, 4, [], []))), (22, kcx36), (23, kcx36), (42, kcx696), (43, .inr (.inr (.inr ()))), (44, .inr (.inr (.inr ()))), (45, .inr (.inr (.inr ()))), (46, .inr (.inr (.inl (4, [47, 51, 55])))), (47, kcx697), (51, kcx698), (55, kcx699), (80, .inr (.inl (0, 6, [], [])))]
def kcc1012 : ak_C := (55, [.inl 0, .inr (false, ar_t32)], kch825, [0, 15, 18, 19, 23, 42, 43, 44, 45, 80], [([[], [(0, 2)]], some (.inr (false, [(-3, -3)])), kch823), ([[], [(0, 2)]], some (.inr (false, [(0, 40)])), kch824), ([[], [(-2147483648, -1), (3, 2147483647)]], some (.inr (false, [(-1, -1)])), kch824)])
theorem kck1012 : ai_chk [kcc1010, kcc11, kcc7, kcc8, kcc5, kcc3] kcc1012 (fun pc => sm_ch sm_t55 pc, sm_Kn 2 2 none, fun x => sm_lk sm_ca2 x, some .int) [0, 15, 18, 19, 23, 42, 80] 2 2 [] [] 2000 [] = true := by decide +kernel
/-- MiceRegisters.likes -/
def kch826 : aw_H := [(0, kcx2), (15, kcx669), (20, .inr (.inl (0, 4, [], [])))]
def kcc1013 : ak_C := (56, [.inl 0, .inr (false, ar_t32), .inr (false, ar_t32), .inr (false, ar_t32), .inr (false, ar_t32)], kch826, [0], [([[], [], [], [], []], some (.inr (false, [(-1, -1)])), kch10), ([[], [(0, 3)], [(0, 9)], [(0, 20)], [(0, 7)]], some (.inr (false, [(1, 1)])), kch10)])
theorem kck1013 : ai_chk [kcc984, kcc979, kcc14] kcc1013 (fun pc => sm_ch sm_t56 pc, sm_Kn 2 5 none, fun x => sm_lk sm_ca2 x, some .int) [0] 5 5 [] [] 2000 [] = true := by decide +kernel
def kch827 : aw_H := [(24, kcx25), (25, .inr (.inl (0, 8, [], []))), (26, .inr (.inl (0, 8, [], []))), (27, .inr (.inl (0, 8, [], []))), (28, .inr (.inl (0, 8, [], []))), (29, .inr (.inl (0, 4, [], []))), (30, .inr (.inl (0, 4, [], []))), (31, kcx36), (32, kcx36)]
/-- Register.takeFrom -/
def kcc1014 : ak_C := (23, [.inl 24, .inl 15], kch671, [24, 25, 26, 27, 28, 29, 30, 31, 32], [([], none, kch827)])
def kcx828 : aw_A := .inl (1, [.inr (false, [(1, 8)]), .inr (false, [(0, 4)]), .inr (false, ar_t32), .inr (false, ar_t32), .inr (false, ar_t32), .inl 25, .inl 26, .inl 27, .inl 28, .inl 29, .inl 30, .inl 31, .inl 32])
def kch829 : aw_H := [(15, kcx669), (16, .inr (.inl (0, 8, [], []))), (17, .inr (.inl (0, 8, [], []))), (18, .inr (.inl (0, 8, [], []))), (19, .inr (.inl (0, 8, [], []))), (20, .inr (.inl (0, 4, [], []))), (21, .inr (.inl (0, 4, [], []))), (22, kcx36), (23, kcx36), (24, kcx828), (25, .inr (.inl (0, 8, [], []))), (26, .inr (.inl (0, 8, [], []))), (27, .inr (.inl (0, 8, [], []))), (28, .inr (.inl (0, 8, [], []))), (29, .inr (.inl (0, 4, [], []))), (30, .inr (.inl (0, 4, [], []))), (31, kcx36), (32, kcx36)]
def kcx830 : aw_A := .inl (1, [.inr (false, [(2, 8)]), .inr (false, [(0, 4)]), .inr (false, ar_t32), .inr (false, ar_t32), .inr (false, ar_t32), .inl 25, .inl 26, .inl 27, .inl 28, .inl 29, .inl 30, .inl 31, .inl 32])
def kch831 : aw_H := [(15, kcx669), (16, .inr (.inl (0, 8, [], []))), (17, .inr (.inl (0, 8, [], []))), (18, .inr (.inl (0, 8, [], []))), (19, .inr (.inl (0, 8, [], []))), (20, .inr (.inl (0, 4, [], []))), (21, .inr (.inl (0, 4, [], []))), (22, kcx36), (23, kcx36), (24, kcx830), (25, .inr (.inl (0, 8, [], []))), (26, .inr (.inl (0, 8, [], []))), (27, .inr (.inl (0, 8, [], []))), (28, .inr (.inl (0, 8, [], []))), (29, .inr (.inl (0, 4, [], []))), (30, .inr (.inl (0, 4, [], []))), (31, kcx36), (32, kcx36)]
def kcx832 : aw_A := .inl (1, [.inr (false, [(3, 8)]), .inr (false, [(0, 4)]), .inr (false, ar_t32), .inr (false, ar_t32), .inr (false, ar_t32), .inl 25, .inl 26, .inl 27, .inl 28, .inl 29, .inl 30, .inl 31, .inl 32])
def kch833 : aw_H := [(15, kcx669), (16, .inr (.inl (0, 8, [], []))), (17, .inr (.inl (0, 8, [], []))), (18, .inr (.inl (0, 8, [], []))), (19, .inr (.inl (0, 8, [], []))), (20, .inr (.inl (0, 4, [], []))), (21, .inr (.inl (0, 4, [], []))), (22, kcx36), (23, kcx36), (24, kcx832), (25, .inr (.inl (0, 8, [], []))), (26, .inr (.inl (0, 8, [], []))), (27, .inr (.inl (0, 8, [], []))), (28, .inr (.inl (0, 8, [], []))), (29, .inr (.inl (0, 4, [], []))), (30, .inr (.inl (0, 4, [], []))), (31, kcx36), (32, kcx36)]
def kcx834 : aw_A := .inl (1, [.inr (false, [(4, 8)]), .inr (false, [(0, 4)]), .inr (false, ar_t32), .inr (false, ar_t32), .inr (false, ar_t32), .inl 25, .inl 26, .inl 27, .inl 28, .inl 29, .inl 30, .inl 31, .inl 32])
def kch835 : aw_H := [(15, kcx669), (16, .inr (.inl (0, 8, [], []))), (17, .inr (.inl (0, 8, [], []))), (18, .inr (.inl (0, 8, [], []))), (19, .inr (.inl (0, 8, [], []))), (20, .inr (.inl (0, 4, [], []))), (21, .inr (.inl (0, 4, [], []))), (22, kcx36), (23, kcx36), (24, kcx834), (25, .inr (.inl (0, 8, [], []))), (26, .inr (.inl (0, 8, [], []))), (27, .inr (.inl (0, 8, [], []))), (28, .inr (.inl (0, 8, [], []))), (29, .inr (.inl (0, 4, [], []))), (30, .inr (.inl (0, 4, [], []))), (31, kcx36), (32, kcx36)]
def kcx836 : aw_A := .inl (1, [.inr (false, [(5, 8)]), .inr (false, [(0, 4)]), .inr (false, ar_t32), .inr (false, ar_t32), .inr (false, ar_t32), .inl 25, .inl 26, .inl 27, .inl 28, .inl 29, .inl 30, .inl 31, .inl 32])
def kch837 : aw_H := [(15, kcx669), (16, .inr (.inl (0, 8, [], []))), (17, .inr (.inl (0, 8, [], []))), (18, .inr (.inl (0, 8, [], []))), (19, .inr (.inl (0, 8, [], []))), (20, .inr (.inl (0, 4, [], []))), (21, .inr (.inl (0, 4, [], []))), (22, kcx36), (23, kcx36), (24, kcx836), (25, .inr (.inl (0, 8, [], []))), (26, .inr (.inl (0, 8, [], []))), (27, .inr (.inl (0, 8, [], []))), (28, .inr (.inl (0, 8, [], []))), (29, .inr (.inl (0, 4, [], []))), (30, .inr (.inl (0, 4, [], []))), (31, kcx36), (32, kcx36)]
def kcx838 : aw_A := .inl (1, [.inr (false, [(6, 8)]), .inr (false, [(0, 4)]), .inr (false, ar_t32), .inr (false, ar_t32), .inr (false, ar_t32), .inl 25, .inl 26, .inl 27, .inl 28, .inl 29, .inl 30, .inl 31, .inl 32])
def kch839 : aw_H := [(15, kcx669), (16, .inr (.inl (0, 8, [], []))), (17, .inr (.inl (0, 8, [], []))), (18, .inr (.inl (0, 8, [], []))), (19, .inr (.inl (0, 8, [], []))), (20, .inr (.inl (0, 4, [], []))), (21, .inr (.inl (0, 4, [], []))), (22, kcx36), (23, kcx36), (24, kcx838), (25, .inr (.inl (0, 8, [], []))), (26, .inr (.inl (0, 8, [], []))), (27, .inr (.inl (0, 8, [], []))), (28, .inr (.inl (0, 8, [], []))), (29, .inr (.inl (0, 4, [], []))), (30, .inr (.inl (0, 4, [], []))), (31, kcx36), (32, kcx36)]
def kcx840 : aw_A := .inl (1, [.inr (false, [(7, 8)]), .inr (false, [(0, 4)]), .inr (false, ar_t32), .inr (false, ar_t32), .inr (false, ar_t32), .inl 25, .inl 26, .inl 27, .inl 28, .inl 29, .inl 30, .inl 31, .inl 32])
def kch841 : aw_H := [(15, kcx669), (16, .inr (.inl (0, 8, [], []))), (17, .inr (.inl (0, 8, [], []))), (18, .inr (.inl (0, 8, [], []))), (19, .inr (.inl (0, 8, [], []))), (20, .inr (.inl (0, 4, [], []))), (21, .inr (.inl (0, 4, [], []))), (22, kcx36), (23, kcx36), (24, kcx840), (25, .inr (.inl (0, 8, [], []))), (26, .inr (.inl (0, 8, [], []))), (27, .inr (.inl (0, 8, [], []))), (28, .inr (.inl (0, 8, [], []))), (29, .inr (.inl (0, 4, [], []))), (30, .inr (.inl (0, 4, [], []))), (31, kcx36), (32, kcx36)]
def kcx842 : aw_A := .inl (1, [.inr (false, [(8, 8)]), .inr (false, [(0, 4)]), .inr (false, ar_t32), .inr (false, ar_t32), .inr (false, ar_t32), .inl 25, .inl 26, .inl 27, .inl 28, .inl 29, .inl 30, .inl 31, .inl 32])
def kch843 : aw_H := [(15, kcx669), (16, .inr (.inl (0, 8, [], []))), (17, .inr (.inl (0, 8, [], []))), (18, .inr (.inl (0, 8, [], []))), (19, .inr (.inl (0, 8, [], []))), (20, .inr (.inl (0, 4, [], []))), (21, .inr (.inl (0, 4, [], []))), (22, kcx36), (23, kcx36), (24, kcx842), (25, .inr (.inl (0, 8, [], []))), (26, .inr (.inl (0, 8, [], []))), (27, .inr (.inl (0, 8, [], []))), (28, .inr (.inl (0, 8, [], []))), (29, .inr (.inl (0, 4, [], []))), (30, .inr (.inl (0, 4, [], []))), (31, kcx36), (32, kcx36)]
def kch844 : aw_H := [(15, kcx669), (16, .inr (.inl (0, 8, [], []))), (17, .inr (.inl (0, 8, [], []))), (18, .inr (.inl (0, 8, [], []))), (19, .inr (.inl (0, 8, [], []))), (20, .inr (.inl (0, 4, [], []))), (21, .inr (.inl (0, 4, [], []))), (22, kcx36), (23, kcx36), (24, kcx632), (25, .inr (.inl (0, 8, [], []))), (26, .inr (.inl (0, 8, [], []))), (27, .inr (.inl (0, 8, [], []))), (28, .inr (.inl (0, 8, [], []))), (29, .inr (.inl (0, 4, [], []))), (30, .inr (.inl (0, 4, [], []))), (31, kcx36), (32, kcx36)]
def kcx845 : aw_A := .inl (1, [.inr (false, [(0, 8)]), .inr (false, [(2, 4)]), .inr (false, ar_t32), .inr (false, ar_t32), .inr (false, ar_t32), .inl 25, .inl 26, .inl 27, .inl 28, .inl 29, .inl 30, .inl 31, .inl 32])
def kch846 : aw_H := [(15, kcx669), (16, .inr (.inl (0, 8, [], []))), (17, .inr (.inl (0, 8, [], []))), (18, .inr (.inl (0, 8, [], []))), (19, .inr (.inl (0, 8, [], []))), (20, .inr (.inl (0, 4, [], []))), (21, .inr (.inl (0, 4, [], []))), (22, kcx36), (23, kcx36), (24, kcx845), (25, .inr (.inl (0, 8, [], []))), (26, .inr (.inl (0, 8, [], []))), (27, .inr (.inl (0, 8, [], []))), (28, .inr (.inl (0, 8, [], []))), (29, .inr (.inl (0, 4, [], []))), (30, .inr (.inl (0, 4, [], []))), (31, kcx36), (32, kcx36)]
def kcx847 : aw_A := .inl (1, [.inr (false, [(0, 8)]), .inr (false, [(3, 4)]), .inr (false, ar_t32), .inr (false, ar_t32), .inr (false, ar_t32), .inl 25, .inl 26, .inl 27, .inl 28, .inl 29, .inl 30, .inl 31, .inl 32])
def kch848 : aw_H := [(15, kcx669), (16, .inr (.inl (0, 8, [], []))), (17, .inr (.inl (0, 8, [], []))), (18, .inr (.inl (0, 8, [], []))), (19, .inr (.inl (0, 8, [], []))), (20, .inr (.inl (0, 4, [], []))), (21, .inr (.inl (0, 4, [], []))), (22, kcx36), (23, kcx36), (24, kcx847), (25, .inr (.inl (0, 8, [], []))), (26, .inr (.inl (0, 8, [], []))), (27, .inr (.inl (0, 8, [], []))), (28, .inr (.inl (0, 8, [], []))), (29, .inr (.inl (0, 4, [], []))), (30, .inr (.inl (0, 4, [], []))), (31, kcx36), (32, kcx36)]
def kcx849 : aw_A := .inl (1, [.inr (false, [(0, 8)]), .inr (false, [(4, 4)]), .inr (false, ar_t32), .inr (false, ar_t32), .inr (false, ar_t32), .inl 25, .inl 26, .inl 27, .inl 28, .inl 29, .inl 30, .inl 31, .inl 32])
def kch850 : aw_H := [(15, kcx669), (16, .inr (.inl (0, 8, [], []))), (17, .inr (.inl (0, 8, [], []))), (18, .inr (.inl (0, 8, [], []))), (19, .inr (.inl (0, 8, [], []))), (20, .inr (.inl (0, 4, [], []))), (21, .inr (.inl (0, 4, [], []))), (22, kcx36), (23, kcx36), (24, kcx849), (25, .inr (.inl (0, 8, [], []))), (26, .inr (.inl (0, 8, [], []))), (27, .inr (.inl (0, 8, [], []))), (28, .inr (.inl (0, 8, [], []))), (29, .inr (.inl (0, 4, [], []))), (30, .inr (.inl (0, 4, [], []))), (31, kcx36), (32, kcx36)]
theorem kck1014 : ai_chk [] kcc1014 (fun pc => sm_ch sm_t23 pc, sm_Kn 1 3 none, fun x => sm_lk sm_ca1 x, none) [24, 25, 26, 27, 28, 29, 30, 31, 32] 3 0 [42, 106] [] 2000 [(42, [(0, .inl 24), (1, .inl 15), (2, .inr (false, [(0, 0)]))], [], kch671),
  (42, [(0, .inl 24), (1, .inl 15), (2, .inr (false, [(1, 1)]))], [], kch829),
  (42, [(0, .inl 24), (1, .inl 15), (2, .inr (false, [(2, 2)]))], [], kch831),
  (42, [(0, .inl 24), (1, .inl 15), (2, .inr (false, [(3, 3)]))], [], kch833),
  (42, [(0, .inl 24), (1, .inl 15), (2, .inr (false, [(4, 4)]))], [], kch835),
  (42, [(0, .inl 24), (1, .inl 15), (2, .inr (false, [(5, 5)]))], [], kch837),
  (42, [(0, .inl 24), (1, .inl 15), (2, .inr (false, [(6, 6)]))], [], kch839),
  (42, [(0, .inl 24), (1, .inl 15), (2, .inr (false, [(7, 7)]))], [], kch841),
  (42, [(0, .inl 24), (1, .inl 15), (2, .inr (false, [(8, 8)]))], [], kch843),
  (106, [(0, .inl 24), (1, .inl 15), (2, .inr (false, [(0, 0)]))], [], kch671),
  (106, [(0, .inl 24), (1, .inl 15), (2, .inr (false, [(1, 1)]))], [], kch844),
  (106, [(0, .inl 24), (1, .inl 15), (2, .inr (false, [(2, 2)]))], [], kch846),
  (106, [(0, .inl 24), (1, .inl 15), (2, .inr (false, [(3, 3)]))], [], kch848),
  (106, [(0, .inl 24), (1, .inl 15), (2, .inr (false, [(4, 4)]))], [], kch850)] = true := by decide +kernel
/-- Register.isOpen -/
def kch851 : aw_H := [(24, kcx25), (27, .inr (.inl (0, 8, [], [])))]
def kcc1015 : ak_C := (29, [.inl 24, .inr (false, [(0, 7)])], kch851, [], [([], some (.inr (false, [(1, 1)])), []), ([], some (.inr (false, [(0, 0)])), [])])
theorem kck1015 : ai_chk [] kcc1015 (fun pc => sm_ch sm_t29 pc, sm_Kn 1 2 none, fun x => sm_lk sm_ca1 x, some .boolean) [] 2 0 [] [] 2000 [] = true := by decide +kernel
/-- Register.distance -/
def kch852 : aw_H := [(24, kcx25), (32, kcx36)]
def kcc1016 : ak_C := (30, [.inl 24, .inr (false, [(0, 3)]), .inr (false, [(0, 7)])], kch852, [], [([], some (.inr (false, [(0, 7)])), [])])
theorem kck1016 : ai_chk [] kcc1016 (fun pc => sm_ch sm_t30 pc, sm_Kn 1 3 none, fun x => sm_lk sm_ca1 x, some .int) [] 3 0 [] [] 2000 [] = true := by decide +kernel
/-- Register.lineWantedBy -/
def kch853 : aw_H := [(24, kcx25), (25, .inr (.inl (0, 8, [], []))), (27, .inr (.inl (0, 8, [], []))), (28, .inr (.inl (0, 8, [], []))), (29, .inr (.inl (0, 4, [], []))), (32, kcx36)]
def kcc1017 : ak_C := (28, [.inl 24, .inr (false, [(0, 3)])], kch853, [], [([], some (.inr (false, [(-9, -9)])), []), ([], some (.inr (false, [(-9, -9), (0, 7)])), [])])
def kch854 : aw_H := [(24, kcx828), (25, .inr (.inl (0, 8, [], []))), (27, .inr (.inl (0, 8, [], []))), (28, .inr (.inl (0, 8, [], []))), (29, .inr (.inl (0, 4, [], []))), (32, kcx36)]
def kch855 : aw_H := [(24, kcx830), (25, .inr (.inl (0, 8, [], []))), (27, .inr (.inl (0, 8, [], []))), (28, .inr (.inl (0, 8, [], []))), (29, .inr (.inl (0, 4, [], []))), (32, kcx36)]
def kch856 : aw_H := [(24, kcx832), (25, .inr (.inl (0, 8, [], []))), (27, .inr (.inl (0, 8, [], []))), (28, .inr (.inl (0, 8, [], []))), (29, .inr (.inl (0, 4, [], []))), (32, kcx36)]
def kch857 : aw_H := [(24, kcx834), (25, .inr (.inl (0, 8, [], []))), (27, .inr (.inl (0, 8, [], []))), (28, .inr (.inl (0, 8, [], []))), (29, .inr (.inl (0, 4, [], []))), (32, kcx36)]
def kch858 : aw_H := [(24, kcx836), (25, .inr (.inl (0, 8, [], []))), (27, .inr (.inl (0, 8, [], []))), (28, .inr (.inl (0, 8, [], []))), (29, .inr (.inl (0, 4, [], []))), (32, kcx36)]
def kch859 : aw_H := [(24, kcx838), (25, .inr (.inl (0, 8, [], []))), (27, .inr (.inl (0, 8, [], []))), (28, .inr (.inl (0, 8, [], []))), (29, .inr (.inl (0, 4, [], []))), (32, kcx36)]
def kch860 : aw_H := [(24, kcx840), (25, .inr (.inl (0, 8, [], []))), (27, .inr (.inl (0, 8, [], []))), (28, .inr (.inl (0, 8, [], []))), (29, .inr (.inl (0, 4, [], []))), (32, kcx36)]
def kch861 : aw_H := [(24, kcx842), (25, .inr (.inl (0, 8, [], []))), (27, .inr (.inl (0, 8, [], []))), (28, .inr (.inl (0, 8, [], []))), (29, .inr (.inl (0, 4, [], []))), (32, kcx36)]
theorem kck1017 : ai_chk [kcc1015, kcc1016, kcc979] kcc1017 (fun pc => sm_ch sm_t28 pc, sm_Kn 1 8 none, fun x => sm_lk sm_ca1 x, some .int) [] 8 0 [11] [] 2000 [(11, [(0, .inl 24), (1, .inr (false, [(0, 3)])), (2, .inr (false, [(-9, -9)])), (3, .inr (false, [(0, 0)])), (4, .inr (false, [(0, 0)])), (5, .inr (false, [(0, 0)]))], [], kch853),
  (11, [(0, .inl 24), (1, .inr (false, [(0, 3)])), (2, .inr (false, [(-9, -9), (0, 0)])), (3, .inr (false, [(0, 2147483647)])), (4, .inr (false, [(0, 7)])), (5, .inr (false, [(1, 1)]))], [], kch854),
  (11, [(0, .inl 24), (1, .inr (false, [(0, 3)])), (2, .inr (false, [(-9, -9), (0, 1)])), (3, .inr (false, [(0, 2147483647)])), (4, .inr (false, [(0, 7)])), (5, .inr (false, [(2, 2)]))], [], kch855),
  (11, [(0, .inl 24), (1, .inr (false, [(0, 3)])), (2, .inr (false, [(-9, -9), (0, 2)])), (3, .inr (false, [(0, 2147483647)])), (4, .inr (false, [(0, 7)])), (5, .inr (false, [(3, 3)]))], [], kch856),
  (11, [(0, .inl 24), (1, .inr (false, [(0, 3)])), (2, .inr (false, [(-9, -9), (0, 3)])), (3, .inr (false, [(0, 2147483647)])), (4, .inr (false, [(0, 7)])), (5, .inr (false, [(4, 4)]))], [], kch857),
  (11, [(0, .inl 24), (1, .inr (false, [(0, 3)])), (2, .inr (false, [(-9, -9), (0, 4)])), (3, .inr (false, [(0, 2147483647)])), (4, .inr (false, [(0, 7)])), (5, .inr (false, [(5, 5)]))], [], kch858),
  (11, [(0, .inl 24), (1, .inr (false, [(0, 3)])), (2, .inr (false, [(-9, -9), (0, 5)])), (3, .inr (false, [(0, 2147483647)])), (4, .inr (false, [(0, 7)])), (5, .inr (false, [(6, 6)]))], [], kch859),
  (11, [(0, .inl 24), (1, .inr (false, [(0, 3)])), (2, .inr (false, [(-9, -9), (0, 6)])), (3, .inr (false, [(0, 2147483647)])), (4, .inr (false, [(0, 7)])), (5, .inr (false, [(7, 7)]))], [], kch860),
  (11, [(0, .inl 24), (1, .inr (false, [(0, 3)])), (2, .inr (false, [(-9, -9), (0, 7)])), (3, .inr (false, [(0, 2147483647)])), (4, .inr (false, [(0, 7)])), (5, .inr (false, [(8, 8)]))], [], kch861)] = true := by decide +kernel
def kch862 : aw_H := [(24, kcx25), (27, .inr (.inl (0, 8, [], []))), (28, .inr (.inl (0, 8, [], []))), (32, kcx36)]
/-- Register.passYear -/
def kch863 : aw_H := [(24, kcx25), (25, .inr (.inl (0, 8, [], []))), (27, .inr (.inl (0, 8, [], []))), (28, .inr (.inl (0, 8, [], []))), (29, .inr (.inl (0, 4, [], []))), (30, .inr (.inl (0, 4, [], []))), (32, kcx36)]
def kcc1018 : ak_C := (46, [.inl 24, .inr (false, ar_t32)], kch863, [24, 27, 28, 32], [([], some (.inr (false, ar_t32)), kch862)])
def kch864 : aw_H := [(24, kcx632), (25, .inr (.inl (0, 8, [], []))), (27, .inr (.inl (0, 8, [], []))), (28, .inr (.inl (0, 8, [], []))), (29, .inr (.inl (0, 4, [], []))), (30, .inr (.inl (0, 4, [], []))), (32, kcx36)]
def kch865 : aw_H := [(24, kcx845), (25, .inr (.inl (0, 8, [], []))), (27, .inr (.inl (0, 8, [], []))), (28, .inr (.inl (0, 8, [], []))), (29, .inr (.inl (0, 4, [], []))), (30, .inr (.inl (0, 4, [], []))), (32, kcx36)]
def kch866 : aw_H := [(24, kcx847), (25, .inr (.inl (0, 8, [], []))), (27, .inr (.inl (0, 8, [], []))), (28, .inr (.inl (0, 8, [], []))), (29, .inr (.inl (0, 4, [], []))), (30, .inr (.inl (0, 4, [], []))), (32, kcx36)]
def kch867 : aw_H := [(24, kcx849), (25, .inr (.inl (0, 8, [], []))), (27, .inr (.inl (0, 8, [], []))), (28, .inr (.inl (0, 8, [], []))), (29, .inr (.inl (0, 4, [], []))), (30, .inr (.inl (0, 4, [], []))), (32, kcx36)]
def kch868 : aw_H := [(24, kcx828), (25, .inr (.inl (0, 8, [], []))), (27, .inr (.inl (0, 8, [], []))), (28, .inr (.inl (0, 8, [], []))), (29, .inr (.inl (0, 4, [], []))), (30, .inr (.inl (0, 4, [], []))), (32, kcx36)]
def kch869 : aw_H := [(24, kcx830), (25, .inr (.inl (0, 8, [], []))), (27, .inr (.inl (0, 8, [], []))), (28, .inr (.inl (0, 8, [], []))), (29, .inr (.inl (0, 4, [], []))), (30, .inr (.inl (0, 4, [], []))), (32, kcx36)]
def kch870 : aw_H := [(24, kcx832), (25, .inr (.inl (0, 8, [], []))), (27, .inr (.inl (0, 8, [], []))), (28, .inr (.inl (0, 8, [], []))), (29, .inr (.inl (0, 4, [], []))), (30, .inr (.inl (0, 4, [], []))), (32, kcx36)]
def kch871 : aw_H := [(24, kcx834), (25, .inr (.inl (0, 8, [], []))), (27, .inr (.inl (0, 8, [], []))), (28, .inr (.inl (0, 8, [], []))), (29, .inr (.inl (0, 4, [], []))), (30, .inr (.inl (0, 4, [], []))), (32, kcx36)]
def kch872 : aw_H := [(24, kcx836), (25, .inr (.inl (0, 8, [], []))), (27, .inr (.inl (0, 8, [], []))), (28, .inr (.inl (0, 8, [], []))), (29, .inr (.inl (0, 4, [], []))), (30, .inr (.inl (0, 4, [], []))), (32, kcx36)]
def kch873 : aw_H := [(24, kcx838), (25, .inr (.inl (0, 8, [], []))), (27, .inr (.inl (0, 8, [], []))), (28, .inr (.inl (0, 8, [], []))), (29, .inr (.inl (0, 4, [], []))), (30, .inr (.inl (0, 4, [], []))), (32, kcx36)]
def kch874 : aw_H := [(24, kcx840), (25, .inr (.inl (0, 8, [], []))), (27, .inr (.inl (0, 8, [], []))), (28, .inr (.inl (0, 8, [], []))), (29, .inr (.inl (0, 4, [], []))), (30, .inr (.inl (0, 4, [], []))), (32, kcx36)]
def kch875 : aw_H := [(24, kcx842), (25, .inr (.inl (0, 8, [], []))), (27, .inr (.inl (0, 8, [], []))), (28, .inr (.inl (0, 8, [], []))), (29, .inr (.inl (0, 4, [], []))), (30, .inr (.inl (0, 4, [], []))), (32, kcx36)]
theorem kck1018 : ai_chk [kcc1017, kcc985] kcc1018 (fun pc => sm_ch sm_t46 pc, sm_Kn 1 6 none, fun x => sm_lk sm_ca1 x, some .int) [24, 27, 28, 32] 6 0 [4, 100] [] 2000 [(4, [(0, .inl 24), (1, .inr (false, ar_t32)), (2, .inr (false, [(0, 0)])), (3, .inr (false, [(0, 0)]))], [], kch863),
  (4, [(0, .inl 24), (1, .inr (false, ar_t32)), (2, .inr (false, ar_t32)), (3, .inr (false, [(1, 1)])), (4, .inr (false, [(-9, -9), (0, 7)]))], [], kch864),
  (4, [(0, .inl 24), (1, .inr (false, ar_t32)), (2, .inr (false, ar_t32)), (3, .inr (false, [(2, 2)])), (4, .inr (false, [(-9, -9), (0, 7)]))], [], kch865),
  (4, [(0, .inl 24), (1, .inr (false, ar_t32)), (2, .inr (false, ar_t32)), (3, .inr (false, [(3, 3)])), (4, .inr (false, [(-9, -9), (0, 7)]))], [], kch866),
  (4, [(0, .inl 24), (1, .inr (false, ar_t32)), (2, .inr (false, ar_t32)), (3, .inr (false, [(4, 4)])), (4, .inr (false, [(-9, -9), (0, 7)]))], [], kch867),
  (100, [(0, .inl 24), (1, .inr (false, ar_t32)), (2, .inr (false, ar_t32)), (3, .inr (false, [(0, 0)]))], [], kch863),
  (100, [(0, .inl 24), (1, .inr (false, ar_t32)), (2, .inr (false, ar_t32)), (3, .inr (false, [(1, 1)]))], [], kch868),
  (100, [(0, .inl 24), (1, .inr (false, ar_t32)), (2, .inr (false, ar_t32)), (3, .inr (false, [(2, 2)]))], [], kch869),
  (100, [(0, .inl 24), (1, .inr (false, ar_t32)), (2, .inr (false, ar_t32)), (3, .inr (false, [(3, 3)]))], [], kch870),
  (100, [(0, .inl 24), (1, .inr (false, ar_t32)), (2, .inr (false, ar_t32)), (3, .inr (false, [(4, 4)]))], [], kch871),
  (100, [(0, .inl 24), (1, .inr (false, ar_t32)), (2, .inr (false, ar_t32)), (3, .inr (false, [(5, 5)]))], [], kch872),
  (100, [(0, .inl 24), (1, .inr (false, ar_t32)), (2, .inr (false, ar_t32)), (3, .inr (false, [(6, 6)]))], [], kch873),
  (100, [(0, .inl 24), (1, .inr (false, ar_t32)), (2, .inr (false, ar_t32)), (3, .inr (false, [(7, 7)]))], [], kch874),
  (100, [(0, .inl 24), (1, .inr (false, ar_t32)), (2, .inr (false, ar_t32)), (3, .inr (false, [(8, 8)]))], [], kch875)] = true := by decide +kernel
/-- Register.passYears -/
def kcc1019 : ak_C := (59, [.inl 24, .inr (false, [(0, 40)])], kch863, [24, 27, 28, 32], [([], none, kch862)])
theorem kck1019 : ai_chk [kcc1018] kcc1019 (fun pc => sm_ch sm_t59 pc, sm_Kn 1 3 none, fun x => sm_lk sm_ca1 x, none) [24, 27, 28, 32] 3 0 [2] [] 2000 [(2, [(0, .inl 24), (1, .inr (false, [(0, 40)])), (2, .inr (false, [(0, 0)]))], [], kch863),
  (2, [(0, .inl 24), (1, .inr (false, [(1, 40)])), (2, .inr (false, [(1, 1)]))], [], kch863),
  (2, [(0, .inl 24), (1, .inr (false, [(2, 40)])), (2, .inr (false, [(2, 2)]))], [], kch863),
  (2, [(0, .inl 24), (1, .inr (false, [(3, 40)])), (2, .inr (false, [(3, 3)]))], [], kch863),
  (2, [(0, .inl 24), (1, .inr (false, [(4, 40)])), (2, .inr (false, [(4, 4)]))], [], kch863),
  (2, [(0, .inl 24), (1, .inr (false, [(5, 40)])), (2, .inr (false, [(5, 5)]))], [], kch863),
  (2, [(0, .inl 24), (1, .inr (false, [(6, 40)])), (2, .inr (false, [(6, 6)]))], [], kch863),
  (2, [(0, .inl 24), (1, .inr (false, [(7, 40)])), (2, .inr (false, [(7, 7)]))], [], kch863),
  (2, [(0, .inl 24), (1, .inr (false, [(8, 40)])), (2, .inr (false, [(8, 8)]))], [], kch863),
  (2, [(0, .inl 24), (1, .inr (false, [(9, 40)])), (2, .inr (false, [(9, 9)]))], [], kch863),
  (2, [(0, .inl 24), (1, .inr (false, [(10, 40)])), (2, .inr (false, [(10, 10)]))], [], kch863),
  (2, [(0, .inl 24), (1, .inr (false, [(11, 40)])), (2, .inr (false, [(11, 11)]))], [], kch863),
  (2, [(0, .inl 24), (1, .inr (false, [(12, 40)])), (2, .inr (false, [(12, 12)]))], [], kch863),
  (2, [(0, .inl 24), (1, .inr (false, [(13, 40)])), (2, .inr (false, [(13, 13)]))], [], kch863),
  (2, [(0, .inl 24), (1, .inr (false, [(14, 40)])), (2, .inr (false, [(14, 14)]))], [], kch863),
  (2, [(0, .inl 24), (1, .inr (false, [(15, 40)])), (2, .inr (false, [(15, 15)]))], [], kch863),
  (2, [(0, .inl 24), (1, .inr (false, [(16, 40)])), (2, .inr (false, [(16, 16)]))], [], kch863),
  (2, [(0, .inl 24), (1, .inr (false, [(17, 40)])), (2, .inr (false, [(17, 17)]))], [], kch863),
  (2, [(0, .inl 24), (1, .inr (false, [(18, 40)])), (2, .inr (false, [(18, 18)]))], [], kch863),
  (2, [(0, .inl 24), (1, .inr (false, [(19, 40)])), (2, .inr (false, [(19, 19)]))], [], kch863),
  (2, [(0, .inl 24), (1, .inr (false, [(20, 40)])), (2, .inr (false, [(20, 20)]))], [], kch863),
  (2, [(0, .inl 24), (1, .inr (false, [(21, 40)])), (2, .inr (false, [(21, 21)]))], [], kch863),
  (2, [(0, .inl 24), (1, .inr (false, [(22, 40)])), (2, .inr (false, [(22, 22)]))], [], kch863),
  (2, [(0, .inl 24), (1, .inr (false, [(23, 40)])), (2, .inr (false, [(23, 23)]))], [], kch863),
  (2, [(0, .inl 24), (1, .inr (false, [(24, 40)])), (2, .inr (false, [(24, 24)]))], [], kch863),
  (2, [(0, .inl 24), (1, .inr (false, [(25, 40)])), (2, .inr (false, [(25, 25)]))], [], kch863),
  (2, [(0, .inl 24), (1, .inr (false, [(26, 40)])), (2, .inr (false, [(26, 26)]))], [], kch863),
  (2, [(0, .inl 24), (1, .inr (false, [(27, 40)])), (2, .inr (false, [(27, 27)]))], [], kch863),
  (2, [(0, .inl 24), (1, .inr (false, [(28, 40)])), (2, .inr (false, [(28, 28)]))], [], kch863),
  (2, [(0, .inl 24), (1, .inr (false, [(29, 40)])), (2, .inr (false, [(29, 29)]))], [], kch863),
  (2, [(0, .inl 24), (1, .inr (false, [(30, 40)])), (2, .inr (false, [(30, 30)]))], [], kch863),
  (2, [(0, .inl 24), (1, .inr (false, [(31, 40)])), (2, .inr (false, [(31, 31)]))], [], kch863),
  (2, [(0, .inl 24), (1, .inr (false, [(32, 40)])), (2, .inr (false, [(32, 32)]))], [], kch863),
  (2, [(0, .inl 24), (1, .inr (false, [(33, 40)])), (2, .inr (false, [(33, 33)]))], [], kch863),
  (2, [(0, .inl 24), (1, .inr (false, [(34, 40)])), (2, .inr (false, [(34, 34)]))], [], kch863),
  (2, [(0, .inl 24), (1, .inr (false, [(35, 40)])), (2, .inr (false, [(35, 35)]))], [], kch863),
  (2, [(0, .inl 24), (1, .inr (false, [(36, 40)])), (2, .inr (false, [(36, 36)]))], [], kch863),
  (2, [(0, .inl 24), (1, .inr (false, [(37, 40)])), (2, .inr (false, [(37, 37)]))], [], kch863),
  (2, [(0, .inl 24), (1, .inr (false, [(38, 40)])), (2, .inr (false, [(38, 38)]))], [], kch863),
  (2, [(0, .inl 24), (1, .inr (false, [(39, 40)])), (2, .inr (false, [(39, 39)]))], [], kch863),
  (2, [(0, .inl 24), (1, .inr (false, [(40, 40)])), (2, .inr (false, [(40, 40)]))], [], kch863)] = true := by decide +kernel
/-- MiceRegisters.goAside -/
def kch876 : aw_H := [(0, kcx2), (15, kcx669), (16, .inr (.inl (0, 8, [], []))), (17, .inr (.inl (0, 8, [], []))), (18, .inr (.inl (0, 8, [], []))), (19, .inr (.inl (0, 8, [], []))), (20, .inr (.inl (0, 4, [], []))), (21, .inr (.inl (0, 4, [], []))), (22, kcx36), (23, kcx36), (24, kcx25), (25, .inr (.inl (0, 8, [], []))), (26, .inr (.inl (0, 8, [], []))), (27, .inr (.inl (0, 8, [], []))), (28, .inr (.inl (0, 8, [], []))), (29, .inr (.inl (0, 4, [], []))), (30, .inr (.inl (0, 4, [], []))), (31, kcx36), (32, kcx36)]
def kcc1020 : ak_C := (58, [.inl 0, .inr (false, [(0, 40)])], kch876, [24, 25, 26, 27, 28, 29, 30, 31, 32], [([], none, kch827)])
theorem kck1020 : ai_chk [kcc1014, kcc1019] kcc1020 (fun pc => sm_ch sm_t58 pc, sm_Kn 2 2 none, fun x => sm_lk sm_ca2 x, none) [24, 25, 26, 27, 28, 29, 30, 31, 32] 2 0 [] [] 2000 [] = true := by decide +kernel
/-- MiceRegisters.left -/
def kcc1021 : ak_C := (57, [.inl 0, .inr (false, ar_t32), .inr (false, ar_t32)], kch876, [24, 25, 26, 27, 28, 29, 30, 31, 32], [([[], [], []], some (.inr (false, [(-1, -1)])), kch827), ([[], [(0, 7)], [(0, 40)]], some (.inr (false, ar_t32)), kch827)])
theorem kck1021 : ai_chk [kcc976, kcc1020] kcc1021 (fun pc => sm_ch sm_t57 pc, sm_Kn 2 3 none, fun x => sm_lk sm_ca2 x, some .int) [24, 25, 26, 27, 28, 29, 30, 31, 32] 3 3 [] [] 2000 [] = true := by decide +kernel
/-- Register.linesEatenUp -/
def kcc1022 : ak_C := (61, [.inl 24], kch851, [], [([], some (.inr (false, [(0, 0)])), []), ([], some (.inr (false, ar_t32)), [])])
def kch877 : aw_H := [(24, kcx828), (27, .inr (.inl (0, 8, [], [(0, ar_t32)])))]
def kch878 : aw_H := [(24, kcx830), (27, kcx733)]
def kch879 : aw_H := [(24, kcx832), (27, kcx735)]
def kch880 : aw_H := [(24, kcx834), (27, kcx737)]
def kch881 : aw_H := [(24, kcx836), (27, kcx739)]
def kch882 : aw_H := [(24, kcx838), (27, kcx741)]
def kch883 : aw_H := [(24, kcx840), (27, kcx743)]
def kch884 : aw_H := [(24, kcx842), (27, kcx745)]
theorem kck1022 : ai_chk [] kcc1022 (fun pc => sm_ch sm_t61 pc, sm_Kn 1 3 none, fun x => sm_lk sm_ca1 x, some .int) [] 3 0 [4] [] 2000 [(4, [(0, .inl 24), (1, .inr (false, [(0, 0)])), (2, .inr (false, [(0, 0)]))], [], kch851),
  (4, [(0, .inl 24), (1, .inr (false, [(0, 1)])), (2, .inr (false, [(1, 1)]))], [], kch877),
  (4, [(0, .inl 24), (1, .inr (false, ar_t32)), (2, .inr (false, [(2, 2)]))], [], kch878),
  (4, [(0, .inl 24), (1, .inr (false, ar_t32)), (2, .inr (false, [(3, 3)]))], [], kch879),
  (4, [(0, .inl 24), (1, .inr (false, ar_t32)), (2, .inr (false, [(4, 4)]))], [], kch880),
  (4, [(0, .inl 24), (1, .inr (false, ar_t32)), (2, .inr (false, [(5, 5)]))], [], kch881),
  (4, [(0, .inl 24), (1, .inr (false, ar_t32)), (2, .inr (false, [(6, 6)]))], [], kch882),
  (4, [(0, .inl 24), (1, .inr (false, ar_t32)), (2, .inr (false, [(7, 7)]))], [], kch883),
  (4, [(0, .inl 24), (1, .inr (false, ar_t32)), (2, .inr (false, [(8, 8)]))], [], kch884)] = true := by decide +kernel
/-- MiceRegisters.eaten -/
def kcc1023 : ak_C := (60, [.inl 0, .inr (false, ar_t32)], kch876, [24, 25, 26, 27, 28, 29, 30, 31, 32], [([[], [(-2147483648, -1), (41, 2147483647)]], some (.inr (false, [(-1, -1)])), kch827), ([[], [(0, 40)]], some (.inr (false, [(-4, -4)])), kch827), ([[], [(0, 40)]], some (.inr (false, ar_t32)), kch827), ([[], [(0, 40)]], some (.inr (false, [(0, 0)])), kch827)])
theorem kck1023 : ai_chk [kcc1020, kcc1022] kcc1023 (fun pc => sm_ch sm_t60 pc, sm_Kn 2 2 none, fun x => sm_lk sm_ca2 x, some .int) [24, 25, 26, 27, 28, 29, 30, 31, 32] 2 2 [] [] 2000 [] = true := by decide +kernel
/-- MiceRegisters.when -/
def czkc1024x0 : aw_A := .inl (2, [.inl 1, .inl 2, .inl 9, .inl 10, .inl 15, .inl 24, .inl 33, .inl 42, .inl 46, .inl 59, .inl 80, .inr (false, ar_t32), .inr (false, ar_t32), .inr (true, ar_t64), .inr (true, ar_t64)])
def czkc1024x1 : aw_A := .inl (1, [.inr (false, [(0, 8)]), .inr (false, [(0, 4)]), .inr (false, ar_t32), .inr (false, ar_t32), .inr (false, ar_t32), .inl 16, .inl 17, .inl 18, .inl 19, .inl 20, .inl 21, .inl 22, .inl 23])
def czkc1024x2 : aw_A := .inr (.inl (0, 4, [(0, 3, [(0, 7)])], []))
def czkc1024x3 : aw_A := .inl (1, [.inr (false, [(0, 8)]), .inr (false, [(0, 4)]), .inr (false, ar_t32), .inr (false, ar_t32), .inr (false, ar_t32), .inl 25, .inl 26, .inl 27, .inl 28, .inl 29, .inl 30, .inl 31, .inl 32])
def czkc1024h4 : aw_H := [(0, czkc1024x0), (15, czkc1024x1), (16, .inr (.inl (0, 8, [], []))), (17, .inr (.inl (0, 8, [], []))), (18, .inr (.inl (0, 8, [], []))), (19, .inr (.inl (0, 8, [], []))), (20, .inr (.inl (0, 4, [], []))), (21, .inr (.inl (0, 4, [], []))), (22, czkc1024x2), (23, czkc1024x2), (24, czkc1024x3), (25, .inr (.inl (0, 8, [], []))), (26, .inr (.inl (0, 8, [], []))), (27, .inr (.inl (0, 8, [], []))), (28, .inr (.inl (0, 8, [], []))), (29, .inr (.inl (0, 4, [], []))), (30, .inr (.inl (0, 4, [], []))), (31, czkc1024x2), (32, czkc1024x2)]
def czkc1024h5 : aw_H := [(24, czkc1024x3), (25, .inr (.inl (0, 8, [], []))), (26, .inr (.inl (0, 8, [], []))), (27, .inr (.inl (0, 8, [], []))), (28, .inr (.inl (0, 8, [], []))), (29, .inr (.inl (0, 4, [], []))), (30, .inr (.inl (0, 4, [], []))), (31, czkc1024x2), (32, czkc1024x2)]
def kcc1024 : ak_C := (62, [.inl 0, .inr (false, ar_t32)], kch876, [24, 25, 26, 27, 28, 29, 30, 31, 32], [([[], []], some (.inr (false, [(-1, -1)])), czkc1024h5), ([[], []], some (.inr (false, [(0, 40)])), czkc1024h5), ([[], []], some (.inr (false, [(-9, -9)])), czkc1024h5)])
set_option maxRecDepth 100000 in
theorem kck1024 : ai_ch2 [kcc976, kcc1014, kcc1018] kcc1024 (fun pc => sm_ch sm_t62 pc, sm_Kn 2 3 none, fun x => sm_lk sm_ca2 x, some .int) [24, 25, 26, 27, 28, 29, 30, 31, 32] 3 2 [23] [] 2000 [.inr (2, false, [((23, [(0, .inl 0), (1, .inr (false, [(0, 7)])), (2, .inr (false, [(0, 40)]))], [], czkc1024h4), none)])] = true := by decide +kernel
/-- MiceRegisters.isSavedBy -/
def kcc1025 : ak_C := (64, [.inl 0, .inr (false, [(0, 7)]), .inr (false, [(0, 20)]), .inr (false, [(0, 7)]), .inr (false, [(0, 20)])], kch876, [24, 25, 26, 27, 28, 29, 30, 31, 32], [([], some (.inr (false, [(1, 1)])), kch827), ([], some (.inr (false, [(0, 0)])), kch827)])
def czkc1025x0 : aw_A := .inl (2, [.inl 1, .inl 2, .inl 9, .inl 10, .inl 15, .inl 24, .inl 33, .inl 42, .inl 46, .inl 59, .inl 80, .inr (false, ar_t32), .inr (false, ar_t32), .inr (true, ar_t64), .inr (true, ar_t64)])
def czkc1025x1 : aw_A := .inl (1, [.inr (false, [(0, 8)]), .inr (false, [(0, 4)]), .inr (false, ar_t32), .inr (false, ar_t32), .inr (false, ar_t32), .inl 16, .inl 17, .inl 18, .inl 19, .inl 20, .inl 21, .inl 22, .inl 23])
def czkc1025x2 : aw_A := .inr (.inl (0, 4, [(0, 3, [(0, 7)])], []))
def czkc1025x3 : aw_A := .inl (1, [.inr (false, [(0, 8)]), .inr (false, [(0, 4)]), .inr (false, ar_t32), .inr (false, ar_t32), .inr (false, ar_t32), .inl 25, .inl 26, .inl 27, .inl 28, .inl 29, .inl 30, .inl 31, .inl 32])
def czkc1025h4 : aw_H := [(0, czkc1025x0), (15, czkc1025x1), (16, .inr (.inl (0, 8, [], []))), (17, .inr (.inl (0, 8, [], []))), (18, .inr (.inl (0, 8, [], []))), (19, .inr (.inl (0, 8, [], []))), (20, .inr (.inl (0, 4, [], []))), (21, .inr (.inl (0, 4, [], []))), (22, czkc1025x2), (23, czkc1025x2), (24, czkc1025x3), (25, .inr (.inl (0, 8, [], []))), (26, .inr (.inl (0, 8, [], []))), (27, .inr (.inl (0, 8, [], []))), (28, .inr (.inl (0, 8, [], []))), (29, .inr (.inl (0, 4, [], []))), (30, .inr (.inl (0, 4, [], []))), (31, czkc1025x2), (32, czkc1025x2)]
set_option maxRecDepth 100000 in
theorem kck1025 : ai_ch2 [kcc1014, kcc1018] kcc1025 (fun pc => sm_ch sm_t64 pc, sm_Kn 2 6 none, fun x => sm_lk sm_ca2 x, some .boolean) [24, 25, 26, 27, 28, 29, 30, 31, 32] 6 0 [28] [] 2000 [.inr (5, false, [((28, [(0, .inl 0), (1, .inr (false, [(0, 7)])), (2, .inr (false, [(0, 20)])), (3, .inr (false, [(0, 7)])), (4, .inr (false, [(0, 20)])), (5, .inr (false, [(0, 20)]))], [], czkc1025h4), none)])] = true := by decide +kernel
def kch885 : aw_H := [(0, kcx2), (24, kcx25), (25, .inr (.inl (0, 8, [], []))), (26, .inr (.inl (0, 8, [], []))), (27, .inr (.inl (0, 8, [], []))), (28, .inr (.inl (0, 8, [], []))), (29, .inr (.inl (0, 4, [], []))), (30, .inr (.inl (0, 4, [], []))), (31, kcx36), (32, kcx36)]
/-- MiceRegisters.save -/
def kcc1026 : ak_C := (63, [.inl 0, .inr (false, ar_t32), .inr (false, ar_t32)], kch876, [0, 24, 25, 26, 27, 28, 29, 30, 31, 32], [([[], [], []], some (.inr (false, [(-1, -1)])), kch885), ([[], [(0, 7)], [(1, 20)]], some (.inr (false, [(0, 0)])), kch885), ([[], [(0, 7)], [(1, 20)]], some (.inr (false, [(1, 20)])), kch885), ([[], [(0, 7)], [(1, 20)]], some (.inr (false, [(-9, -9)])), kch885)])
def kcb1026 : sm_P := (fun pc => sm_ch sm_t63 pc, sm_Kn 2 5 none, fun x => sm_lk sm_ca2 x, some .int)
def czkc1026x0 : aw_A := .inl (2, [.inl 1, .inl 2, .inl 9, .inl 10, .inl 15, .inl 24, .inl 33, .inl 42, .inl 46, .inl 59, .inl 80, .inr (false, ar_t32), .inr (false, ar_t32), .inr (true, ar_t64), .inr (true, ar_t64)])
def czkc1026x1 : aw_A := .inl (1, [.inr (false, [(0, 8)]), .inr (false, [(0, 4)]), .inr (false, ar_t32), .inr (false, ar_t32), .inr (false, ar_t32), .inl 16, .inl 17, .inl 18, .inl 19, .inl 20, .inl 21, .inl 22, .inl 23])
def czkc1026x2 : aw_A := .inr (.inl (0, 4, [(0, 3, [(0, 7)])], []))
def czkc1026x3 : aw_A := .inl (1, [.inr (false, [(0, 8)]), .inr (false, [(0, 4)]), .inr (false, ar_t32), .inr (false, ar_t32), .inr (false, ar_t32), .inl 25, .inl 26, .inl 27, .inl 28, .inl 29, .inl 30, .inl 31, .inl 32])
def czkc1026h4 : aw_H := [(0, czkc1026x0), (15, czkc1026x1), (16, .inr (.inl (0, 8, [], []))), (17, .inr (.inl (0, 8, [], []))), (18, .inr (.inl (0, 8, [], []))), (19, .inr (.inl (0, 8, [], []))), (20, .inr (.inl (0, 4, [], []))), (21, .inr (.inl (0, 4, [], []))), (22, czkc1026x2), (23, czkc1026x2), (24, czkc1026x3), (25, .inr (.inl (0, 8, [], []))), (26, .inr (.inl (0, 8, [], []))), (27, .inr (.inl (0, 8, [], []))), (28, .inr (.inl (0, 8, [], []))), (29, .inr (.inl (0, 4, [], []))), (30, .inr (.inl (0, 4, [], []))), (31, czkc1026x2), (32, czkc1026x2)]
set_option maxRecDepth 100000 in
theorem kck1026 : ai_ch2 [kcc976, kcc1025, kcc14] kcc1026 kcb1026 [0, 24, 25, 26, 27, 28, 29, 30, 31, 32] 5 3 [43, 52] [] 2000 [.inr (3, false, [((43, [(0, .inl 0), (1, .inr (false, [(0, 7)])), (2, .inr (false, [(1, 20)])), (3, .inr (false, [(1, 21)]))], [], czkc1026h4), none), ((52, [(0, .inl 0), (1, .inr (false, [(0, 7)])), (2, .inr (false, [(1, 20)])), (3, .inr (false, [(1, 20)])), (4, .inr (false, [(0, 8)]))], [], czkc1026h4), some 4)])] = true := by decide +kernel

