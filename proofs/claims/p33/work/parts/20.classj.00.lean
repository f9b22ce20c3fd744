def kcx669 : aw_A := .inl (1, [.inr (false, [(0, 8)]), .inr (false, [(0, 4)]), .inr (false, ar_t32), .inr (false, ar_t32), .inr (false, ar_t32), .inl 16, .inl 17, .inl 18, .inl 19, .inl 20, .inl 21, .inl 22, .inl 23])
/-- Register.takeFrom -/
def kch671 : aw_H := [(15, kcx669), (16, .inr (.inl (0, 8, [], []))), (17, .inr (.inl (0, 8, [], []))), (18, .inr (.inl (0, 8, [], []))), (19, .inr (.inl (0, 8, [], []))), (20, .inr (.inl (0, 4, [], []))), (21, .inr (.inl (0, 4, [], []))), (22, kcx36), (23, kcx36), (24, kcx25), (25, .inr (.inl (0, 8, [], []))), (26, .inr (.inl (0, 8, [], []))), (27, .inr (.inl (0, 8, [], []))), (28, .inr (.inl (0, 8, [], []))), (29, .inr (.inl (0, 4, [], []))), (30, .inr (.inl (0, 4, [], []))), (31, kcx36), (32, kcx36)]
def kcx672 : aw_A := .inl (1, [.inr (false, [(1, 8)]), .inr (false, [(0, 4)]), .inr (false, ar_t32), .inr (false, ar_t32), .inr (false, ar_t32), .inl 16, .inl 17, .inl 18, .inl 19, .inl 20, .inl 21, .inl 22, .inl 23])
def kcx674 : aw_A := .inl (1, [.inr (false, [(2, 8)]), .inr (false, [(0, 4)]), .inr (false, ar_t32), .inr (false, ar_t32), .inr (false, ar_t32), .inl 16, .inl 17, .inl 18, .inl 19, .inl 20, .inl 21, .inl 22, .inl 23])
def kcx676 : aw_A := .inl (1, [.inr (false, [(3, 8)]), .inr (false, [(0, 4)]), .inr (false, ar_t32), .inr (false, ar_t32), .inr (false, ar_t32), .inl 16, .inl 17, .inl 18, .inl 19, .inl 20, .inl 21, .inl 22, .inl 23])
def kcx678 : aw_A := .inl (1, [.inr (false, [(4, 8)]), .inr (false, [(0, 4)]), .inr (false, ar_t32), .inr (false, ar_t32), .inr (false, ar_t32), .inl 16, .inl 17, .inl 18, .inl 19, .inl 20, .inl 21, .inl 22, .inl 23])
def kcx680 : aw_A := .inl (1, [.inr (false, [(5, 8)]), .inr (false, [(0, 4)]), .inr (false, ar_t32), .inr (false, ar_t32), .inr (false, ar_t32), .inl 16, .inl 17, .inl 18, .inl 19, .inl 20, .inl 21, .inl 22, .inl 23])
def kcx682 : aw_A := .inl (1, [.inr (false, [(6, 8)]), .inr (false, [(0, 4)]), .inr (false, ar_t32), .inr (false, ar_t32), .inr (false, ar_t32), .inl 16, .inl 17, .inl 18, .inl 19, .inl 20, .inl 21, .inl 22, .inl 23])
def kcx684 : aw_A := .inl (1, [.inr (false, [(7, 8)]), .inr (false, [(0, 4)]), .inr (false, ar_t32), .inr (false, ar_t32), .inr (false, ar_t32), .inl 16, .inl 17, .inl 18, .inl 19, .inl 20, .inl 21, .inl 22, .inl 23])
def kcx686 : aw_A := .inl (1, [.inr (false, [(8, 8)]), .inr (false, [(0, 4)]), .inr (false, ar_t32), .inr (false, ar_t32), .inr (false, ar_t32), .inl 16, .inl 17, .inl 18, .inl 19, .inl 20, .inl 21, .inl 22, .inl 23])
def kcx688 : aw_A := .inl (1, [.inr (false, [(0, 8)]), .inr (false, [(1, 4)]), .inr (false, ar_t32), .inr (false, ar_t32), .inr (false, ar_t32), .inl 16, .inl 17, .inl 18, .inl 19, .inl 20, .inl 21, .inl 22, .inl 23])
def kcx690 : aw_A := .inl (1, [.inr (false, [(0, 8)]), .inr (false, [(2, 4)]), .inr (false, ar_t32), .inr (false, ar_t32), .inr (false, ar_t32), .inl 16, .inl 17, .inl 18, .inl 19, .inl 20, .inl 21, .inl 22, .inl 23])
def kcx692 : aw_A := .inl (1, [.inr (false, [(0, 8)]), .inr (false, [(3, 4)]), .inr (false, ar_t32), .inr (false, ar_t32), .inr (false, ar_t32), .inl 16, .inl 17, .inl 18, .inl 19, .inl 20, .inl 21, .inl 22, .inl 23])
def kcx694 : aw_A := .inl (1, [.inr (false, [(0, 8)]), .inr (false, [(4, 4)]), .inr (false, ar_t32), .inr (false, ar_t32), .inr (false, ar_t32), .inl 16, .inl 17, .inl 18, .inl 19, .inl 20, .inl 21, .inl 22, .inl 23])
def kcx696 : aw_A := .inl (0, [.inr (false, [(0, 40)]), .inl 43, .inl 44, .inl 45])
def kcx697 : aw_A := .inl (0, [.inr (false, [(-1, 40)]), .inl 48, .inl 49, .inl 50])
def kcx698 : aw_A := .inl (0, [.inr (false, [(-1, 40)]), .inl 52, .inl 53, .inl 54])
def kcx699 : aw_A := .inl (0, [.inr (false, [(-1, 40)]), .inl 56, .inl 57, .inl 58])
/-- MiceRegisters.isNoLine -/
def kch712 : aw_H := [(0, kcx2), (15, kcx669)]
def kcc976 : ak_C := (25, [.inl 0, .inr (false, ar_t32)], kch712, [], [([[], []], some (.inr (false, [(1, 1)])), []), ([[], [(0, 7)]], some (.inr (false, [(0, 0)])), [])])
theorem kck976 : ai_chk [] kcc976 (fun pc => sm_ch sm_t25 pc, sm_Kn 2 2 none, fun x => sm_lk sm_ca2 x, some .boolean) [] 2 2 [] [] 2000 [] = true := by decide +kernel
/-- Register.isOpen -/
def kch713 : aw_H := [(15, kcx669), (18, .inr (.inl (0, 8, [], [])))]
def kcc977 : ak_C := (29, [.inl 15, .inr (false, [(0, 7)])], kch713, [], [([], some (.inr (false, [(1, 1)])), []), ([], some (.inr (false, [(0, 0)])), [])])
theorem kck977 : ai_chk [] kcc977 (fun pc => sm_ch sm_t29 pc, sm_Kn 1 2 none, fun x => sm_lk sm_ca1 x, some .boolean) [] 2 0 [] [] 2000 [] = true := by decide +kernel
/-- Register.distance -/
def kch714 : aw_H := [(15, kcx669), (23, kcx36)]
def kcc978 : ak_C := (30, [.inl 15, .inr (false, [(0, 3)]), .inr (false, [(0, 7)])], kch714, [], [([], some (.inr (false, [(0, 7)])), [])])
theorem kck978 : ai_chk [] kcc978 (fun pc => sm_ch sm_t30 pc, sm_Kn 1 3 none, fun x => sm_lk sm_ca1 x, some .int) [] 3 0 [] [] 2000 [] = true := by decide +kernel
/-- MiceRegisters.liking -/
def kcc979 : ak_C := (31, [.inr (false, ar_t32), .inr (false, ar_t32), .inr (false, ar_t32), .inr (false, ar_t32)], [], [], [([], some (.inr (false, ar_t32)), [])])
theorem kck979 : ai_chk [] kcc979 (fun pc => sm_ch sm_t31 pc, sm_Kn 2 4 none, fun x => sm_lk sm_ca2 x, some .int) [] 4 0 [] [] 2000 [] = true := by decide +kernel
/-- Register.lineWantedBy -/
def kch715 : aw_H := [(15, kcx669), (16, .inr (.inl (0, 8, [], []))), (18, .inr (.inl (0, 8, [], []))), (19, .inr (.inl (0, 8, [], []))), (20, .inr (.inl (0, 4, [], []))), (23, kcx36)]
def kcc980 : ak_C := (28, [.inl 15, .inr (false, [(0, 3)])], kch715, [], [([], some (.inr (false, [(-9, -9)])), []), ([], some (.inr (false, [(-9, -9), (0, 7)])), [])])
def kch716 : aw_H := [(15, kcx672), (16, .inr (.inl (0, 8, [], []))), (18, .inr (.inl (0, 8, [], []))), (19, .inr (.inl (0, 8, [], []))), (20, .inr (.inl (0, 4, [], []))), (23, kcx36)]
def kch717 : aw_H := [(15, kcx674), (16, .inr (.inl (0, 8, [], []))), (18, .inr (.inl (0, 8, [], []))), (19, .inr (.inl (0, 8, [], []))), (20, .inr (.inl (0, 4, [], []))), (23, kcx36)]
def kch718 : aw_H := [(15, kcx676), (16, .inr (.inl (0, 8, [], []))), (18, .inr (.inl (0, 8, [], []))), (19, .inr (.inl (0, 8, [], []))), (20, .inr (.inl (0, 4, [], []))), (23, kcx36)]
def kch719 : aw_H := [(15, kcx678), (16, .inr (.inl (0, 8, [], []))), (18, .inr (.inl (0, 8, [], []))), (19, .inr (.inl (0, 8, [], []))), (20, .inr (.inl (0, 4, [], []))), (23, kcx36)]
def kch720 : aw_H := [(15, kcx680), (16, .inr (.inl (0, 8, [], []))), (18, .inr (.inl (0, 8, [], []))), (19, .inr (.inl (0, 8, [], []))), (20, .inr (.inl (0, 4, [], []))), (23, kcx36)]
def kch721 : aw_H := [(15, kcx682), (16, .inr (.inl (0, 8, [], []))), (18, .inr (.inl (0, 8, [], []))), (19, .inr (.inl (0, 8, [], []))), (20, .inr (.inl (0, 4, [], []))), (23, kcx36)]
def kch722 : aw_H := [(15, kcx684), (16, .inr (.inl (0, 8, [], []))), (18, .inr (.inl (0, 8, [], []))), (19, .inr (.inl (0, 8, [], []))), (20, .inr (.inl (0, 4, [], []))), (23, kcx36)]
def kch723 : aw_H := [(15, kcx686), (16, .inr (.inl (0, 8, [], []))), (18, .inr (.inl (0, 8, [], []))), (19, .inr (.inl (0, 8, [], []))), (20, .inr (.inl (0, 4, [], []))), (23, kcx36)]
theorem kck980 : ai_chk [kcc977, kcc978, kcc979] kcc980 (fun pc => sm_ch sm_t28 pc, sm_Kn 1 8 none, fun x => sm_lk sm_ca1 x, some .int) [] 8 0 [11] [] 2000 [(11, [(0, .inl 15), (1, .inr (false, [(0, 3)])), (2, .inr (false, [(-9, -9)])), (3, .inr (false, [(0, 0)])), (4, .inr (false, [(0, 0)])), (5, .inr (false, [(0, 0)]))], [], kch715),
  (11, [(0, .inl 15), (1, .inr (false, [(0, 3)])), (2, .inr (false, [(-9, -9), (0, 0)])), (3, .inr (false, [(0, 2147483647)])), (4, .inr (false, [(0, 7)])), (5, .inr (false, [(1, 1)]))], [], kch716),
  (11, [(0, .inl 15), (1, .inr (false, [(0, 3)])), (2, .inr (false, [(-9, -9), (0, 1)])), (3, .inr (false, [(0, 2147483647)])), (4, .inr (false, [(0, 7)])), (5, .inr (false, [(2, 2)]))], [], kch717),
  (11, [(0, .inl 15), (1, .inr (false, [(0, 3)])), (2, .inr (false, [(-9, -9), (0, 2)])), (3, .inr (false, [(0, 2147483647)])), (4, .inr (false, [(0, 7)])), (5, .inr (false, [(3, 3)]))], [], kch718),
  (11, [(0, .inl 15), (1, .inr (false, [(0, 3)])), (2, .inr (false, [(-9, -9), (0, 3)])), (3, .inr (false, [(0, 2147483647)])), (4, .inr (false, [(0, 7)])), (5, .inr (false, [(4, 4)]))], [], kch719),
  (11, [(0, .inl 15), (1, .inr (false, [(0, 3)])), (2, .inr (false, [(-9, -9), (0, 4)])), (3, .inr (false, [(0, 2147483647)])), (4, .inr (false, [(0, 7)])), (5, .inr (false, [(5, 5)]))], [], kch720),
  (11, [(0, .inl 15), (1, .inr (false, [(0, 3)])), (2, .inr (false, [(-9, -9), (0, 5)])), (3, .inr (false, [(0, 2147483647)])), (4, .inr (false, [(0, 7)])), (5, .inr (false, [(6, 6)]))], [], kch721),
  (11, [(0, .inl 15), (1, .inr (false, [(0, 3)])), (2, .inr (false, [(-9, -9), (0, 6)])), (3, .inr (false, [(0, 2147483647)])), (4, .inr (false, [(0, 7)])), (5, .inr (false, [(7, 7)]))], [], kch722),
  (11, [(0, .inl 15), (1, .inr (false, [(0, 3)])), (2, .inr (false, [(-9, -9), (0, 7)])), (3, .inr (false, [(0, 2147483647)])), (4, .inr (false, [(0, 7)])), (5, .inr (false, [(8, 8)]))], [], kch723)] = true := by decide +kernel
/-- Register.miceThatWant -/
def kcc981 : ak_C := (27, [.inl 15, .inr (false, ar_t32)], kch715, [], [([], some (.inr (false, [(0, 0)])), []), ([], some (.inr (false, ar_t32)), [])])
def kch724 : aw_H := [(15, kcx688), (16, .inr (.inl (0, 8, [], []))), (18, .inr (.inl (0, 8, [], []))), (19, .inr (.inl (0, 8, [], []))), (20, .inr (.inl (0, 4, [], []))), (23, kcx36)]
def kch725 : aw_H := [(15, kcx690), (16, .inr (.inl (0, 8, [], []))), (18, .inr (.inl (0, 8, [], []))), (19, .inr (.inl (0, 8, [], []))), (20, .inr (.inl (0, 4, [], []))), (23, kcx36)]
def kch726 : aw_H := [(15, kcx692), (16, .inr (.inl (0, 8, [], []))), (18, .inr (.inl (0, 8, [], []))), (19, .inr (.inl (0, 8, [], []))), (20, .inr (.inl (0, 4, [], []))), (23, kcx36)]
def kch727 : aw_H := [(15, kcx694), (16, .inr (.inl (0, 8, [], []))), (18, .inr (.inl (0, 8, [], []))), (19, .inr (.inl (0, 8, [], []))), (20, .inr (.inl (0, 4, [], []))), (23, kcx36)]
theorem kck981 : ai_chk [kcc980] kcc981 (fun pc => sm_ch sm_t27 pc, sm_Kn 1 4 none, fun x => sm_lk sm_ca1 x, some .int) [] 4 0 [4] [] 2000 [(4, [(0, .inl 15), (1, .inr (false, ar_t32)), (2, .inr (false, [(0, 0)])), (3, .inr (false, [(0, 0)]))], [], kch715),
  (4, [(0, .inl 15), (1, .inr (false, ar_t32)), (2, .inr (false, [(0, 1)])), (3, .inr (false, [(1, 1)]))], [], kch724),
  (4, [(0, .inl 15), (1, .inr (false, ar_t32)), (2, .inr (false, ar_t32)), (3, .inr (false, [(2, 2)]))], [], kch725),
  (4, [(0, .inl 15), (1, .inr (false, ar_t32)), (2, .inr (false, ar_t32)), (3, .inr (false, [(3, 3)]))], [], kch726),
  (4, [(0, .inl 15), (1, .inr (false, ar_t32)), (2, .inr (false, ar_t32)), (3, .inr (false, [(4, 4)]))], [], kch727)] = true := by decide +kernel
/-- MiceRegisters.ofLine -/
def kch728 : aw_H := [(0, kcx2), (15, kcx669), (16, .inr (.inl (0, 8, [], []))), (17, .inr (.inl (0, 8, [], []))), (18, .inr (.inl (0, 8, [], []))), (19, .inr (.inl (0, 8, [], []))), (20, .inr (.inl (0, 4, [], []))), (23, kcx36)]
def kcc982 : ak_C := (26, [.inl 0, .inr (false, [(0, 7)]), .inr (false, ar_t32)], kch728, [], [([[], [], []], some (.inr (false, ar_t32)), []), ([[], [], [(-2147483648, -1), (5, 2147483647)]], some (.inr (false, [(0, 0)])), [])])
theorem kck982 : ai_chk [kcc981] kcc982 (fun pc => sm_ch sm_t26 pc, sm_Kn 2 3 none, fun x => sm_lk sm_ca2 x, some .int) [] 3 3 [] [] 2000 [] = true := by decide +kernel
/-- MiceRegisters.line -/
def kcc983 : ak_C := (24, [.inl 0, .inr (false, ar_t32), .inr (false, ar_t32)], kch728, [0], [([[], [], []], some (.inr (false, [(-1, -1)])), kch10), ([[], [(0, 7)], [(0, 5)]], some (.inr (false, [(1, 1)])), kch10)])
theorem kck983 : ai_chk [kcc976, kcc982, kcc14] kcc983 (fun pc => sm_ch sm_t24 pc, sm_Kn 2 3 none, fun x => sm_lk sm_ca2 x, some .int) [0] 3 3 [] [] 2000 [] = true := by decide +kernel
/-- MiceRegisters.isNoMouse -/
def kcc984 : ak_C := (33, [.inl 0, .inr (false, ar_t32)], kch712, [], [([[], []], some (.inr (false, [(1, 1)])), []), ([[], [(0, 3)]], some (.inr (false, [(0, 0)])), [])])
theorem kck984 : ai_chk [] kcc984 (fun pc => sm_ch sm_t33 pc, sm_Kn 2 2 none, fun x => sm_lk sm_ca2 x, some .boolean) [] 2 2 [] [] 2000 [] = true := by decide +kernel
/-- MiceRegisters.eatenInAYear -/
def kcc985 : ak_C := (35, [.inr (false, ar_t32), .inr (false, ar_t32)], [], [], [([], some (.inr (false, ar_t32)), [])])
theorem kck985 : ai_chk [] kcc985 (fun pc => sm_ch sm_t35 pc, sm_Kn 2 2 none, fun x => sm_lk sm_ca2 x, some .int) [] 2 0 [] [] 2000 [] = true := by decide +kernel
/-- MiceRegisters.ofMouse -/
def kch729 : aw_H := [(0, kcx2), (15, kcx669), (16, .inr (.inl (0, 8, [], []))), (18, .inr (.inl (0, 8, [], []))), (19, .inr (.inl (0, 8, [], []))), (20, .inr (.inl (0, 4, [], []))), (21, .inr (.inl (0, 4, [], []))), (23, kcx36)]
def kcc986 : ak_C := (34, [.inl 0, .inr (false, [(0, 3)]), .inr (false, ar_t32)], kch729, [], [([[], [], []], some (.inr (false, ar_t32)), []), ([[], [], [(-2147483648, -1), (4, 2147483647)]], some (.inr (false, [(-9, -9)])), [])])
theorem kck986 : ai_chk [kcc985, kcc980] kcc986 (fun pc => sm_ch sm_t34 pc, sm_Kn 2 3 none, fun x => sm_lk sm_ca2 x, some .int) [] 3 3 [] [] 2000 [] = true := by decide +kernel
/-- MiceRegisters.mouse -/
def kcc987 : ak_C := (32, [.inl 0, .inr (false, ar_t32), .inr (false, ar_t32)], kch729, [0], [([[], [], []], some (.inr (false, [(-1, -1)])), kch10), ([[], [(0, 3)], [(0, 4)]], some (.inr (false, [(1, 1)])), kch10)])
theorem kck987 : ai_chk [kcc984, kcc986, kcc14] kcc987 (fun pc => sm_ch sm_t32 pc, sm_Kn 2 3 none, fun x => sm_lk sm_ca2 x, some .int) [0] 3 3 [] [] 2000 [] = true := by decide +kernel
/-- MiceRegisters.isOfKind -/
def kcc988 : ak_C := (37, [.inr (false, ar_t32), .inr (false, ar_t32)], [], [], [([], some (.inr (false, [(0, 0)])), []), ([], some (.inr (false, [(1, 1)])), [])])
theorem kck988 : ai_chk [] kcc988 (fun pc => sm_ch sm_t37 pc, sm_Kn 2 2 none, fun x => sm_lk sm_ca2 x, some .boolean) [] 2 0 [] [] 2000 [] = true := by decide +kernel
/-- Register.yearsToEatUpAlone -/
def kch730 : aw_H := [(15, kcx669), (18, .inr (.inl (0, 8, [], []))), (20, .inr (.inl (0, 4, [], []))), (21, .inr (.inl (0, 4, [], []))), (23, kcx36)]
def kcc989 : ak_C := (40, [.inl 15, .inr (false, [(0, 3)])], kch730, [], [([], some (.inr (false, ar_t32)), []), ([], some (.inr (false, [(0, 0)])), [])])
theorem kck989 : ai_chk [kcc985] kcc989 (fun pc => sm_ch sm_t40 pc, sm_Kn 1 3 none, fun x => sm_lk sm_ca1 x, some .int) [] 3 0 [] [] 2000 [] = true := by decide +kernel
/-- Register.linesLittleWrong -/
def kch731 : aw_H := [(15, kcx669), (16, .inr (.inl (0, 8, [], [])))]
def kcc990 : ak_C := (39, [.inl 15], kch731, [], [([], some (.inr (false, [(0, 0)])), []), ([], some (.inr (false, [(0, 8)])), [])])
def kch732 : aw_H := [(15, kcx672), (16, .inr (.inl (0, 8, [], [(0, ar_t32)])))]
def kcx733 : aw_A := .inr (.inl (0, 8, [], [(0, ar_t32), (1, ar_t32)]))
def kch734 : aw_H := [(15, kcx674), (16, kcx733)]
def kcx735 : aw_A := .inr (.inl (0, 8, [], [(0, ar_t32), (1, ar_t32), (2, ar_t32)]))
def kch736 : aw_H := [(15, kcx676), (16, kcx735)]
def kcx737 : aw_A := .inr (.inl (0, 8, [], [(0, ar_t32), (1, ar_t32), (2, ar_t32), (3, ar_t32)]))
def kch738 : aw_H := [(15, kcx678), (16, kcx737)]
def kcx739 : aw_A := .inr (.inl (0, 8, [], [(0, ar_t32), (1, ar_t32), (2, ar_t32), (3, ar_t32), (4, ar_t32)]))
def kch740 : aw_H := [(15, kcx680), (16, kcx739)]
def kcx741 : aw_A := .inr (.inl (0, 8, [], [(0, ar_t32), (1, ar_t32), (2, ar_t32), (3, ar_t32), (4, ar_t32), (5, ar_t32)]))
def kch742 : aw_H := [(15, kcx682), (16, kcx741)]
def kcx743 : aw_A := .inr (.inl (0, 8, [], [(0, ar_t32), (1, ar_t32), (2, ar_t32), (3, ar_t32), (4, ar_t32), (5, ar_t32), (6, ar_t32)]))
def kch744 : aw_H := [(15, kcx684), (16, kcx743)]
def kcx745 : aw_A := .inr (.inl (0, 8, [], [(0, ar_t32), (1, ar_t32), (2, ar_t32), (3, ar_t32), (4, ar_t32), (5, ar_t32), (6, ar_t32), (7, ar_t32)]))
def kch746 : aw_H := [(15, kcx686), (16, kcx745)]
theorem kck990 : ai_chk [] kcc990 (fun pc => sm_ch sm_t39 pc, sm_Kn 1 3 none, fun x => sm_lk sm_ca1 x, some .int) [] 3 0 [4] [] 2000 [(4, [(0, .inl 15), (1, .inr (false, [(0, 0)])), (2, .inr (false, [(0, 0)]))], [], kch731),
  (4, [(0, .inl 15), (1, .inr (false, [(0, 1)])), (2, .inr (false, [(1, 1)]))], [], kch732),
  (4, [(0, .inl 15), (1, .inr (false, [(0, 2)])), (2, .inr (false, [(2, 2)]))], [], kch734),
  (4, [(0, .inl 15), (1, .inr (false, [(0, 3)])), (2, .inr (false, [(3, 3)]))], [], kch736),
  (4, [(0, .inl 15), (1, .inr (false, [(0, 4)])), (2, .inr (false, [(4, 4)]))], [], kch738),
  (4, [(0, .inl 15), (1, .inr (false, [(0, 5)])), (2, .inr (false, [(5, 5)]))], [], kch740),
  (4, [(0, .inl 15), (1, .inr (false, [(0, 6)])), (2, .inr (false, [(6, 6)]))], [], kch742),
  (4, [(0, .inl 15), (1, .inr (false, [(0, 7)])), (2, .inr (false, [(7, 7)]))], [], kch744),
  (4, [(0, .inl 15), (1, .inr (false, [(0, 8)])), (2, .inr (false, [(8, 8)]))], [], kch746)] = true := by decide +kernel
/-- Register.linesLikedBy -/
def kch747 : aw_H := [(15, kcx669), (16, .inr (.inl (0, 8, [], []))), (19, .inr (.inl (0, 8, [], []))), (20, .inr (.inl (0, 4, [], []))), (23, kcx36)]
def kcc991 : ak_C := (38, [.inl 15, .inr (false, [(0, 3)])], kch747, [], [([], some (.inr (false, [(0, 0)])), []), ([], some (.inr (false, [(0, 8)])), [])])
def kch748 : aw_H := [(15, kcx672), (16, .inr (.inl (0, 8, [], []))), (19, .inr (.inl (0, 8, [], []))), (20, .inr (.inl (0, 4, [], []))), (23, kcx36)]
def kch749 : aw_H := [(15, kcx674), (16, .inr (.inl (0, 8, [], []))), (19, .inr (.inl (0, 8, [], []))), (20, .inr (.inl (0, 4, [], []))), (23, kcx36)]
def kch750 : aw_H := [(15, kcx676), (16, .inr (.inl (0, 8, [], []))), (19, .inr (.inl (0, 8, [], []))), (20, .inr (.inl (0, 4, [], []))), (23, kcx36)]
def kch751 : aw_H := [(15, kcx678), (16, .inr (.inl (0, 8, [], []))), (19, .inr (.inl (0, 8, [], []))), (20, .inr (.inl (0, 4, [], []))), (23, kcx36)]
def kch752 : aw_H := [(15, kcx680), (16, .inr (.inl (0, 8, [], []))), (19, .inr (.inl (0, 8, [], []))), (20, .inr (.inl (0, 4, [], []))), (23, kcx36)]
def kch753 : aw_H := [(15, kcx682), (16, .inr (.inl (0, 8, [], []))), (19, .inr (.inl (0, 8, [], []))), (20, .inr (.inl (0, 4, [], []))), (23, kcx36)]
def kch754 : aw_H := [(15, kcx684), (16, .inr (.inl (0, 8, [], []))), (19, .inr (.inl (0, 8, [], []))), (20, .inr (.inl (0, 4, [], []))), (23, kcx36)]
def kch755 : aw_H := [(15, kcx686), (16, .inr (.inl (0, 8, [], []))), (19, .inr (.inl (0, 8, [], []))), (20, .inr (.inl (0, 4, [], []))), (23, kcx36)]
theorem kck991 : ai_chk [kcc978, kcc979] kcc991 (fun pc => sm_ch sm_t38 pc, sm_Kn 1 4 none, fun x => sm_lk sm_ca1 x, some .int) [] 4 0 [4] [] 2000 [(4, [(0, .inl 15), (1, .inr (false, [(0, 3)])), (2, .inr (false, [(0, 0)])), (3, .inr (false, [(0, 0)]))], [], kch747),
  (4, [(0, .inl 15), (1, .inr (false, [(0, 3)])), (2, .inr (false, [(0, 1)])), (3, .inr (false, [(1, 1)]))], [], kch748),
  (4, [(0, .inl 15), (1, .inr (false, [(0, 3)])), (2, .inr (false, [(0, 2)])), (3, .inr (false, [(2, 2)]))], [], kch749),
  (4, [(0, .inl 15), (1, .inr (false, [(0, 3)])), (2, .inr (false, [(0, 3)])), (3, .inr (false, [(3, 3)]))], [], kch750),
  (4, [(0, .inl 15), (1, .inr (false, [(0, 3)])), (2, .inr (false, [(0, 4)])), (3, .inr (false, [(4, 4)]))], [], kch751),
  (4, [(0, .inl 15), (1, .inr (false, [(0, 3)])), (2, .inr (false, [(0, 5)])), (3, .inr (false, [(5, 5)]))], [], kch752),
  (4, [(0, .inl 15), (1, .inr (false, [(0, 3)])), (2, .inr (false, [(0, 6)])), (3, .inr (false, [(6, 6)]))], [], kch753),
  (4, [(0, .inl 15), (1, .inr (false, [(0, 3)])), (2, .inr (false, [(0, 7)])), (3, .inr (false, [(7, 7)]))], [], kch754),
  (4, [(0, .inl 15), (1, .inr (false, [(0, 3)])), (2, .inr (false, [(0, 8)])), (3, .inr (false, [(8, 8)]))], [], kch755)] = true := by decide +kernel
/-- Register.allCheese -/
def kch756 : aw_H := [(15, kcx669), (19, .inr (.inl (0, 8, [], [])))]
def kcc992 : ak_C := (41, [.inl 15], kch756, [], [([], some (.inr (false, [(0, 0)])), []), ([], some (.inr (false, ar_t32)), [])])
def kch757 : aw_H := [(15, kcx672), (19, .inr (.inl (0, 8, [], [])))]
def kch758 : aw_H := [(15, kcx674), (19, .inr (.inl (0, 8, [], [])))]
def kch759 : aw_H := [(15, kcx676), (19, .inr (.inl (0, 8, [], [])))]
def kch760 : aw_H := [(15, kcx678), (19, .inr (.inl (0, 8, [], [])))]
def kch761 : aw_H := [(15, kcx680), (19, .inr (.inl (0, 8, [], [])))]
def kch762 : aw_H := [(15, kcx682), (19, .inr (.inl (0, 8, [], [])))]
def kch763 : aw_H := [(15, kcx684), (19, .inr (.inl (0, 8, [], [])))]
def kch764 : aw_H := [(15, kcx686), (19, .inr (.inl (0, 8, [], [])))]
theorem kck992 : ai_chk [] kcc992 (fun pc => sm_ch sm_t41 pc, sm_Kn 1 3 none, fun x => sm_lk sm_ca1 x, some .int) [] 3 0 [4] [] 2000 [(4, [(0, .inl 15), (1, .inr (false, [(0, 0)])), (2, .inr (false, [(0, 0)]))], [], kch756),
  (4, [(0, .inl 15), (1, .inr (false, ar_t32)), (2, .inr (false, [(1, 1)]))], [], kch757),
  (4, [(0, .inl 15), (1, .inr (false, ar_t32)), (2, .inr (false, [(2, 2)]))], [], kch758),
  (4, [(0, .inl 15), (1, .inr (false, ar_t32)), (2, .inr (false, [(3, 3)]))], [], kch759),
  (4, [(0, .inl 15), (1, .inr (false, ar_t32)), (2, .inr (false, [(4, 4)]))], [], kch760),
  (4, [(0, .inl 15), (1, .inr (false, ar_t32)), (2, .inr (false, [(5, 5)]))], [], kch761),
  (4, [(0, .inl 15), (1, .inr (false, ar_t32)), (2, .inr (false, [(6, 6)]))], [], kch762),
  (4, [(0, .inl 15), (1, .inr (false, ar_t32)), (2, .inr (false, [(7, 7)]))], [], kch763),
  (4, [(0, .inl 15), (1, .inr (false, ar_t32)), (2, .inr (false, [(8, 8)]))], [], kch764)] = true := by decide +kernel
/-- MiceRegisters.mark -/
def kch765 : aw_H := [(0, kcx2), (15, kcx669), (16, .inr (.inl (0, 8, [], []))), (18, .inr (.inl (0, 8, [], []))), (19, .inr (.inl (0, 8, [], []))), (20, .inr (.inl (0, 4, [], []))), (21, .inr (.inl (0, 4, [], []))), (23, kcx36), (80, .inr (.inl (0, 6, [], [])))]
def kcc993 : ak_C := (36, [.inl 0, .inr (false, ar_t32), .inr (false, ar_t32)], kch765, [0, 80], [([[], [], []], some (.inr (false, [(-1, -1)])), kch3), ([[], [(0, 3)], [(1, 5)]], some (.inr (false, ar_t32)), kch3), ([[], [(0, 3)], [(1, 3), (5, 5)]], some (.inr (false, [(0, 0)])), kch3), ([[], [(0, 3)], [(1, 5)]], some (.inr (false, [(-3, -3)])), kch1)])
theorem kck993 : ai_chk [kcc984, kcc988, kcc985, kcc989, kcc990, kcc991, kcc992, kcc11] kcc993 (fun pc => sm_ch sm_t36 pc, sm_Kn 2 3 none, fun x => sm_lk sm_ca2 x, some .int) [0, 80] 3 3 [] [] 2000 [] = true := by decide +kernel
def kch766 : aw_H := [(42, kcx696), (43, .inr (.inr (.inr ()))), (44, .inr (.inr (.inr ()))), (45, .inr (.inr (.inr ())))]
/-- Deeds.add -/
def kch767 : aw_H := [(42, kcx696)]
def kcc0 : ak_C := (44, [.inl 42, .inr (false, [(0, 0), (2, 3)]), .inr (false, ar_t32), .inr (false, ar_t32)], kch767, [42, 43, 44, 45], [([], none, kch766)])
def kch768 : aw_H := [(15, kcx669), (18, .inr (.inl (0, 8, [], []))), (19, .inr (.inl (0, 8, [], []))), (23, kcx36)]
/-- Register.passYear -/
def kch769 : aw_H := [(15, kcx669), (16, .inr (.inl (0, 8, [], []))), (18, .inr (.inl (0, 8, [], []))), (19, .inr (.inl (0, 8, [], []))), (20, .inr (.inl (0, 4, [], []))), (21, .inr (.inl (0, 4, [], []))), (23, kcx36)]
def kcc994 : ak_C := (46, [.inl 15, .inr (false, ar_t32)], kch769, [15, 18, 19, 23], [([], some (.inr (false, ar_t32)), kch768)])
def kch770 : aw_H := [(15, kcx688), (16, .inr (.inl (0, 8, [], []))), (18, .inr (.inl (0, 8, [], []))), (19, .inr (.inl (0, 8, [], []))), (20, .inr (.inl (0, 4, [], []))), (21, .inr (.inl (0, 4, [], []))), (23, kcx36)]
def kch771 : aw_H := [(15, kcx690), (16, .inr (.inl (0, 8, [], []))), (18, .inr (.inl (0, 8, [], []))), (19, .inr (.inl (0, 8, [], []))), (20, .inr (.inl (0, 4, [], []))), (21, .inr (.inl (0, 4, [], []))), (23, kcx36)]
def kch772 : aw_H := [(15, kcx692), (16, .inr (.inl (0, 8, [], []))), (18, .inr (.inl (0, 8, [], []))), (19, .inr (.inl (0, 8, [], []))), (20, .inr (.inl (0, 4, [], []))), (21, .inr (.inl (0, 4, [], []))), (23, kcx36)]
def kch773 : aw_H := [(15, kcx694), (16, .inr (.inl (0, 8, [], []))), (18, .inr (.inl (0, 8, [], []))), (19, .inr (.inl (0, 8, [], []))), (20, .inr (.inl (0, 4, [], []))), (21, .inr (.inl (0, 4, [], []))), (23, kcx36)]
def kch774 : aw_H := [(15, kcx672), (16, .inr (.inl (0, 8, [], []))), (18, .inr (.inl (0, 8, [], []))), (19, .inr (.inl (0, 8, [], []))), (20, .inr (.inl (0, 4, [], []))), (21, .inr (.inl (0, 4, [], []))), (23, kcx36)]
def kch775 : aw_H := [(15, kcx674), (16, .inr (.inl (0, 8, [], []))), (18, .inr (.inl (0, 8, [], []))), (19, .inr (.inl (0, 8, [], []))), (20, .inr (.inl (0, 4, [], []))), (21, .inr (.inl (0, 4, [], []))), (23, kcx36)]
def kch776 : aw_H := [(15, kcx676), (16, .inr (.inl (0, 8, [], []))), (18, .inr (.inl (0, 8, [], []))), (19, .inr (.inl (0, 8, [], []))), (20, .inr (.inl (0, 4, [], []))), (21, .inr (.inl (0, 4, [], []))), (23, kcx36)]
def kch777 : aw_H := [(15, kcx678), (16, .inr (.inl (0, 8, [], []))), (18, .inr (.inl (0, 8, [], []))), (19, .inr (.inl (0, 8, [], []))), (20, .inr (.inl (0, 4, [], []))), (21, .inr (.inl (0, 4, [], []))), (23, kcx36)]
def kch778 : aw_H := [(15, kcx680), (16, .inr (.inl (0, 8, [], []))), (18, .inr (.inl (0, 8, [], []))), (19, .inr (.inl (0, 8, [], []))), (20, .inr (.inl (0, 4, [], []))), (21, .inr (.inl (0, 4, [], []))), (23, kcx36)]
def kch779 : aw_H := [(15, kcx682), (16, .inr (.inl (0, 8, [], []))), (18, .inr (.inl (0, 8, [], []))), (19, .inr (.inl (0, 8, [], []))), (20, .inr (.inl (0, 4, [], []))), (21, .inr (.inl (0, 4, [], []))), (23, kcx36)]
def kch780 : aw_H := [(15, kcx684), (16, .inr (.inl (0, 8, [], []))), (18, .inr (.inl (0, 8, [], []))), (19, .inr (.inl (0, 8, [], []))), (20, .inr (.inl (0, 4, [], []))), (21, .inr (.inl (0, 4, [], []))), (23, kcx36)]
def kch781 : aw_H := [(15, kcx686), (16, .inr (.inl (0, 8, [], []))), (18, .inr (.inl (0, 8, [], []))), (19, .inr (.inl (0, 8, [], []))), (20, .inr (.inl (0, 4, [], []))), (21, .inr (.inl (0, 4, [], []))), (23, kcx36)]
