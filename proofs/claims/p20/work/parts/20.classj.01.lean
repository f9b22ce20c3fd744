def kch727 : aw_H := [(15, kcx694), (16, .inr (.inl (0, 8, [], []))), (18, .inr (.inl (0, 8, [], []))), (19, .inr (.inl (0, 8, [], []))), (20, .inr (.inl (0, 4, [], []))), (23, kcx36)]
theorem kck981 : ai_chk [kcc980] kcc981 (fun pc => sm_ch sm_t27 pc, sm_Kn 1 4 none, fun x => sm_lk sm_ca1 x, some .int) [] 4 0 [4] [] 2000 [(4, [(0, .inl 15), (1, .inr (false, ar_t32)), (2, .inr (false, [(0, 0)])), (3, .inr (false, [(0, 0)]))], [], kch715),
  (4, [(0, .inl 15), (1, .inr (false, ar_t32)), (2, .inr (false, [(0, 1)])), (3, .inr (false, [(1, 1)]))], [], kch724),
  (4, [(0, .inl 15), (1, .inr (false, ar_t32)), (2, .inr (false, ar_t32)), (3, .inr (false, [(2, 2)]))], [], kch725),
  (4, [(0, .inl 15), (1, .inr (false, ar_t32)), (2, .inr (false, ar_t32)), (3, .inr (false, [(3, 3)]))], [], kch726),
  (4, [(0, .inl 15), (1, .inr (false, ar_t32)), (2, .inr (false, ar_t32)), (3, .inr (false, [(4, 4)]))], [], kch727)] = true := by decide +kernel
/-- MiceRegisters.ofLine -/
def kch728 : aw_H := [(0, kcx2), (15, kcx669), (16, .inr (.inl (0, 8, [], []))), (17, .inr (.inl (0, 8, [], []))), (18, .inr (.inl (0, 8, [], []))), (19, .inr (.inl (0, 8, [], []))), (20, .inr (.inl (0, 4, [], []))), (23, kcx36)]
def kcc982 : ak_C := (26, [.inl 0, .inr (false, [(0, 7)]), .inr (false, ar_t32)], kch728, [], [([[], [], []], some (.inr (false, ar_t32)), []), ([[], [], [(-2147483648, -1), (5, 2147483647)]], some (.inr (false, [(0, 0)])), [])])
theorem kck982 : ai_chk [kcc981] kcc982 (fun pc => sm_ch sm_t26 pc, sm_Kn 2 3 none, fun x => sm_lk sm_ca2 x, some .int) [] 3 3 [] [] 2000 [] = true := by decide +kernel
/-- MiceRegisters.line -/
def kcc983 : ak_C := (24, [.inl 0, .inr (false, ar_t32), .inr (false, ar_t32)], kch728, [0], [([[], [], []], some (.inr (false, [(-1, -1)])), kch10), ([[], [(0, 7)], [(0, 5)]], some (.inr (false, [(1, 1)])), kch10)])
theorem kck983 : ai_chk [kcc976, kcc982, kcc14] kcc983 (fun pc => sm_ch sm_t24 pc, sm_Kn 2 3 none, fun x => sm_lk sm_ca2 x, some .int) [0] 3 3 [] [] 2000 [] = true := by decide +kernel
/-- MiceRegisters.isNoMouse -/
def kcc984 : ak_C := (33, [.inl 0, .inr (false, ar_t32)], kch712, [], [([[], []], some (.inr (false, [(1, 1)])), []), ([[], [(0, 3)]], some (.inr (false, [(0, 0)])), [])])
theorem kck984 : ai_chk [] kcc984 (fun pc => sm_ch sm_t33 pc, sm_Kn 2 2 none, fun x => sm_lk sm_ca2 x, some .boolean) [] 2 2 [] [] 2000 [] = true := by decide +kernel
/-- MiceRegisters.eatenInAYear -/
def kcc985 : ak_C := (35, [.inr (false, ar_t32), .inr (false, ar_t32)], [], [], [([], some (.inr (false, ar_t32)), [])])
theorem kck985 : ai_chk [] kcc985 (fun pc => sm_ch sm_t35 pc, sm_Kn 2 2 none, fun x => sm_lk sm_ca2 x, some .int) [] 2 0 [] [] 2000 [] = true := by decide +kernel
/-- MiceRegisters.ofMouse -/
def kch729 : aw_H := [(0, kcx2), (15, kcx669), (16, .inr (.inl (0, 8, [], []))), (18, .inr (.inl (0, 8, [], []))), (19, .inr (.inl (0, 8, [], []))), (20, .inr (.inl (0, 4, [], []))), (21, .inr (.inl (0, 4, [], []))), (23, kcx36)]
def kcc986 : ak_C := (34, [.inl 0, .inr (false, [(0, 3)]), .inr (false, ar_t32)], kch729, [], [([[], [], []], some (.inr (false, ar_t32)), []), ([[], [], [(-2147483648, -1), (4, 2147483647)]], some (.inr (false, [(-9, -9)])), [])])
theorem kck986 : ai_chk [kcc985, kcc980] kcc986 (fun pc => sm_ch sm_t34 pc, sm_Kn 2 3 none, fun x => sm_lk sm_ca2 x, some .int) [] 3 3 [] [] 2000 [] = true := by decide +kernel
/-- MiceRegisters.mouse -/
def kcc987 : ak_C := (32, [.inl 0, .inr (false, ar_t32), .inr (false, ar_t32)], kch729, [0], [([[], [], []], some (.inr (false, [(-1, -1)])), kch10), ([[], [(0, 3)], [(0, 4)]], some (.inr (false, [(1, 1)])), kch10)])
theorem kck987 : ai_chk [kcc984, kcc986, kcc14] kcc987 (fun pc => sm_ch sm_t32 pc, sm_Kn 2 3 none, fun x => sm_lk sm_ca2 x, some .int) [0] 3 3 [] [] 2000 [] = true := by decide +kernel
/-- MiceRegisters.isOfKind -/
def kcc988 : ak_C := (37, [.inr (false, ar_t32), .inr (false, ar_t32)], [], [], [([], some (.inr (false, [(0, 0)])), []), ([], some (.inr (false, [(1, 1)])), [])])
theorem kck988 : ai_chk [] kcc988 (fun pc => sm_ch sm_t37 pc, sm_Kn 2 2 none, fun x => sm_lk sm_ca2 x, some .boolean) [] 2 0 [] [] 2000 [] = true := by decide +kernel
/-- Register.yearsToEatUpAlone -/
def kch730 : aw_H := [(15, kcx669), (18, .inr (.inl (0, 8, [], []))), (20, .inr (.inl (0, 4, [], []))), (21, .inr (.inl (0, 4, [], []))), (23, kcx36)]
def kcc989 : ak_C := (40, [.inl 15, .inr (false, [(0, 3)])], kch730, [], [([], some (.inr (false, ar_t32)), []), ([], some (.inr (false, [(0, 0)])), [])])
theorem kck989 : ai_chk [kcc985] kcc989 (fun pc => sm_ch sm_t40 pc, sm_Kn 1 3 none, fun x => sm_lk sm_ca1 x, some .int) [] 3 0 [] [] 2000 [] = true := by decide +kernel
/-- Register.linesLittleWrong -/
def kch731 : aw_H := [(15, kcx669), (16, .inr (.inl (0, 8, [], [])))]
def kcc990 : ak_C := (39, [.inl 15], kch731, [], [([], some (.inr (false, [(0, 0)])), []), ([], some (.inr (false, [(0, 8)])), [])])
def kch732 : aw_H := [(15, kcx672), (16, .inr (.inl (0, 8, [], [(0, ar_t32)])))]
def kcx733 : aw_A := .inr (.inl (0, 8, [], [(0, ar_t32), (1, ar_t32)]))
def kch734 : aw_H := [(15, kcx674), (16, kcx733)]
def kcx735 : aw_A := .inr (.inl (0, 8, [], [(0, ar_t32), (1, ar_t32), (2, ar_t32)]))
def kch736 : aw_H := [(15, kcx676), (16, kcx735)]
def kcx737 : aw_A := .inr (.inl (0, 8, [], [(0, ar_t32), (1, ar_t32), (2, ar_t32), (3, ar_t32)]))
def kch738 : aw_H := [(15, kcx678), (16, kcx737)]
def kcx739 : aw_A := .inr (.inl (0, 8, [], [(0, ar_t32), (1, ar_t32), (2, ar_t32), (3, ar_t32), (4, ar_t32)]))
def kch740 : aw_H := [(15, kcx680), (16, kcx739)]
def kcx741 : aw_A := .inr (.inl (0, 8, [], [(0, ar_t32), (1, ar_t32), (2, ar_t32), (3, ar_t32), (4, ar_t32), (5, ar_t32)]))
def kch742 : aw_H := [(15, kcx682), (16, kcx741)]
def kcx743 : aw_A := .inr (.inl (0, 8, [], [(0, ar_t32), (1, ar_t32), (2, ar_t32), (3, ar_t32), (4, ar_t32), (5, ar_t32), (6, ar_t32)]))
def kch744 : aw_H := [(15, kcx684), (16, kcx743)]
def kcx745 : aw_A := .inr (.inl (0, 8, [], [(0, ar_t32), (1, ar_t32), (2, ar_t32), (3, ar_t32), (4, ar_t32), (5, ar_t32), (6, ar_t32), (7, ar_t32)]))
def kch746 : aw_H := [(15, kcx686), (16, kcx745)]
theorem kck990 : ai_chk [] kcc990 (fun pc => sm_ch sm_t39 pc, sm_Kn 1 3 none, fun x => sm_lk sm_ca1 x, some .int) [] 3 0 [4] [] 2000 [(4, [(0, .inl 15), (1, .inr (false, [(0, 0)])), (2, .inr (false, [(0, 0)]))], [], kch731),
  (4, [(0, .inl 15), (1, .inr (false, [(0, 1)])), (2, .inr (false, [(1, 1)]))], [], kch732),
  (4, [(0, .inl 15), (1, .inr (false, [(0, 2)])), (2, .inr (false, [(2, 2)]))], [], kch734),
  (4, [(0, .inl 15), (1, .inr (false, [(0, 3)])), (2, .inr (false, [(3, 3)]))], [], kch736),
  (4, [(0, .inl 15), (1, .inr (false, [(0, 4)])), (2, .inr (false, [(4, 4)]))], [], kch738),
  (4, [(0, .inl 15), (1, .inr (false, [(0, 5)])), (2, .inr (false, [(5, 5)]))], [], kch740),
  (4, [(0, .inl 15), (1, .inr (false, [(0, 6)])), (2, .inr (false, [(6, 6)]))], [], kch742),
  (4, [(0, .inl 15), (1, .inr (false, [(0, 7)])), (2, .inr (false, [(7, 7)]))], [], kch744),
  (4, [(0, .inl 15), (1, .inr (false, [(0, 8)])), (2, .inr (false, [(8, 8)]))], [], kch746)] = true := by decide +kernel
/-- Register.linesLikedBy -/
def kch747 : aw_H := [(15, kcx669), (16, .inr (.inl (0, 8, [], []))), (19, .inr (.inl (0, 8, [], []))), (20, .inr (.inl (0, 4, [], []))), (23, kcx36)]
def kcc991 : ak_C := (38, [.inl 15, .inr (false, [(0, 3)])], kch747, [], [([], some (.inr (false, [(0, 0)])), []), ([], some (.inr (false, [(0, 8)])), [])])
def kch748 : aw_H := [(15, kcx672), (16, .inr (.inl (0, 8, [], []))), (19, .inr (.inl (0, 8, [], []))), (20, .inr (.inl (0, 4, [], []))), (23, kcx36)]
def kch749 : aw_H := [(15, kcx674), (16, .inr (.inl (0, 8, [], []))), (19, .inr (.inl (0, 8, [], []))), (20, .inr (.inl (0, 4, [], []))), (23, kcx36)]
def kch750 : aw_H := [(15, kcx676), (16, .inr (.inl (0, 8, [], []))), (19, .inr (.inl (0, 8, [], []))), (20, .inr (.inl (0, 4, [], []))), (23, kcx36)]
def kch751 : aw_H := [(15, kcx678), (16, .inr (.inl (0, 8, [], []))), (19, .inr (.inl (0, 8, [], []))), (20, .inr (.inl (0, 4, [], []))), (23, kcx36)]
def kch752 : aw_H := [(15, kcx680), (16, .inr (.inl (0, 8, [], []))), (19, .inr (.inl (0, 8, [], []))), (20, .inr (.inl (0, 4, [], []))), (23, kcx36)]
def kch753 : aw_H := [(15, kcx682), (16, .inr (.inl (0, 8, [], []))), (19, .inr (.inl (0, 8, [], []))), (20, .inr (.inl (0, 4, [], []))), (23, kcx36)]
def kch754 : aw_H := [(15, kcx684), (16, .inr (.inl (0, 8, [], []))), (19, .inr (.inl (0, 8, [], []))), (20, .inr (.inl (0, 4, [], []))), (23, kcx36)]
def kch755 : aw_H := [(15, kcx686), (16, .inr (.inl (0, 8, [], []))), (19, .inr (.inl (0, 8, [], []))), (20, .inr (.inl (0, 4, [], []))), (23, kcx36)]
theorem kck991 : ai_chk [kcc978, kcc979] kcc991 (fun pc => sm_ch sm_t38 pc, sm_Kn 1 4 none, fun x => sm_lk sm_ca1 x, some .int) [] 4 0 [4] [] 2000 [(4, [(0, .inl 15), (1, .inr (false, [(0, 3)])), (2, .inr (false, [(0, 0)])), (3, .inr (false, [(0, 0)]))], [], kch747),
  (4, [(0, .inl 15), (1, .inr (false, [(0, 3)])), (2, .inr (false, [(0, 1)])), (3, .inr (false, [(1, 1)]))], [], kch748),
  (4, [(0, .inl 15), (1, .inr (false, [(0, 3)])), (2, .inr (false, [(0, 2)])), (3, .inr (false, [(2, 2)]))], [], kch749),
  (4, [(0, .inl 15), (1, .inr (false, [(0, 3)])), (2, .inr (false, [(0, 3)])), (3, .inr (false, [(3, 3)]))], [], kch750),
  (4, [(0, .inl 15), (1, .inr (false, [(0, 3)])), (2, .inr (false, [(0, 4)])), (3, .inr (false, [(4, 4)]))], [], kch751),
  (4, [(0, .inl 15), (1, .inr (false, [(0, 3)])), (2, .inr (false, [(0, 5)])), (3, .inr (false, [(5, 5)]))], [], kch752),
  (4, [(0, .inl 15), (1, .inr (false, [(0, 3)])), (2, .inr (false, [(0, 6)])), (3, .inr (false, [(6, 6)]))], [], kch753),
  (4, [(0, .inl 15), (1, .inr (false, [(0, 3)])), (2, .inr (false, [(0, 7)])), (3, .inr (false, [(7, 7)]))], [], kch754),
  (4, [(0, .inl 15), (1, .inr (false, [(0, 3)])), (2, .inr (false, [(0, 8)])), (3, .inr (false, [(8, 8)]))], [], kch755)] = true := by decide +kernel
