/-- Register.allCheese -/
def kch756 : aw_H := [(15, kcx669), (19, .inr (.inl (0, 8, [], [])))]
def kcc992 : ak_C := (41, [.inl 15], kch756, [], [([], some (.inr (false, [(0, 0)])), []), ([], some (.inr (false, ar_t32)), [])])
def kch757 : aw_H := [(15, kcx672), (19, .inr (.inl (0, 8, [], [])))]
def kch758 : aw_H := [(15, kcx674), (19, .inr (.inl (0, 8, [], [])))]
def kch759 : aw_H := [(15, kcx676), (19, .inr (.inl (0, 8, [], [])))]
def kch760 : aw_H := [(15, kcx678), (19, .inr (.inl (0, 8, [], [])))]
def kch761 : aw_H := [(15, kcx680), (19, .inr (.inl (0, 8, [], [])))]
def kch762 : aw_H := [(15, kcx682), (19, .inr (.inl (0, 8, [], [])))]
def kch763 : aw_H := [(15, kcx684), (19, .inr (.inl (0, 8, [], [])))]
def kch764 : aw_H := [(15, kcx686), (19, .inr (.inl (0, 8, [], [])))]
theorem kck992 : ai_chk [] kcc992 (fun pc => sm_ch sm_t41 pc, sm_Kn 1 3 none, fun x => sm_lk sm_ca1 x, some .int) [] 3 0 [4] [] 2000 [(4, [(0, .inl 15), (1, .inr (false, [(0, 0)])), (2, .inr (false, [(0, 0)]))], [], kch756),
  (4, [(0, .inl 15), (1, .inr (false, ar_t32)), (2, .inr (false, [(1, 1)]))], [], kch757),
  (4, [(0, .inl 15), (1, .inr (false, ar_t32)), (2, .inr (false, [(2, 2)]))], [], kch758),
  (4, [(0, .inl 15), (1, .inr (false, ar_t32)), (2, .inr (false, [(3, 3)]))], [], kch759),
  (4, [(0, .inl 15), (1, .inr (false, ar_t32)), (2, .inr (false, [(4, 4)]))], [], kch760),
  (4, [(0, .inl 15), (1, .inr (false, ar_t32)), (2, .inr (false, [(5, 5)]))], [], kch761),
  (4, [(0, .inl 15), (1, .inr (false, ar_t32)), (2, .inr (false, [(6, 6)]))], [], kch762),
  (4, [(0, .inl 15), (1, .inr (false, ar_t32)), (2, .inr (false, [(7, 7)]))], [], kch763),
  (4, [(0, .inl 15), (1, .inr (false, ar_t32)), (2, .inr (false, [(8, 8)]))], [], kch764)] = true := by decide +kernel
/-- MiceRegisters.mark -/
def kch765 : aw_H := [(0, kcx2), (15, kcx669), (16, .inr (.inl (0, 8, [], []))), (18, .inr (.inl (0, 8, [], []))), (19, .inr (.inl (0, 8, [], []))), (20, .inr (.inl (0, 4, [], []))), (21, .inr (.inl (0, 4, [], []))), (23, kcx36), (80, .inr (.inl (0, 6, [], [])))]
def kcc993 : ak_C := (36, [.inl 0, .inr (false, ar_t32), .inr (false, ar_t32)], kch765, [0, 80], [([[], [], []], some (.inr (false, [(-1, -1)])), kch3), ([[], [(0, 3)], [(1, 5)]], some (.inr (false, ar_t32)), kch3), ([[], [(0, 3)], [(1, 3), (5, 5)]], some (.inr (false, [(0, 0)])), kch3), ([[], [(0, 3)], [(1, 5)]], some (.inr (false, [(-3, -3)])), kch1)])
theorem kck993 : ai_chk [kcc984, kcc988, kcc985, kcc989, kcc990, kcc991, kcc992, kcc11] kcc993 (fun pc => sm_ch sm_t36 pc, sm_Kn 2 3 none, fun x => sm_lk sm_ca2 x, some .int) [0, 80] 3 3 [] [] 2000 [] = true := by decide +kernel
def kch766 : aw_H := [(42, kcx696), (43, .inr (.inr (.inr ()))), (44, .inr (.inr (.inr ()))), (45, .inr (.inr (.inr ())))]
/-- Deeds.add -/
def kch767 : aw_H := [(42, kcx696)]
def kcc0 : ak_C := (44, [.inl 42, .inr (false, [(0, 0), (2, 3)]), .inr (false, ar_t32), .inr (false, ar_t32)], kch767, [42, 43, 44, 45], [([], none, kch766)])
def kch768 : aw_H := [(15, kcx669), (18, .inr (.inl (0, 8, [], []))), (19, .inr (.inl (0, 8, [], []))), (23, kcx36)]
/-- Register.passYear -/
def kch769 : aw_H := [(15, kcx669), (16, .inr (.inl (0, 8, [], []))), (18, .inr (.inl (0, 8, [], []))), (19, .inr (.inl (0, 8, [], []))), (20, .inr (.inl (0, 4, [], []))), (21, .inr (.inl (0, 4, [], []))), (23, kcx36)]
def kcc994 : ak_C := (46, [.inl 15, .inr (false, ar_t32)], kch769, [15, 18, 19, 23], [([], some (.inr (false, ar_t32)), kch768)])
def kch770 : aw_H := [(15, kcx688), (16, .inr (.inl (0, 8, [], []))), (18, .inr (.inl (0, 8, [], []))), (19, .inr (.inl (0, 8, [], []))), (20, .inr (.inl (0, 4, [], []))), (21, .inr (.inl (0, 4, [], []))), (23, kcx36)]
def kch771 : aw_H := [(15, kcx690), (16, .inr (.inl (0, 8, [], []))), (18, .inr (.inl (0, 8, [], []))), (19, .inr (.inl (0, 8, [], []))), (20, .inr (.inl (0, 4, [], []))), (21, .inr (.inl (0, 4, [], []))), (23, kcx36)]
def kch772 : aw_H := [(15, kcx692), (16, .inr (.inl (0, 8, [], []))), (18, .inr (.inl (0, 8, [], []))), (19, .inr (.inl (0, 8, [], []))), (20, .inr (.inl (0, 4, [], []))), (21, .inr (.inl (0, 4, [], []))), (23, kcx36)]
def kch773 : aw_H := [(15, kcx694), (16, .inr (.inl (0, 8, [], []))), (18, .inr (.inl (0, 8, [], []))), (19, .inr (.inl (0, 8, [], []))), (20, .inr (.inl (0, 4, [], []))), (21, .inr (.inl (0, 4, [], []))), (23, kcx36)]
def kch774 : aw_H := [(15, kcx672), (16, .inr (.inl (0, 8, [], []))), (18, .inr (.inl (0, 8, [], []))), (19, .inr (.inl (0, 8, [], []))), (20, .inr (.inl (0, 4, [], []))), (21, .inr (.inl (0, 4, [], []))), (23, kcx36)]
def kch775 : aw_H := [(15, kcx674), (16, .inr (.inl (0, 8, [], []))), (18, .inr (.inl (0, 8, [], []))), (19, .inr (.inl (0, 8, [], []))), (20, .inr (.inl (0, 4, [], []))), (21, .inr (.inl (0, 4, [], []))), (23, kcx36)]
def kch776 : aw_H := [(15, kcx676), (16, .inr (.inl (0, 8, [], []))), (18, .inr (.inl (0, 8, [], []))), (19, .inr (.inl (0, 8, [], []))), (20, .inr (.inl (0, 4, [], []))), (21, .inr (.inl (0, 4, [], []))), (23, kcx36)]
def kch777 : aw_H := [(15, kcx678), (16, .inr (.inl (0, 8, [], []))), (18, .inr (.inl (0, 8, [], []))), (19, .inr (.inl (0, 8, [], []))), (20, .inr (.inl (0, 4, [], []))), (21, .inr (.inl (0, 4, [], []))), (23, kcx36)]
def kch778 : aw_H := [(15, kcx680), (16, .inr (.inl (0, 8, [], []))), (18, .inr (.inl (0, 8, [], []))), (19, .inr (.inl (0, 8, [], []))), (20, .inr (.inl (0, 4, [], []))), (21, .inr (.inl (0, 4, [], []))), (23, kcx36)]
def kch779 : aw_H := [(15, kcx682), (16, .inr (.inl (0, 8, [], []))), (18, .inr (.inl (0, 8, [], []))), (19, .inr (.inl (0, 8, [], []))), (20, .inr (.inl (0, 4, [], []))), (21, .inr (.inl (0, 4, [], []))), (23, kcx36)]
def kch780 : aw_H := [(15, kcx684), (16, .inr (.inl (0, 8, [], []))), (18, .inr (.inl (0, 8, [], []))), (19, .inr (.inl (0, 8, [], []))), (20, .inr (.inl (0, 4, [], []))), (21, .inr (.inl (0, 4, [], []))), (23, kcx36)]
def kch781 : aw_H := [(15, kcx686), (16, .inr (.inl (0, 8, [], []))), (18, .inr (.inl (0, 8, [], []))), (19, .inr (.inl (0, 8, [], []))), (20, .inr (.inl (0, 4, [], []))), (21, .inr (.inl (0, 4, [], []))), (23, kcx36)]
theorem kck994 : ai_chk [kcc980, kcc985] kcc994 (fun pc => sm_ch sm_t46 pc, sm_Kn 1 6 none, fun x => sm_lk sm_ca1 x, some .int) [15, 18, 19, 23] 6 0 [4, 100] [] 2000 [(4, [(0, .inl 15), (1, .inr (false, ar_t32)), (2, .inr (false, [(0, 0)])), (3, .inr (false, [(0, 0)]))], [], kch769),
  (4, [(0, .inl 15), (1, .inr (false, ar_t32)), (2, .inr (false, ar_t32)), (3, .inr (false, [(1, 1)])), (4, .inr (false, [(-9, -9), (0, 7)]))], [], kch770),
  (4, [(0, .inl 15), (1, .inr (false, ar_t32)), (2, .inr (false, ar_t32)), (3, .inr (false, [(2, 2)])), (4, .inr (false, [(-9, -9), (0, 7)]))], [], kch771),
  (4, [(0, .inl 15), (1, .inr (false, ar_t32)), (2, .inr (false, ar_t32)), (3, .inr (false, [(3, 3)])), (4, .inr (false, [(-9, -9), (0, 7)]))], [], kch772),
  (4, [(0, .inl 15), (1, .inr (false, ar_t32)), (2, .inr (false, ar_t32)), (3, .inr (false, [(4, 4)])), (4, .inr (false, [(-9, -9), (0, 7)]))], [], kch773),
  (100, [(0, .inl 15), (1, .inr (false, ar_t32)), (2, .inr (false, ar_t32)), (3, .inr (false, [(0, 0)]))], [], kch769),
  (100, [(0, .inl 15), (1, .inr (false, ar_t32)), (2, .inr (false, ar_t32)), (3, .inr (false, [(1, 1)]))], [], kch774),
  (100, [(0, .inl 15), (1, .inr (false, ar_t32)), (2, .inr (false, ar_t32)), (3, .inr (false, [(2, 2)]))], [], kch775),
  (100, [(0, .inl 15), (1, .inr (false, ar_t32)), (2, .inr (false, ar_t32)), (3, .inr (false, [(3, 3)]))], [], kch776),
  (100, [(0, .inl 15), (1, .inr (false, ar_t32)), (2, .inr (false, ar_t32)), (3, .inr (false, [(4, 4)]))], [], kch777),
  (100, [(0, .inl 15), (1, .inr (false, ar_t32)), (2, .inr (false, ar_t32)), (3, .inr (false, [(5, 5)]))], [], kch778),
  (100, [(0, .inl 15), (1, .inr (false, ar_t32)), (2, .inr (false, ar_t32)), (3, .inr (false, [(6, 6)]))], [], kch779),
  (100, [(0, .inl 15), (1, .inr (false, ar_t32)), (2, .inr (false, ar_t32)), (3, .inr (false, [(7, 7)]))], [], kch780),
  (100, [(0, .inl 15), (1, .inr (false, ar_t32)), (2, .inr (false, ar_t32)), (3, .inr (false, [(8, 8)]))], [], kch781)] = true := by decide +kernel
/-- Register.change -/
def kcc995 : ak_C := (45, [.inl 15, .inr (false, [(0, 0)]), .inr (false, [(0, 0)]), .inr (false, ar_t32)], kch769, [15, 18, 19, 23], [([], some (.inr (false, ar_t32)), kch768)])
theorem kck995 : ai_chk [kcc994] kcc995 (fun pc => sm_ch sm_t45 pc, sm_Kn 1 5 none, fun x => sm_lk sm_ca1 x, some .int) [15, 18, 19, 23] 5 0 [] [] 2000 [] = true := by decide +kernel
def kch782 : aw_H := [(15, kcx669), (18, .inr (.inl (0, 8, [], []))), (19, .inr (.inl (0, 8, [], []))), (23, kcx36), (42, kcx696), (43, .inr (.inr (.inr ()))), (44, .inr (.inr (.inr ()))), (45, .inr (.inr (.inr ())))]
/-- MiceRegisters.doTruly -/
def kch783 : aw_H := [(0, kcx2), (15, kcx669), (16, .inr (.inl (0, 8, [], []))), (18, .inr (.inl (0, 8, [], []))), (19, .inr (.inl (0, 8, [], []))), (20, .inr (.inl (0, 4, [], []))), (21, .inr (.inl (0, 4, [], []))), (23, kcx36), (42, kcx696), (43, .inr (.inr (.inr ()))), (44, .inr (.inr (.inr ()))), (45, .inr (.inr (.inr ())))]
def kcc996 : ak_C := (43, [.inl 0, .inr (false, [(0, 0)]), .inr (false, [(0, 0)]), .inr (false, ar_t32)], kch783, [15, 18, 19, 23, 42, 43, 44, 45], [([], some (.inr (false, ar_t32)), kch782)])
theorem kck996 : ai_chk [kcc0, kcc995] kcc996 (fun pc => sm_ch sm_t43 pc, sm_Kn 2 4 none, fun x => sm_lk sm_ca2 x, some .int) [15, 18, 19, 23, 42] 4 0 [] [] 2000 [] = true := by decide +kernel
def kcx784 : aw_A := .inl (1, [.inr (false, [(0, 8)]), .inr (false, [(0, 0)]), .inr (false, ar_t32), .inr (false, ar_t32), .inr (false, ar_t32), .inl 16, .inl 17, .inl 18, .inl 19, .inl 20, .inl 21, .inl 22, .inl 23])
def kch785 : aw_H := [(15, kcx784), (18, .inr (.inl (0, 8, [], []))), (19, .inr (.inl (0, 8, [], []))), (23, kcx36), (42, kcx696), (43, .inr (.inr (.inr ()))), (44, .inr (.inr (.inr ()))), (45, .inr (.inr (.inr ())))]
