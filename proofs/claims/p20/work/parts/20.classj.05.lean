def kch841 : aw_H := [(15, kcx669), (16, .inr (.inl (0, 8, [], []))), (17, .inr (.inl (0, 8, [], []))), (18, .inr (.inl (0, 8, [], []))), (19, .inr (.inl (0, 8, [], []))), (20, .inr (.inl (0, 4, [], []))), (21, .inr (.inl (0, 4, [], []))), (22, kcx36), (23, kcx36), (24, kcx840), (25, .inr (.inl (0, 8, [], []))), (26, .inr (.inl (0, 8, [], []))), (27, .inr (.inl (0, 8, [], []))), (28, .inr (.inl (0, 8, [], []))), (29, .inr (.inl (0, 4, [], []))), (30, .inr (.inl (0, 4, [], []))), (31, kcx36), (32, kcx36)]
def kcx842 : aw_A := .inl (1, [.inr (false, [(8, 8)]), .inr (false, [(0, 4)]), .inr (false, ar_t32), .inr (false, ar_t32), .inr (false, ar_t32), .inl 25, .inl 26, .inl 27, .inl 28, .inl 29, .inl 30, .inl 31, .inl 32])
def kch843 : aw_H := [(15, kcx669), (16, .inr (.inl (0, 8, [], []))), (17, .inr (.inl (0, 8, [], []))), (18, .inr (.inl (0, 8, [], []))), (19, .inr (.inl (0, 8, [], []))), (20, .inr (.inl (0, 4, [], []))), (21, .inr (.inl (0, 4, [], []))), (22, kcx36), (23, kcx36), (24, kcx842), (25, .inr (.inl (0, 8, [], []))), (26, .inr (.inl (0, 8, [], []))), (27, .inr (.inl (0, 8, [], []))), (28, .inr (.inl (0, 8, [], []))), (29, .inr (.inl (0, 4, [], []))), (30, .inr (.inl (0, 4, [], []))), (31, kcx36), (32, kcx36)]
def kch844 : aw_H := [(15, kcx669), (16, .inr (.inl (0, 8, [], []))), (17, .inr (.inl (0, 8, [], []))), (18, .inr (.inl (0, 8, [], []))), (19, .inr (.inl (0, 8, [], []))), (20, .inr (.inl (0, 4, [], []))), (21, .inr (.inl (0, 4, [], []))), (22, kcx36), (23, kcx36), (24, kcx632), (25, .inr (.inl (0, 8, [], []))), (26, .inr (.inl (0, 8, [], []))), (27, .inr (.inl (0, 8, [], []))), (28, .inr (.inl (0, 8, [], []))), (29, .inr (.inl (0, 4, [], []))), (30, .inr (.inl (0, 4, [], []))), (31, kcx36), (32, kcx36)]
def kcx845 : aw_A := .inl (1, [.inr (false, [(0, 8)]), .inr (false, [(2, 4)]), .inr (false, ar_t32), .inr (false, ar_t32), .inr (false, ar_t32), .inl 25, .inl 26, .inl 27, .inl 28, .inl 29, .inl 30, .inl 31, .inl 32])
def kch846 : aw_H := [(15, kcx669), (16, .inr (.inl (0, 8, [], []))), (17, .inr (.inl (0, 8, [], []))), (18, .inr (.inl (0, 8, [], []))), (19, .inr (.inl (0, 8, [], []))), (20, .inr (.inl (0, 4, [], []))), (21, .inr (.inl (0, 4, [], []))), (22, kcx36), (23, kcx36), (24, kcx845), (25, .inr (.inl (0, 8, [], []))), (26, .inr (.inl (0, 8, [], []))), (27, .inr (.inl (0, 8, [], []))), (28, .inr (.inl (0, 8, [], []))), (29, .inr (.inl (0, 4, [], []))), (30, .inr (.inl (0, 4, [], []))), (31, kcx36), (32, kcx36)]
def kcx847 : aw_A := .inl (1, [.inr (false, [(0, 8)]), .inr (false, [(3, 4)]), .inr (false, ar_t32), .inr (false, ar_t32), .inr (false, ar_t32), .inl 25, .inl 26, .inl 27, .inl 28, .inl 29, .inl 30, .inl 31, .inl 32])
def kch848 : aw_H := [(15, kcx669), (16, .inr (.inl (0, 8, [], []))), (17, .inr (.inl (0, 8, [], []))), (18, .inr (.inl (0, 8, [], []))), (19, .inr (.inl (0, 8, [], []))), (20, .inr (.inl (0, 4, [], []))), (21, .inr (.inl (0, 4, [], []))), (22, kcx36), (23, kcx36), (24, kcx847), (25, .inr (.inl (0, 8, [], []))), (26, .inr (.inl (0, 8, [], []))), (27, .inr (.inl (0, 8, [], []))), (28, .inr (.inl (0, 8, [], []))), (29, .inr (.inl (0, 4, [], []))), (30, .inr (.inl (0, 4, [], []))), (31, kcx36), (32, kcx36)]
def kcx849 : aw_A := .inl (1, [.inr (false, [(0, 8)]), .inr (false, [(4, 4)]), .inr (false, ar_t32), .inr (false, ar_t32), .inr (false, ar_t32), .inl 25, .inl 26, .inl 27, .inl 28, .inl 29, .inl 30, .inl 31, .inl 32])
def kch850 : aw_H := [(15, kcx669), (16, .inr (.inl (0, 8, [], []))), (17, .inr (.inl (0, 8, [], []))), (18, .inr (.inl (0, 8, [], []))), (19, .inr (.inl (0, 8, [], []))), (20, .inr (.inl (0, 4, [], []))), (21, .inr (.inl (0, 4, [], []))), (22, kcx36), (23, kcx36), (24, kcx849), (25, .inr (.inl (0, 8, [], []))), (26, .inr (.inl (0, 8, [], []))), (27, .inr (.inl (0, 8, [], []))), (28, .inr (.inl (0, 8, [], []))), (29, .inr (.inl (0, 4, [], []))), (30, .inr (.inl (0, 4, [], []))), (31, kcx36), (32, kcx36)]
theorem kck1014 : ai_chk [] kcc1014 (fun pc => sm_ch sm_t23 pc, sm_Kn 1 3 none, fun x => sm_lk sm_ca1 x, none) [24, 25, 26, 27, 28, 29, 30, 31, 32] 3 0 [42, 106] [] 2000 [(42, [(0, .inl 24), (1, .inl 15), (2, .inr (false, [(0, 0)]))], [], kch671),
  (42, [(0, .inl 24), (1, .inl 15), (2, .inr (false, [(1, 1)]))], [], kch829),
  (42, [(0, .inl 24), (1, .inl 15), (2, .inr (false, [(2, 2)]))], [], kch831),
  (42, [(0, .inl 24), (1, .inl 15), (2, .inr (false, [(3, 3)]))], [], kch833),
  (42, [(0, .inl 24), (1, .inl 15), (2, .inr (false, [(4, 4)]))], [], kch835),
  (42, [(0, .inl 24), (1, .inl 15), (2, .inr (false, [(5, 5)]))], [], kch837),
  (42, [(0, .inl 24), (1, .inl 15), (2, .inr (false, [(6, 6)]))], [], kch839),
  (42, [(0, .inl 24), (1, .inl 15), (2, .inr (false, [(7, 7)]))], [], kch841),
  (42, [(0, .inl 24), (1, .inl 15), (2, .inr (false, [(8, 8)]))], [], kch843),
  (106, [(0, .inl 24), (1, .inl 15), (2, .inr (false, [(0, 0)]))], [], kch671),
  (106, [(0, .inl 24), (1, .inl 15), (2, .inr (false, [(1, 1)]))], [], kch844),
  (106, [(0, .inl 24), (1, .inl 15), (2, .inr (false, [(2, 2)]))], [], kch846),
  (106, [(0, .inl 24), (1, .inl 15), (2, .inr (false, [(3, 3)]))], [], kch848),
  (106, [(0, .inl 24), (1, .inl 15), (2, .inr (false, [(4, 4)]))], [], kch850)] = true := by decide +kernel
/-- Register.isOpen -/
def kch851 : aw_H := [(24, kcx25), (27, .inr (.inl (0, 8, [], [])))]
def kcc1015 : ak_C := (29, [.inl 24, .inr (false, [(0, 7)])], kch851, [], [([], some (.inr (false, [(1, 1)])), []), ([], some (.inr (false, [(0, 0)])), [])])
theorem kck1015 : ai_chk [] kcc1015 (fun pc => sm_ch sm_t29 pc, sm_Kn 1 2 none, fun x => sm_lk sm_ca1 x, some .boolean) [] 2 0 [] [] 2000 [] = true := by decide +kernel
/-- Register.distance -/
def kch852 : aw_H := [(24, kcx25), (32, kcx36)]
def kcc1016 : ak_C := (30, [.inl 24, .inr (false, [(0, 3)]), .inr (false, [(0, 7)])], kch852, [], [([], some (.inr (false, [(0, 7)])), [])])
theorem kck1016 : ai_chk [] kcc1016 (fun pc => sm_ch sm_t30 pc, sm_Kn 1 3 none, fun x => sm_lk sm_ca1 x, some .int) [] 3 0 [] [] 2000 [] = true := by decide +kernel
/-- Register.lineWantedBy -/
def kch853 : aw_H := [(24, kcx25), (25, .inr (.inl (0, 8, [], []))), (27, .inr (.inl (0, 8, [], []))), (28, .inr (.inl (0, 8, [], []))), (29, .inr (.inl (0, 4, [], []))), (32, kcx36)]
def kcc1017 : ak_C := (28, [.inl 24, .inr (false, [(0, 3)])], kch853, [], [([], some (.inr (false, [(-9, -9)])), []), ([], some (.inr (false, [(-9, -9), (0, 7)])), [])])
def kch854 : aw_H := [(24, kcx828), (25, .inr (.inl (0, 8, [], []))), (27, .inr (.inl (0, 8, [], []))), (28, .inr (.inl (0, 8, [], []))), (29, .inr (.inl (0, 4, [], []))), (32, kcx36)]
def kch855 : aw_H := [(24, kcx830), (25, .inr (.inl (0, 8, [], []))), (27, .inr (.inl (0, 8, [], []))), (28, .inr (.inl (0, 8, [], []))), (29, .inr (.inl (0, 4, [], []))), (32, kcx36)]
def kch856 : aw_H := [(24, kcx832), (25, .inr (.inl (0, 8, [], []))), (27, .inr (.inl (0, 8, [], []))), (28, .inr (.inl (0, 8, [], []))), (29, .inr (.inl (0, 4, [], []))), (32, kcx36)]
def kch857 : aw_H := [(24, kcx834), (25, .inr (.inl (0, 8, [], []))), (27, .inr (.inl (0, 8, [], []))), (28, .inr (.inl (0, 8, [], []))), (29, .inr (.inl (0, 4, [], []))), (32, kcx36)]
def kch858 : aw_H := [(24, kcx836), (25, .inr (.inl (0, 8, [], []))), (27, .inr (.inl (0, 8, [], []))), (28, .inr (.inl (0, 8, [], []))), (29, .inr (.inl (0, 4, [], []))), (32, kcx36)]
def kch859 : aw_H := [(24, kcx838), (25, .inr (.inl (0, 8, [], []))), (27, .inr (.inl (0, 8, [], []))), (28, .inr (.inl (0, 8, [], []))), (29, .inr (.inl (0, 4, [], []))), (32, kcx36)]
def kch860 : aw_H := [(24, kcx840), (25, .inr (.inl (0, 8, [], []))), (27, .inr (.inl (0, 8, [], []))), (28, .inr (.inl (0, 8, [], []))), (29, .inr (.inl (0, 4, [], []))), (32, kcx36)]
def kch861 : aw_H := [(24, kcx842), (25, .inr (.inl (0, 8, [], []))), (27, .inr (.inl (0, 8, [], []))), (28, .inr (.inl (0, 8, [], []))), (29, .inr (.inl (0, 4, [], []))), (32, kcx36)]
theorem kck1017 : ai_chk [kcc1015, kcc1016, kcc979] kcc1017 (fun pc => sm_ch sm_t28 pc, sm_Kn 1 8 none, fun x => sm_lk sm_ca1 x, some .int) [] 8 0 [11] [] 2000 [(11, [(0, .inl 24), (1, .inr (false, [(0, 3)])), (2, .inr (false, [(-9, -9)])), (3, .inr (false, [(0, 0)])), (4, .inr (false, [(0, 0)])), (5, .inr (false, [(0, 0)]))], [], kch853),
  (11, [(0, .inl 24), (1, .inr (false, [(0, 3)])), (2, .inr (false, [(-9, -9), (0, 0)])), (3, .inr (false, [(0, 2147483647)])), (4, .inr (false, [(0, 7)])), (5, .inr (false, [(1, 1)]))], [], kch854),
  (11, [(0, .inl 24), (1, .inr (false, [(0, 3)])), (2, .inr (false, [(-9, -9), (0, 1)])), (3, .inr (false, [(0, 2147483647)])), (4, .inr (false, [(0, 7)])), (5, .inr (false, [(2, 2)]))], [], kch855),
  (11, [(0, .inl 24), (1, .inr (false, [(0, 3)])), (2, .inr (false, [(-9, -9), (0, 2)])), (3, .inr (false, [(0, 2147483647)])), (4, .inr (false, [(0, 7)])), (5, .inr (false, [(3, 3)]))], [], kch856),
  (11, [(0, .inl 24), (1, .inr (false, [(0, 3)])), (2, .inr (false, [(-9, -9), (0, 3)])), (3, .inr (false, [(0, 2147483647)])), (4, .inr (false, [(0, 7)])), (5, .inr (false, [(4, 4)]))], [], kch857),
  (11, [(0, .inl 24), (1, .inr (false, [(0, 3)])), (2, .inr (false, [(-9, -9), (0, 4)])), (3, .inr (false, [(0, 2147483647)])), (4, .inr (false, [(0, 7)])), (5, .inr (false, [(5, 5)]))], [], kch858),
  (11, [(0, .inl 24), (1, .inr (false, [(0, 3)])), (2, .inr (false, [(-9, -9), (0, 5)])), (3, .inr (false, [(0, 2147483647)])), (4, .inr (false, [(0, 7)])), (5, .inr (false, [(6, 6)]))], [], kch859),
  (11, [(0, .inl 24), (1, .inr (false, [(0, 3)])), (2, .inr (false, [(-9, -9), (0, 6)])), (3, .inr (false, [(0, 2147483647)])), (4, .inr (false, [(0, 7)])), (5, .inr (false, [(7, 7)]))], [], kch860),
  (11, [(0, .inl 24), (1, .inr (false, [(0, 3)])), (2, .inr (false, [(-9, -9), (0, 7)])), (3, .inr (false, [(0, 2147483647)])), (4, .inr (false, [(0, 7)])), (5, .inr (false, [(8, 8)]))], [], kch861)] = true := by decide +kernel
def kch862 : aw_H := [(24, kcx25), (27, .inr (.inl (0, 8, [], []))), (28, .inr (.inl (0, 8, [], []))), (32, kcx36)]
