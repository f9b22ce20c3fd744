/-! Contracts of methods that those walked by hand call; printed by a program of mine. -/
def keh0 : aw_H := [(19, .inr (.inl (0, 8, [], [])))]
/-- Register.change -/
def kex1 : aw_A := .inl (1, [.inr (false, [(0, 8)]), .inr (false, [(0, 4)]), .inr (false, ar_t32), .inr (false, ar_t32), .inr (false, ar_t32), .inl 16, .inl 17, .inl 18, .inl 19, .inl 20, .inl 21, .inl 22, .inl 23])
def keh2 : aw_H := [(15, kex1), (19, .inr (.inl (0, 8, [], [])))]
def kec10 : ak_C := (45, [.inl 15, .inr (false, [(1, 1)]), .inr (false, [(0, 7)]), .inr (false, ar_t32)], keh2, [19], [([], some (.inr (false, ar_t32)), keh0)])
theorem kek10 : ai_chk [] kec10 (fun pc => sm_ch sm_t45 pc, sm_Kn 1 5 none, fun x => sm_lk sm_ca1 x, some .int) [19] 5 0 [] [] 2000 [] = true := by decide +kernel
/-- Register.isOpen -/
def keh3 : aw_H := [(15, kex1), (18, .inr (.inl (0, 8, [], [])))]
def kec11 : ak_C := (29, [.inl 15, .inr (false, [(0, 7)])], keh3, [], [([], some (.inr (false, [(1, 1)])), []), ([], some (.inr (false, [(0, 0)])), [])])
theorem kek11 : ai_chk [] kec11 (fun pc => sm_ch sm_t29 pc, sm_Kn 1 2 none, fun x => sm_lk sm_ca1 x, some .boolean) [] 2 0 [] [] 2000 [] = true := by decide +kernel
/-- Register.distance -/
def kex4 : aw_A := .inr (.inl (0, 4, [(0, 3, [(0, 7)])], []))
def keh5 : aw_H := [(15, kex1), (23, kex4)]
def kec12 : ak_C := (30, [.inl 15, .inr (false, [(0, 3)]), .inr (false, [(0, 7)])], keh5, [], [([], some (.inr (false, [(0, 7)])), [])])
theorem kek12 : ai_chk [] kec12 (fun pc => sm_ch sm_t30 pc, sm_Kn 1 3 none, fun x => sm_lk sm_ca1 x, some .int) [] 3 0 [] [] 2000 [] = true := by decide +kernel
/-- MiceRegisters.liking -/
def kec13 : ak_C := (31, [.inr (false, ar_t32), .inr (false, ar_t32), .inr (false, ar_t32), .inr (false, ar_t32)], [], [], [([], some (.inr (false, ar_t32)), [])])
theorem kek13 : ai_chk [] kec13 (fun pc => sm_ch sm_t31 pc, sm_Kn 2 4 none, fun x => sm_lk sm_ca2 x, some .int) [] 4 0 [] [] 2000 [] = true := by decide +kernel
/-- Register.lineWantedBy -/
def keh6 : aw_H := [(15, kex1), (16, .inr (.inl (0, 8, [], []))), (18, .inr (.inl (0, 8, [], []))), (19, .inr (.inl (0, 8, [], []))), (20, .inr (.inl (0, 4, [], []))), (23, kex4)]
def kec14 : ak_C := (28, [.inl 15, .inr (false, [(0, 3)])], keh6, [], [([], some (.inr (false, [(-9, -9)])), []), ([], some (.inr (false, [(-9, -9), (0, 7)])), [])])
def kex7 : aw_A := .inl (1, [.inr (false, [(1, 8)]), .inr (false, [(0, 4)]), .inr (false, ar_t32), .inr (false, ar_t32), .inr (false, ar_t32), .inl 16, .inl 17, .inl 18, .inl 19, .inl 20, .inl 21, .inl 22, .inl 23])
def keh8 : aw_H := [(15, kex7), (16, .inr (.inl (0, 8, [], []))), (18, .inr (.inl (0, 8, [], []))), (19, .inr (.inl (0, 8, [], []))), (20, .inr (.inl (0, 4, [], []))), (23, kex4)]
def kex9 : aw_A := .inl (1, [.inr (false, [(2, 8)]), .inr (false, [(0, 4)]), .inr (false, ar_t32), .inr (false, ar_t32), .inr (false, ar_t32), .inl 16, .inl 17, .inl 18, .inl 19, .inl 20, .inl 21, .inl 22, .inl 23])
def keh10 : aw_H := [(15, kex9), (16, .inr (.inl (0, 8, [], []))), (18, .inr (.inl (0, 8, [], []))), (19, .inr (.inl (0, 8, [], []))), (20, .inr (.inl (0, 4, [], []))), (23, kex4)]
def kex11 : aw_A := .inl (1, [.inr (false, [(3, 8)]), .inr (false, [(0, 4)]), .inr (false, ar_t32), .inr (false, ar_t32), .inr (false, ar_t32), .inl 16, .inl 17, .inl 18, .inl 19, .inl 20, .inl 21, .inl 22, .inl 23])
def keh12 : aw_H := [(15, kex11), (16, .inr (.inl (0, 8, [], []))), (18, .inr (.inl (0, 8, [], []))), (19, .inr (.inl (0, 8, [], []))), (20, .inr (.inl (0, 4, [], []))), (23, kex4)]
def kex13 : aw_A := .inl (1, [.inr (false, [(4, 8)]), .inr (false, [(0, 4)]), .inr (false, ar_t32), .inr (false, ar_t32), .inr (false, ar_t32), .inl 16, .inl 17, .inl 18, .inl 19, .inl 20, .inl 21, .inl 22, .inl 23])
def keh14 : aw_H := [(15, kex13), (16, .inr (.inl (0, 8, [], []))), (18, .inr (.inl (0, 8, [], []))), (19, .inr (.inl (0, 8, [], []))), (20, .inr (.inl (0, 4, [], []))), (23, kex4)]
def kex15 : aw_A := .inl (1, [.inr (false, [(5, 8)]), .inr (false, [(0, 4)]), .inr (false, ar_t32), .inr (false, ar_t32), .inr (false, ar_t32), .inl 16, .inl 17, .inl 18, .inl 19, .inl 20, .inl 21, .inl 22, .inl 23])
def keh16 : aw_H := [(15, kex15), (16, .inr (.inl (0, 8, [], []))), (18, .inr (.inl (0, 8, [], []))), (19, .inr (.inl (0, 8, [], []))), (20, .inr (.inl (0, 4, [], []))), (23, kex4)]
def kex17 : aw_A := .inl (1, [.inr (false, [(6, 8)]), .inr (false, [(0, 4)]), .inr (false, ar_t32), .inr (false, ar_t32), .inr (false, ar_t32), .inl 16, .inl 17, .inl 18, .inl 19, .inl 20, .inl 21, .inl 22, .inl 23])
def keh18 : aw_H := [(15, kex17), (16, .inr (.inl (0, 8, [], []))), (18, .inr (.inl (0, 8, [], []))), (19, .inr (.inl (0, 8, [], []))), (20, .inr (.inl (0, 4, [], []))), (23, kex4)]
def kex19 : aw_A := .inl (1, [.inr (false, [(7, 8)]), .inr (false, [(0, 4)]), .inr (false, ar_t32), .inr (false, ar_t32), .inr (false, ar_t32), .inl 16, .inl 17, .inl 18, .inl 19, .inl 20, .inl 21, .inl 22, .inl 23])
def keh20 : aw_H := [(15, kex19), (16, .inr (.inl (0, 8, [], []))), (18, .inr (.inl (0, 8, [], []))), (19, .inr (.inl (0, 8, [], []))), (20, .inr (.inl (0, 4, [], []))), (23, kex4)]
def kex21 : aw_A := .inl (1, [.inr (false, [(8, 8)]), .inr (false, [(0, 4)]), .inr (false, ar_t32), .inr (false, ar_t32), .inr (false, ar_t32), .inl 16, .inl 17, .inl 18, .inl 19, .inl 20, .inl 21, .inl 22, .inl 23])
def keh22 : aw_H := [(15, kex21), (16, .inr (.inl (0, 8, [], []))), (18, .inr (.inl (0, 8, [], []))), (19, .inr (.inl (0, 8, [], []))), (20, .inr (.inl (0, 4, [], []))), (23, kex4)]
theorem kek14 : ai_chk [kec11, kec12, kec13] kec14 (fun pc => sm_ch sm_t28 pc, sm_Kn 1 8 none, fun x => sm_lk sm_ca1 x, some .int) [] 8 0 [11] [] 2000 [(11, [(0, .inl 15), (1, .inr (false, [(0, 3)])), (2, .inr (false, [(-9, -9)])), (3, .inr (false, [(0, 0)])), (4, .inr (false, [(0, 0)])), (5, .inr (false, [(0, 0)]))], [], keh6),
  (11, [(0, .inl 15), (1, .inr (false, [(0, 3)])), (2, .inr (false, [(-9, -9), (0, 0)])), (3, .inr (false, [(0, 2147483647)])), (4, .inr (false, [(0, 7)])), (5, .inr (false, [(1, 1)]))], [], keh8),
  (11, [(0, .inl 15), (1, .inr (false, [(0, 3)])), (2, .inr (false, [(-9, -9), (0, 1)])), (3, .inr (false, [(0, 2147483647)])), (4, .inr (false, [(0, 7)])), (5, .inr (false, [(2, 2)]))], [], keh10),
  (11, [(0, .inl 15), (1, .inr (false, [(0, 3)])), (2, .inr (false, [(-9, -9), (0, 2)])), (3, .inr (false, [(0, 2147483647)])), (4, .inr (false, [(0, 7)])), (5, .inr (false, [(3, 3)]))], [], keh12),
  (11, [(0, .inl 15), (1, .inr (false, [(0, 3)])), (2, .inr (false, [(-9, -9), (0, 3)])), (3, .inr (false, [(0, 2147483647)])), (4, .inr (false, [(0, 7)])), (5, .inr (false, [(4, 4)]))], [], keh14),
  (11, [(0, .inl 15), (1, .inr (false, [(0, 3)])), (2, .inr (false, [(-9, -9), (0, 4)])), (3, .inr (false, [(0, 2147483647)])), (4, .inr (false, [(0, 7)])), (5, .inr (false, [(5, 5)]))], [], keh16),
  (11, [(0, .inl 15), (1, .inr (false, [(0, 3)])), (2, .inr (false, [(-9, -9), (0, 5)])), (3, .inr (false, [(0, 2147483647)])), (4, .inr (false, [(0, 7)])), (5, .inr (false, [(6, 6)]))], [], keh18),
  (11, [(0, .inl 15), (1, .inr (false, [(0, 3)])), (2, .inr (false, [(-9, -9), (0, 6)])), (3, .inr (false, [(0, 2147483647)])), (4, .inr (false, [(0, 7)])), (5, .inr (false, [(7, 7)]))], [], keh20),
  (11, [(0, .inl 15), (1, .inr (false, [(0, 3)])), (2, .inr (false, [(-9, -9), (0, 7)])), (3, .inr (false, [(0, 2147483647)])), (4, .inr (false, [(0, 7)])), (5, .inr (false, [(8, 8)]))], [], keh22)] = true := by decide +kernel
/-- MiceRegisters.eatenInAYear -/
def kec15 : ak_C := (35, [.inr (false, ar_t32), .inr (false, ar_t32)], [], [], [([], some (.inr (false, ar_t32)), [])])
theorem kek15 : ai_chk [] kec15 (fun pc => sm_ch sm_t35 pc, sm_Kn 2 2 none, fun x => sm_lk sm_ca2 x, some .int) [] 2 0 [] [] 2000 [] = true := by decide +kernel
def keh23 : aw_H := [(15, kex1), (18, .inr (.inl (0, 8, [], []))), (19, .inr (.inl (0, 8, [], []))), (23, kex4)]
/-- Register.passYear -/
def keh24 : aw_H := [(15, kex1), (16, .inr (.inl (0, 8, [], []))), (18, .inr (.inl (0, 8, [], []))), (19, .inr (.inl (0, 8, [], []))), (20, .inr (.inl (0, 4, [], []))), (21, .inr (.inl (0, 4, [], []))), (23, kex4)]
def kec16 : ak_C := (46, [.inl 15, .inr (false, ar_t32)], keh24, [15, 18, 19, 23], [([], some (.inr (false, ar_t32)), keh23)])
def kex25 : aw_A := .inl (1, [.inr (false, [(0, 8)]), .inr (false, [(1, 4)]), .inr (false, ar_t32), .inr (false, ar_t32), .inr (false, ar_t32), .inl 16, .inl 17, .inl 18, .inl 19, .inl 20, .inl 21, .inl 22, .inl 23])
def keh26 : aw_H := [(15, kex25), (16, .inr (.inl (0, 8, [], []))), (18, .inr (.inl (0, 8, [], []))), (19, .inr (.inl (0, 8, [], []))), (20, .inr (.inl (0, 4, [], []))), (21, .inr (.inl (0, 4, [], []))), (23, kex4)]
def kex27 : aw_A := .inl (1, [.inr (false, [(0, 8)]), .inr (false, [(2, 4)]), .inr (false, ar_t32), .inr (false, ar_t32), .inr (false, ar_t32), .inl 16, .inl 17, .inl 18, .inl 19, .inl 20, .inl 21, .inl 22, .inl 23])
def keh28 : aw_H := [(15, kex27), (16, .inr (.inl (0, 8, [], []))), (18, .inr (.inl (0, 8, [], []))), (19, .inr (.inl (0, 8, [], []))), (20, .inr (.inl (0, 4, [], []))), (21, .inr (.inl (0, 4, [], []))), (23, kex4)]
def kex29 : aw_A := .inl (1, [.inr (false, [(0, 8)]), .inr (false, [(3, 4)]), .inr (false, ar_t32), .inr (false, ar_t32), .inr (false, ar_t32), .inl 16, .inl 17, .inl 18, .inl 19, .inl 20, .inl 21, .inl 22, .inl 23])
def keh30 : aw_H := [(15, kex29), (16, .inr (.inl (0, 8, [], []))), (18, .inr (.inl (0, 8, [], []))), (19, .inr (.inl (0, 8, [], []))), (20, .inr (.inl (0, 4, [], []))), (21, .inr (.inl (0, 4, [], []))), (23, kex4)]
def kex31 : aw_A := .inl (1, [.inr (false, [(0, 8)]), .inr (false, [(4, 4)]), .inr (false, ar_t32), .inr (false, ar_t32), .inr (false, ar_t32), .inl 16, .inl 17, .inl 18, .inl 19, .inl 20, .inl 21, .inl 22, .inl 23])
def keh32 : aw_H := [(15, kex31), (16, .inr (.inl (0, 8, [], []))), (18, .inr (.inl (0, 8, [], []))), (19, .inr (.inl (0, 8, [], []))), (20, .inr (.inl (0, 4, [], []))), (21, .inr (.inl (0, 4, [], []))), (23, kex4)]
def keh33 : aw_H := [(15, kex7), (16, .inr (.inl (0, 8, [], []))), (18, .inr (.inl (0, 8, [], []))), (19, .inr (.inl (0, 8, [], []))), (20, .inr (.inl (0, 4, [], []))), (21, .inr (.inl (0, 4, [], []))), (23, kex4)]
def keh34 : aw_H := [(15, kex9), (16, .inr (.inl (0, 8, [], []))), (18, .inr (.inl (0, 8, [], []))), (19, .inr (.inl (0, 8, [], []))), (20, .inr (.inl (0, 4, [], []))), (21, .inr (.inl (0, 4, [], []))), (23, kex4)]
def keh35 : aw_H := [(15, kex11), (16, .inr (.inl (0, 8, [], []))), (18, .inr (.inl (0, 8, [], []))), (19, .inr (.inl (0, 8, [], []))), (20, .inr (.inl (0, 4, [], []))), (21, .inr (.inl (0, 4, [], []))), (23, kex4)]
def keh36 : aw_H := [(15, kex13), (16, .inr (.inl (0, 8, [], []))), (18, .inr (.inl (0, 8, [], []))), (19, .inr (.inl (0, 8, [], []))), (20, .inr (.inl (0, 4, [], []))), (21, .inr (.inl (0, 4, [], []))), (23, kex4)]
def keh37 : aw_H := [(15, kex15), (16, .inr (.inl (0, 8, [], []))), (18, .inr (.inl (0, 8, [], []))), (19, .inr (.inl (0, 8, [], []))), (20, .inr (.inl (0, 4, [], []))), (21, .inr (.inl (0, 4, [], []))), (23, kex4)]
def keh38 : aw_H := [(15, kex17), (16, .inr (.inl (0, 8, [], []))), (18, .inr (.inl (0, 8, [], []))), (19, .inr (.inl (0, 8, [], []))), (20, .inr (.inl (0, 4, [], []))), (21, .inr (.inl (0, 4, [], []))), (23, kex4)]
def keh39 : aw_H := [(15, kex19), (16, .inr (.inl (0, 8, [], []))), (18, .inr (.inl (0, 8, [], []))), (19, .inr (.inl (0, 8, [], []))), (20, .inr (.inl (0, 4, [], []))), (21, .inr (.inl (0, 4, [], []))), (23, kex4)]
def keh40 : aw_H := [(15, kex21), (16, .inr (.inl (0, 8, [], []))), (18, .inr (.inl (0, 8, [], []))), (19, .inr (.inl (0, 8, [], []))), (20, .inr (.inl (0, 4, [], []))), (21, .inr (.inl (0, 4, [], []))), (23, kex4)]
theorem kek16 : ai_chk [kec14, kec15] kec16 (fun pc => sm_ch sm_t46 pc, sm_Kn 1 6 none, fun x => sm_lk sm_ca1 x, some .int) [15, 18, 19, 23] 6 0 [4, 100] [] 2000 [(4, [(0, .inl 15), (1, .inr (false, ar_t32)), (2, .inr (false, [(0, 0)])), (3, .inr (false, [(0, 0)]))], [], keh24),
  (4, [(0, .inl 15), (1, .inr (false, ar_t32)), (2, .inr (false, ar_t32)), (3, .inr (false, [(1, 1)])), (4, .inr (false, [(-9, -9), (0, 7)]))], [], keh26),
  (4, [(0, .inl 15), (1, .inr (false, ar_t32)), (2, .inr (false, ar_t32)), (3, .inr (false, [(2, 2)])), (4, .inr (false, [(-9, -9), (0, 7)]))], [], keh28),
  (4, [(0, .inl 15), (1, .inr (false, ar_t32)), (2, .inr (false, ar_t32)), (3, .inr (false, [(3, 3)])), (4, .inr (false, [(-9, -9), (0, 7)]))], [], keh30),
  (4, [(0, .inl 15), (1, .inr (false, ar_t32)), (2, .inr (false, ar_t32)), (3, .inr (false, [(4, 4)])), (4, .inr (false, [(-9, -9), (0, 7)]))], [], keh32),
  (100, [(0, .inl 15), (1, .inr (false, ar_t32)), (2, .inr (false, ar_t32)), (3, .inr (false, [(0, 0)]))], [], keh24),
  (100, [(0, .inl 15), (1, .inr (false, ar_t32)), (2, .inr (false, ar_t32)), (3, .inr (false, [(1, 1)]))], [], keh33),
  (100, [(0, .inl 15), (1, .inr (false, ar_t32)), (2, .inr (false, ar_t32)), (3, .inr (false, [(2, 2)]))], [], keh34),
  (100, [(0, .inl 15), (1, .inr (false, ar_t32)), (2, .inr (false, ar_t32)), (3, .inr (false, [(3, 3)]))], [], keh35),
  (100, [(0, .inl 15), (1, .inr (false, ar_t32)), (2, .inr (false, ar_t32)), (3, .inr (false, [(4, 4)]))], [], keh36),
  (100, [(0, .inl 15), (1, .inr (false, ar_t32)), (2, .inr (false, ar_t32)), (3, .inr (false, [(5, 5)]))], [], keh37),
  (100, [(0, .inl 15), (1, .inr (false, ar_t32)), (2, .inr (false, ar_t32)), (3, .inr (false, [(6, 6)]))], [], keh38),
  (100, [(0, .inl 15), (1, .inr (false, ar_t32)), (2, .inr (false, ar_t32)), (3, .inr (false, [(7, 7)]))], [], keh39),
  (100, [(0, .inl 15), (1, .inr (false, ar_t32)), (2, .inr (false, ar_t32)), (3, .inr (false, [(8, 8)]))], [], keh40)] = true := by decide +kernel
/-- Register.change -/
def kec17 : ak_C := (45, [.inl 15, .inr (false, [(-2147483648, 0), (2, 2147483647)]), .inr (false, ar_t32), .inr (false, ar_t32)], keh24, [15, 18, 19, 23], [([], some (.inr (false, ar_t32)), keh23)])
theorem kek17 : ai_chk [kec16] kec17 (fun pc => sm_ch sm_t45 pc, sm_Kn 1 5 none, fun x => sm_lk sm_ca1 x, some .int) [15, 18, 19, 23] 5 0 [] [] 2000 [] = true := by decide +kernel
def kex41 : aw_A := .inl (1, [.inr (false, [(0, 8)]), .inr (false, [(0, 4)]), .inr (false, [(0, 0)]), .inr (false, [(-9, -9)]), .inr (false, [(0, 0)]), .inl 16, .inl 17, .inl 18, .inl 19, .inl 20, .inl 21, .inl 22, .inl 23])
def keh42 : aw_H := [(15, kex41), (18, .inr (.inl (0, 8, [], []))), (19, .inr (.inl (0, 8, [], []))), (23, kex4)]
/-- Register.beginAnew -/
def keh43 : aw_H := [(15, kex1), (17, .inr (.inl (0, 8, [], []))), (18, .inr (.inl (0, 8, [], []))), (19, .inr (.inl (0, 8, [], []))), (22, kex4), (23, kex4)]
def kec18 : ak_C := (22, [.inl 15], keh43, [15, 18, 19, 23], [([], none, keh42)])
def keh44 : aw_H := [(15, kex41), (17, .inr (.inl (0, 8, [], []))), (18, .inr (.inl (0, 8, [], []))), (19, .inr (.inl (0, 8, [], []))), (22, kex4), (23, kex4)]
def kex45 : aw_A := .inl (1, [.inr (false, [(1, 8)]), .inr (false, [(0, 4)]), .inr (false, [(0, 0)]), .inr (false, [(-9, -9)]), .inr (false, [(0, 0)]), .inl 16, .inl 17, .inl 18, .inl 19, .inl 20, .inl 21, .inl 22, .inl 23])
def keh46 : aw_H := [(15, kex45), (17, .inr (.inl (0, 8, [], []))), (18, .inr (.inl (0, 8, [], []))), (19, .inr (.inl (0, 8, [], []))), (22, kex4), (23, kex4)]
def kex47 : aw_A := .inl (1, [.inr (false, [(2, 8)]), .inr (false, [(0, 4)]), .inr (false, [(0, 0)]), .inr (false, [(-9, -9)]), .inr (false, [(0, 0)]), .inl 16, .inl 17, .inl 18, .inl 19, .inl 20, .inl 21, .inl 22, .inl 23])
def keh48 : aw_H := [(15, kex47), (17, .inr (.inl (0, 8, [], []))), (18, .inr (.inl (0, 8, [], []))), (19, .inr (.inl (0, 8, [], []))), (22, kex4), (23, kex4)]
def kex49 : aw_A := .inl (1, [.inr (false, [(3, 8)]), .inr (false, [(0, 4)]), .inr (false, [(0, 0)]), .inr (false, [(-9, -9)]), .inr (false, [(0, 0)]), .inl 16, .inl 17, .inl 18, .inl 19, .inl 20, .inl 21, .inl 22, .inl 23])
def keh50 : aw_H := [(15, kex49), (17, .inr (.inl (0, 8, [], []))), (18, .inr (.inl (0, 8, [], []))), (19, .inr (.inl (0, 8, [], []))), (22, kex4), (23, kex4)]
def kex51 : aw_A := .inl (1, [.inr (false, [(4, 8)]), .inr (false, [(0, 4)]), .inr (false, [(0, 0)]), .inr (false, [(-9, -9)]), .inr (false, [(0, 0)]), .inl 16, .inl 17, .inl 18, .inl 19, .inl 20, .inl 21, .inl 22, .inl 23])
def keh52 : aw_H := [(15, kex51), (17, .inr (.inl (0, 8, [], []))), (18, .inr (.inl (0, 8, [], []))), (19, .inr (.inl (0, 8, [], []))), (22, kex4), (23, kex4)]
def kex53 : aw_A := .inl (1, [.inr (false, [(5, 8)]), .inr (false, [(0, 4)]), .inr (false, [(0, 0)]), .inr (false, [(-9, -9)]), .inr (false, [(0, 0)]), .inl 16, .inl 17, .inl 18, .inl 19, .inl 20, .inl 21, .inl 22, .inl 23])
def keh54 : aw_H := [(15, kex53), (17, .inr (.inl (0, 8, [], []))), (18, .inr (.inl (0, 8, [], []))), (19, .inr (.inl (0, 8, [], []))), (22, kex4), (23, kex4)]
def kex55 : aw_A := .inl (1, [.inr (false, [(6, 8)]), .inr (false, [(0, 4)]), .inr (false, [(0, 0)]), .inr (false, [(-9, -9)]), .inr (false, [(0, 0)]), .inl 16, .inl 17, .inl 18, .inl 19, .inl 20, .inl 21, .inl 22, .inl 23])
def keh56 : aw_H := [(15, kex55), (17, .inr (.inl (0, 8, [], []))), (18, .inr (.inl (0, 8, [], []))), (19, .inr (.inl (0, 8, [], []))), (22, kex4), (23, kex4)]
def kex57 : aw_A := .inl (1, [.inr (false, [(7, 8)]), .inr (false, [(0, 4)]), .inr (false, [(0, 0)]), .inr (false, [(-9, -9)]), .inr (false, [(0, 0)]), .inl 16, .inl 17, .inl 18, .inl 19, .inl 20, .inl 21, .inl 22, .inl 23])
def keh58 : aw_H := [(15, kex57), (17, .inr (.inl (0, 8, [], []))), (18, .inr (.inl (0, 8, [], []))), (19, .inr (.inl (0, 8, [], []))), (22, kex4), (23, kex4)]
def kex59 : aw_A := .inl (1, [.inr (false, [(8, 8)]), .inr (false, [(0, 4)]), .inr (false, [(0, 0)]), .inr (false, [(-9, -9)]), .inr (false, [(0, 0)]), .inl 16, .inl 17, .inl 18, .inl 19, .inl 20, .inl 21, .inl 22, .inl 23])
def keh60 : aw_H := [(15, kex59), (17, .inr (.inl (0, 8, [], []))), (18, .inr (.inl (0, 8, [], []))), (19, .inr (.inl (0, 8, [], []))), (22, kex4), (23, kex4)]
def kex61 : aw_A := .inl (1, [.inr (false, [(0, 8)]), .inr (false, [(1, 4)]), .inr (false, [(0, 0)]), .inr (false, [(-9, -9)]), .inr (false, [(0, 0)]), .inl 16, .inl 17, .inl 18, .inl 19, .inl 20, .inl 21, .inl 22, .inl 23])
def keh62 : aw_H := [(15, kex61), (17, .inr (.inl (0, 8, [], []))), (18, .inr (.inl (0, 8, [], []))), (19, .inr (.inl (0, 8, [], []))), (22, kex4), (23, kex4)]
def kex63 : aw_A := .inl (1, [.inr (false, [(0, 8)]), .inr (false, [(2, 4)]), .inr (false, [(0, 0)]), .inr (false, [(-9, -9)]), .inr (false, [(0, 0)]), .inl 16, .inl 17, .inl 18, .inl 19, .inl 20, .inl 21, .inl 22, .inl 23])
def keh64 : aw_H := [(15, kex63), (17, .inr (.inl (0, 8, [], []))), (18, .inr (.inl (0, 8, [], []))), (19, .inr (.inl (0, 8, [], []))), (22, kex4), (23, kex4)]
def kex65 : aw_A := .inl (1, [.inr (false, [(0, 8)]), .inr (false, [(3, 4)]), .inr (false, [(0, 0)]), .inr (false, [(-9, -9)]), .inr (false, [(0, 0)]), .inl 16, .inl 17, .inl 18, .inl 19, .inl 20, .inl 21, .inl 22, .inl 23])
def keh66 : aw_H := [(15, kex65), (17, .inr (.inl (0, 8, [], []))), (18, .inr (.inl (0, 8, [], []))), (19, .inr (.inl (0, 8, [], []))), (22, kex4), (23, kex4)]
def kex67 : aw_A := .inl (1, [.inr (false, [(0, 8)]), .inr (false, [(4, 4)]), .inr (false, [(0, 0)]), .inr (false, [(-9, -9)]), .inr (false, [(0, 0)]), .inl 16, .inl 17, .inl 18, .inl 19, .inl 20, .inl 21, .inl 22, .inl 23])
def keh68 : aw_H := [(15, kex67), (17, .inr (.inl (0, 8, [], []))), (18, .inr (.inl (0, 8, [], []))), (19, .inr (.inl (0, 8, [], []))), (22, kex4), (23, kex4)]
theorem kek18 : ai_chk [] kec18 (fun pc => sm_ch sm_t22 pc, sm_Kn 1 2 none, fun x => sm_lk sm_ca1 x, none) [15, 18, 19, 23] 2 0 [18, 53] [] 2000 [(18, [(0, .inl 15), (1, .inr (false, [(0, 0)]))], [], keh44),
  (18, [(0, .inl 15), (1, .inr (false, [(1, 1)]))], [], keh46),
  (18, [(0, .inl 15), (1, .inr (false, [(2, 2)]))], [], keh48),
  (18, [(0, .inl 15), (1, .inr (false, [(3, 3)]))], [], keh50),
  (18, [(0, .inl 15), (1, .inr (false, [(4, 4)]))], [], keh52),
  (18, [(0, .inl 15), (1, .inr (false, [(5, 5)]))], [], keh54),
  (18, [(0, .inl 15), (1, .inr (false, [(6, 6)]))], [], keh56),
  (18, [(0, .inl 15), (1, .inr (false, [(7, 7)]))], [], keh58),
  (18, [(0, .inl 15), (1, .inr (false, [(8, 8)]))], [], keh60),
  (53, [(0, .inl 15), (1, .inr (false, [(0, 0)]))], [], keh44),
  (53, [(0, .inl 15), (1, .inr (false, [(1, 1)]))], [], keh62),
  (53, [(0, .inl 15), (1, .inr (false, [(2, 2)]))], [], keh64),
  (53, [(0, .inl 15), (1, .inr (false, [(3, 3)]))], [], keh66),
  (53, [(0, .inl 15), (1, .inr (false, [(4, 4)]))], [], keh68)] = true := by decide +kernel
/-- MiceRegisters.isNoRow -/
def kec19 : ak_C := (1, [.inr (false, ar_t32)], [], [], [([[(-2147483648, -1), (6, 2147483647)]], some (.inr (false, [(1, 1)])), []), ([[(0, 5)]], some (.inr (false, [(0, 0)])), [])])
theorem kek19 : ai_chk [] kec19 (fun pc => sm_ch sm_t1 pc, sm_Kn 2 1 none, fun x => sm_lk sm_ca2 x, some .boolean) [] 1 1 [] [] 2000 [] = true := by decide +kernel
def kex69 : aw_A := .inl (2, [.inl 1, .inl 2, .inl 9, .inl 10, .inl 15, .inl 24, .inl 33, .inl 42, .inl 46, .inl 59, .inl 80, .inr (false, [(1, 5)]), .inr (false, ar_t32), .inr (true, ar_t64), .inr (true, ar_t64)])
def keh70 : aw_H := [(0, kex69), (80, .inr (.inl (0, 6, [], [])))]
/-- MiceRegisters.refuseBy -/
def kex71 : aw_A := .inl (2, [.inl 1, .inl 2, .inl 9, .inl 10, .inl 15, .inl 24, .inl 33, .inl 42, .inl 46, .inl 59, .inl 80, .inr (false, ar_t32), .inr (false, ar_t32), .inr (true, ar_t64), .inr (true, ar_t64)])
def keh72 : aw_H := [(0, kex71), (80, .inr (.inl (0, 6, [], [])))]
def kec20 : ak_C := (2, [.inl 0, .inr (false, [(1, 5)])], keh72, [0, 80], [([], some (.inr (false, [(-3, -3)])), keh70)])
theorem kek20 : ai_chk [] kec20 (fun pc => sm_ch sm_t2 pc, sm_Kn 2 2 none, fun x => sm_lk sm_ca2 x, some .int) [0, 80] 2 0 [] [] 2000 [] = true := by decide +kernel
theorem keo10 {Psi : List va_E → Prop} (hP : ∀ (h : List va_E) (a : Nat) (e : va_E), a ∉ ai_pc → Psi h → Psi (h.set a e)) : ak_ok Psi (sm_Ex 200 sm_ML sm_B 1) kec10 := ai_ok (d := 0) rfl rfl rfl hP ak_nil kek10
theorem keo11 {Psi : List va_E → Prop} (hP : ∀ (h : List va_E) (a : Nat) (e : va_E), a ∉ ai_pc → Psi h → Psi (h.set a e)) : ak_ok Psi (sm_Ex 200 sm_ML sm_B 1) kec11 := ai_ok (d := 0) rfl rfl rfl hP ak_nil kek11
theorem keo12 {Psi : List va_E → Prop} (hP : ∀ (h : List va_E) (a : Nat) (e : va_E), a ∉ ai_pc → Psi h → Psi (h.set a e)) : ak_ok Psi (sm_Ex 200 sm_ML sm_B 1) kec12 := ai_ok (d := 0) rfl rfl rfl hP ak_nil kek12
theorem keo13 {Psi : List va_E → Prop} (hP : ∀ (h : List va_E) (a : Nat) (e : va_E), a ∉ ai_pc → Psi h → Psi (h.set a e)) : ak_ok Psi (sm_Ex 200 sm_ML sm_B 1) kec13 := ai_ok (d := 0) rfl rfl rfl hP ak_nil kek13
theorem keo14 {Psi : List va_E → Prop} (hP : ∀ (h : List va_E) (a : Nat) (e : va_E), a ∉ ai_pc → Psi h → Psi (h.set a e)) : ak_ok Psi (sm_Ex 200 sm_ML sm_B 2) kec14 := ai_ok (d := 1) rfl rfl rfl hP (ak_cons (ak_ok_le 1 (by decide) (keo11 hP)) (ak_cons (ak_ok_le 1 (by decide) (keo12 hP)) (ak_cons (ak_ok_le 1 (by decide) (keo13 hP)) ak_nil))) kek14
theorem keo15 {Psi : List va_E → Prop} (hP : ∀ (h : List va_E) (a : Nat) (e : va_E), a ∉ ai_pc → Psi h → Psi (h.set a e)) : ak_ok Psi (sm_Ex 200 sm_ML sm_B 1) kec15 := ai_ok (d := 0) rfl rfl rfl hP ak_nil kek15
theorem keo16 {Psi : List va_E → Prop} (hP : ∀ (h : List va_E) (a : Nat) (e : va_E), a ∉ ai_pc → Psi h → Psi (h.set a e)) : ak_ok Psi (sm_Ex 200 sm_ML sm_B 3) kec16 := ai_ok (d := 2) rfl rfl rfl hP (ak_cons (ak_ok_le 2 (by decide) (keo14 hP)) (ak_cons (ak_ok_le 2 (by decide) (keo15 hP)) ak_nil)) kek16
theorem keo17 {Psi : List va_E → Prop} (hP : ∀ (h : List va_E) (a : Nat) (e : va_E), a ∉ ai_pc → Psi h → Psi (h.set a e)) : ak_ok Psi (sm_Ex 200 sm_ML sm_B 4) kec17 := ai_ok (d := 3) rfl rfl rfl hP (ak_cons (ak_ok_le 3 (by decide) (keo16 hP)) ak_nil) kek17
theorem keo18 {Psi : List va_E → Prop} (hP : ∀ (h : List va_E) (a : Nat) (e : va_E), a ∉ ai_pc → Psi h → Psi (h.set a e)) : ak_ok Psi (sm_Ex 200 sm_ML sm_B 1) kec18 := ai_ok (d := 0) rfl rfl rfl hP ak_nil kek18
theorem keo19 {Psi : List va_E → Prop} (hP : ∀ (h : List va_E) (a : Nat) (e : va_E), a ∉ ai_pc → Psi h → Psi (h.set a e)) : ak_ok Psi (sm_Ex 200 sm_ML sm_B 1) kec19 := ai_ok (d := 0) rfl rfl rfl hP ak_nil kek19
theorem keo20 {Psi : List va_E → Prop} (hP : ∀ (h : List va_E) (a : Nat) (e : va_E), a ∉ ai_pc → Psi h → Psi (h.set a e)) : ak_ok Psi (sm_Ex 200 sm_ML sm_B 1) kec20 := ai_ok (d := 0) rfl rfl rfl hP ak_nil kek20

