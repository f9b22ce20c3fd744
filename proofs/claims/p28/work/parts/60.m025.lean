/-! Contracts over ranges of the reference, and their checks; printed by a program of mine. -/
/-- MiceRegistersModel.byLot -/
def mbc25 : ak_C := (189, [.inl 81, .inr (true, [(0, 2147483646)])], mbh362, [82], [([], none, mbh359)])
theorem mbk25 : ai_chk [mbc24] mbc25 (fun pc => sm_ch sm_t189 pc, sm_Kn 3 6 none, fun x => sm_lk sm_ca3 x, none) [82] 6 0 [] [] 2000 [] = true := by decide +kernel
def mbh381 : aw_H := [(82, ms_r [(0, [(0, 37)])])]
/-- MiceRegistersModel.keepPast -/
def mbh382 : aw_H := [(81, mbx1), (82, ms_r [(0, [(-1, 36)])])]
def mbc20 : ak_C := (149, [.inl 81], mbh382, [82], [([], none, mbh381)])
def mbh383 : aw_H := [(82, ms_r [(0, [(0, 37)]), (12, ar_t32)])]
/-- MiceRegistersModel.passes -/
def mbh384 : aw_H := [(81, mbx1), (82, ms_r [(0, [(0, 37)])]), (83, .inr (.inl (0, 8, [], []))), (85, .inr (.inl (0, 4, [], []))), (86, .inr (.inl (0, 4, [], [])))]
def mbc21 : ak_C := (150, [.inl 81, .inr (false, [(0, 0)]), .inr (false, ar_t32)], mbh384, [82], [([], some (.inr (false, ar_t32)), mbh383)])
def czmb21x0 : aw_A := ms_o [(1, 8)] [(1, 4)] ar_t32 ar_t32 [(0, 180)] [(0, 60)] [(-1, 60)] [(0, 8)] [(0, 4)]
def czmb21h1 : aw_H := [(81, czmb21x0), (82, ms_r [(0, [(0, 37)])]), (83, .inr (.inl (0, 8, [], []))), (85, .inr (.inl (0, 4, [], []))), (86, .inr (.inl (0, 4, [], [])))]
set_option maxRecDepth 100000 in
theorem mbk21 : ai_ch2 [mbc5, mbc9, mbc10] mbc21 (fun pc => sm_ch sm_t150 pc, sm_Kn 3 7 none, fun x => sm_lk sm_ca3 x, some .int) [82] 7 0 [5, 130] [] 2000 [.inr (4, false, [((5, [(0, .inl 81), (1, .inr (false, [(0, 0)])), (2, .inr (false, ar_t32)), (3, .inr (false, ar_t32)), (4, .inr (false, [(0, 4)]))], [], czmb21h1), none)]),
  .inr (4, false, [((130, [(0, .inl 81), (1, .inr (false, [(0, 0)])), (2, .inr (false, ar_t32)), (3, .inr (false, ar_t32)), (4, .inr (false, [(0, 8)]))], [], czmb21h1), none)])] = true := by decide +kernel
/-- MiceRegistersModel.byLot -/
def mbc22 : ak_C := (189, [.inl 81, .inr (true, [(0, 2147483646)])], mbh384, [82], [([], none, mbh381)])
theorem mbk22 : ai_chk [mbc21] mbc22 (fun pc => sm_ch sm_t189 pc, sm_Kn 3 6 none, fun x => sm_lk sm_ca3 x, none) [82] 6 0 [] [] 2000 [] = true := by decide +kernel
def mbh403 : aw_H := [(82, ms_r [(0, [(0, 38)])])]
/-- MiceRegistersModel.keepPast -/
def mbh404 : aw_H := [(81, mbx1), (82, ms_r [(0, [(-1, 37)])])]
def mbc17 : ak_C := (149, [.inl 81], mbh404, [82], [([], none, mbh403)])
def mbh405 : aw_H := [(82, ms_r [(0, [(0, 38)]), (12, ar_t32)])]
/-- MiceRegistersModel.passes -/
def mbh406 : aw_H := [(81, mbx1), (82, ms_r [(0, [(0, 38)])]), (83, .inr (.inl (0, 8, [], []))), (85, .inr (.inl (0, 4, [], []))), (86, .inr (.inl (0, 4, [], [])))]
def mbc18 : ak_C := (150, [.inl 81, .inr (false, [(0, 0)]), .inr (false, ar_t32)], mbh406, [82], [([], some (.inr (false, ar_t32)), mbh405)])
def czmb18x0 : aw_A := ms_o [(1, 8)] [(1, 4)] ar_t32 ar_t32 [(0, 180)] [(0, 60)] [(-1, 60)] [(0, 8)] [(0, 4)]
def czmb18h1 : aw_H := [(81, czmb18x0), (82, ms_r [(0, [(0, 38)])]), (83, .inr (.inl (0, 8, [], []))), (85, .inr (.inl (0, 4, [], []))), (86, .inr (.inl (0, 4, [], [])))]
set_option maxRecDepth 100000 in
theorem mbk18 : ai_ch2 [mbc5, mbc9, mbc10] mbc18 (fun pc => sm_ch sm_t150 pc, sm_Kn 3 7 none, fun x => sm_lk sm_ca3 x, some .int) [82] 7 0 [5, 130] [] 2000 [.inr (4, false, [((5, [(0, .inl 81), (1, .inr (false, [(0, 0)])), (2, .inr (false, ar_t32)), (3, .inr (false, ar_t32)), (4, .inr (false, [(0, 4)]))], [], czmb18h1), none)]),
  .inr (4, false, [((130, [(0, .inl 81), (1, .inr (false, [(0, 0)])), (2, .inr (false, ar_t32)), (3, .inr (false, ar_t32)), (4, .inr (false, [(0, 8)]))], [], czmb18h1), none)])] = true := by decide +kernel
/-- MiceRegistersModel.byLot -/
def mbc19 : ak_C := (189, [.inl 81, .inr (true, [(0, 2147483646)])], mbh406, [82], [([], none, mbh403)])
theorem mbk19 : ai_chk [mbc18] mbc19 (fun pc => sm_ch sm_t189 pc, sm_Kn 3 6 none, fun x => sm_lk sm_ca3 x, none) [82] 6 0 [] [] 2000 [] = true := by decide +kernel
def mbh425 : aw_H := [(82, ms_r [(0, [(0, 39)])])]
/-- MiceRegistersModel.keepPast -/
def mbh426 : aw_H := [(81, mbx1), (82, ms_r [(0, [(-1, 38)])])]
def mbc14 : ak_C := (149, [.inl 81], mbh426, [82], [([], none, mbh425)])
def mbh427 : aw_H := [(82, ms_r [(0, [(0, 39)]), (12, ar_t32)])]
/-- MiceRegistersModel.passes -/
def mbh428 : aw_H := [(81, mbx1), (82, ms_r [(0, [(0, 39)])]), (83, .inr (.inl (0, 8, [], []))), (85, .inr (.inl (0, 4, [], []))), (86, .inr (.inl (0, 4, [], [])))]
def mbc15 : ak_C := (150, [.inl 81, .inr (false, [(0, 0)]), .inr (false, ar_t32)], mbh428, [82], [([], some (.inr (false, ar_t32)), mbh427)])
def czmb15x0 : aw_A := ms_o [(1, 8)] [(1, 4)] ar_t32 ar_t32 [(0, 180)] [(0, 60)] [(-1, 60)] [(0, 8)] [(0, 4)]
def czmb15h1 : aw_H := [(81, czmb15x0), (82, ms_r [(0, [(0, 39)])]), (83, .inr (.inl (0, 8, [], []))), (85, .inr (.inl (0, 4, [], []))), (86, .inr (.inl (0, 4, [], [])))]
set_option maxRecDepth 100000 in
theorem mbk15 : ai_ch2 [mbc5, mbc9, mbc10] mbc15 (fun pc => sm_ch sm_t150 pc, sm_Kn 3 7 none, fun x => sm_lk sm_ca3 x, some .int) [82] 7 0 [5, 130] [] 2000 [.inr (4, false, [((5, [(0, .inl 81), (1, .inr (false, [(0, 0)])), (2, .inr (false, ar_t32)), (3, .inr (false, ar_t32)), (4, .inr (false, [(0, 4)]))], [], czmb15h1), none)]),
  .inr (4, false, [((130, [(0, .inl 81), (1, .inr (false, [(0, 0)])), (2, .inr (false, ar_t32)), (3, .inr (false, ar_t32)), (4, .inr (false, [(0, 8)]))], [], czmb15h1), none)])] = true := by decide +kernel
/-- MiceRegistersModel.byLot -/
def mbc16 : ak_C := (189, [.inl 81, .inr (true, [(0, 2147483646)])], mbh428, [82], [([], none, mbh425)])
theorem mbk16 : ai_chk [mbc15] mbc16 (fun pc => sm_ch sm_t189 pc, sm_Kn 3 6 none, fun x => sm_lk sm_ca3 x, none) [82] 6 0 [] [] 2000 [] = true := by decide +kernel
def mbh447 : aw_H := [(82, ms_r [(0, [(0, 40)])])]
/-- MiceRegistersModel.keepPast -/
def mbh448 : aw_H := [(81, mbx1), (82, ms_r [(0, [(-1, 39)])])]
def mbc4 : ak_C := (149, [.inl 81], mbh448, [82], [([], none, mbh447)])
def mbh449 : aw_H := [(82, ms_r [(0, [(0, 40)]), (12, ar_t32)])]
/-- MiceRegistersModel.passes -/
def mbh450 : aw_H := [(81, mbx1), (82, ms_r [(0, [(0, 40)])]), (83, .inr (.inl (0, 8, [], []))), (85, .inr (.inl (0, 4, [], []))), (86, .inr (.inl (0, 4, [], [])))]
def mbc11 : ak_C := (150, [.inl 81, .inr (false, [(0, 0)]), .inr (false, ar_t32)], mbh450, [82], [([], some (.inr (false, ar_t32)), mbh449)])
def czmb11x0 : aw_A := ms_o [(1, 8)] [(1, 4)] ar_t32 ar_t32 [(0, 180)] [(0, 60)] [(-1, 60)] [(0, 8)] [(0, 4)]
def czmb11h1 : aw_H := [(81, czmb11x0), (82, ms_r [(0, [(0, 40)])]), (83, .inr (.inl (0, 8, [], []))), (85, .inr (.inl (0, 4, [], []))), (86, .inr (.inl (0, 4, [], [])))]
set_option maxRecDepth 100000 in
theorem mbk11 : ai_ch2 [mbc5, mbc9, mbc10] mbc11 (fun pc => sm_ch sm_t150 pc, sm_Kn 3 7 none, fun x => sm_lk sm_ca3 x, some .int) [82] 7 0 [5, 130] [] 2000 [.inr (4, false, [((5, [(0, .inl 81), (1, .inr (false, [(0, 0)])), (2, .inr (false, ar_t32)), (3, .inr (false, ar_t32)), (4, .inr (false, [(0, 4)]))], [], czmb11h1), none)]),
  .inr (4, false, [((130, [(0, .inl 81), (1, .inr (false, [(0, 0)])), (2, .inr (false, ar_t32)), (3, .inr (false, ar_t32)), (4, .inr (false, [(0, 8)]))], [], czmb11h1), none)])] = true := by decide +kernel
/-- MiceRegistersModel.byLot -/
def mbc12 : ak_C := (189, [.inl 81, .inr (true, [(0, 2147483646)])], mbh450, [82], [([], none, mbh447)])
theorem mbk12 : ai_chk [mbc11] mbc12 (fun pc => sm_ch sm_t189 pc, sm_Kn 3 6 none, fun x => sm_lk sm_ca3 x, none) [82] 6 0 [] [] 2000 [] = true := by decide +kernel
/-- MiceRegistersModel.leftIn -/
def mbc13 : ak_C := (168, [.inl 81, .inr (false, [(0, 0)])], mbh3, [], [([], some (.inr (false, ar_t32)), [])])
def mbh469 : aw_H := [(81, mbx6), (82, ms_r [(0, [(-1, 40)])])]
def mbh470 : aw_H := [(81, mbx9), (82, ms_r [(0, [(-1, 40)])])]
def mbh471 : aw_H := [(81, mbx12), (82, ms_r [(0, [(-1, 40)])])]
def mbh472 : aw_H := [(81, mbx15), (82, ms_r [(0, [(-1, 40)])])]
def mbh473 : aw_H := [(81, mbx18), (82, ms_r [(0, [(-1, 40)])])]
def mbh474 : aw_H := [(81, mbx21), (82, ms_r [(0, [(-1, 40)])])]
def mbh475 : aw_H := [(81, mbx24), (82, ms_r [(0, [(-1, 40)])])]
theorem mbk13 : ai_chk [] mbc13 (fun pc => sm_ch sm_t168 pc, sm_Kn 3 4 none, fun x => sm_lk sm_ca3 x, some .int) [] 4 0 [4] [] 2000 [(4, [(0, .inl 81), (1, .inr (false, [(0, 0)])), (2, .inr (false, [(0, 0)])), (3, .inr (false, [(0, 0)]))], [], mbh3),
  (4, [(0, .inl 81), (1, .inr (false, [(0, 0)])), (2, .inr (false, ar_t32)), (3, .inr (false, [(1, 1)]))], [], mbh3),
  (4, [(0, .inl 81), (1, .inr (false, [(0, 0)])), (2, .inr (false, ar_t32)), (3, .inr (false, [(2, 2)]))], [], mbh469),
  (4, [(0, .inl 81), (1, .inr (false, [(0, 0)])), (2, .inr (false, ar_t32)), (3, .inr (false, [(3, 3)]))], [], mbh470),
  (4, [(0, .inl 81), (1, .inr (false, [(0, 0)])), (2, .inr (false, ar_t32)), (3, .inr (false, [(4, 4)]))], [], mbh471),
  (4, [(0, .inl 81), (1, .inr (false, [(0, 0)])), (2, .inr (false, ar_t32)), (3, .inr (false, [(5, 5)]))], [], mbh472),
  (4, [(0, .inl 81), (1, .inr (false, [(0, 0)])), (2, .inr (false, ar_t32)), (3, .inr (false, [(6, 6)]))], [], mbh473),
  (4, [(0, .inl 81), (1, .inr (false, [(0, 0)])), (2, .inr (false, ar_t32)), (3, .inr (false, [(7, 7)]))], [], mbh474),
  (4, [(0, .inl 81), (1, .inr (false, [(0, 0)])), (2, .inr (false, ar_t32)), (3, .inr (false, [(8, 8)]))], [], mbh475)] = true := by decide +kernel
def mbh476 : aw_H := [(82, ms_r [(0, [(-1, 40)])])]
def mbh477 : aw_H := [(82, ms_r [(0, [(21, 40)])])]
/-- MiceRegistersModel.lots -/
def mbh478 : aw_H := [(81, mbx1), (82, ms_r [(0, [(-1, 40)])]), (83, .inr (.inl (0, 8, [], []))), (85, .inr (.inl (0, 4, [], []))), (86, .inr (.inl (0, 4, [], [])))]
def mbc71 : ak_C := (188, [.inl 81, .inr (false, ar_t32), .inr (false, ar_t32)], mbh478, [82], [([[], [], []], some (.inr (false, [(-1, -1)])), mbh476), ([[], [(1, 20)], [(1, 2147483646)]], some (.inr (false, [(-2, -2)])), mbh477), ([[], [(1, 20)], [(1, 2147483646)]], some (.inr (false, ar_t32)), mbh447)])
def mbb71 : sm_P := (fun pc => sm_ch sm_t188 pc, sm_Kn 3 6 none, fun x => sm_lk sm_ca3 x, some .int)
def czmb71x0 : aw_A := ms_o [(1, 8)] [(1, 4)] ar_t32 ar_t32 [(0, 180)] [(0, 60)] [(-1, 60)] [(0, 8)] [(0, 4)]
def czmb71h1 : aw_H := [(81, czmb71x0), (82, ms_r [(0, [(-1, 20)])]), (83, .inr (.inl (0, 8, [], []))), (85, .inr (.inl (0, 4, [], []))), (86, .inr (.inl (0, 4, [], [])))]
def czmb71h2 : aw_H := [(81, czmb71x0), (82, ms_r [(0, [(0, 21)])]), (83, .inr (.inl (0, 8, [], []))), (85, .inr (.inl (0, 4, [], []))), (86, .inr (.inl (0, 4, [], [])))]
def czmb71h3 : aw_H := [(81, czmb71x0), (82, ms_r [(0, [(0, 22)])]), (83, .inr (.inl (0, 8, [], []))), (85, .inr (.inl (0, 4, [], []))), (86, .inr (.inl (0, 4, [], [])))]
def czmb71h4 : aw_H := [(81, czmb71x0), (82, ms_r [(0, [(0, 23)])]), (83, .inr (.inl (0, 8, [], []))), (85, .inr (.inl (0, 4, [], []))), (86, .inr (.inl (0, 4, [], [])))]
def czmb71h5 : aw_H := [(81, czmb71x0), (82, ms_r [(0, [(0, 24)])]), (83, .inr (.inl (0, 8, [], []))), (85, .inr (.inl (0, 4, [], []))), (86, .inr (.inl (0, 4, [], [])))]
def czmb71h6 : aw_H := [(81, czmb71x0), (82, ms_r [(0, [(0, 25)])]), (83, .inr (.inl (0, 8, [], []))), (85, .inr (.inl (0, 4, [], []))), (86, .inr (.inl (0, 4, [], [])))]
def czmb71h7 : aw_H := [(81, czmb71x0), (82, ms_r [(0, [(0, 26)])]), (83, .inr (.inl (0, 8, [], []))), (85, .inr (.inl (0, 4, [], []))), (86, .inr (.inl (0, 4, [], [])))]
def czmb71h8 : aw_H := [(81, czmb71x0), (82, ms_r [(0, [(0, 27)])]), (83, .inr (.inl (0, 8, [], []))), (85, .inr (.inl (0, 4, [], []))), (86, .inr (.inl (0, 4, [], [])))]
def czmb71h9 : aw_H := [(81, czmb71x0), (82, ms_r [(0, [(0, 28)])]), (83, .inr (.inl (0, 8, [], []))), (85, .inr (.inl (0, 4, [], []))), (86, .inr (.inl (0, 4, [], [])))]
def czmb71h10 : aw_H := [(81, czmb71x0), (82, ms_r [(0, [(0, 29)])]), (83, .inr (.inl (0, 8, [], []))), (85, .inr (.inl (0, 4, [], []))), (86, .inr (.inl (0, 4, [], [])))]
def czmb71h11 : aw_H := [(81, czmb71x0), (82, ms_r [(0, [(0, 30)])]), (83, .inr (.inl (0, 8, [], []))), (85, .inr (.inl (0, 4, [], []))), (86, .inr (.inl (0, 4, [], [])))]
def czmb71h12 : aw_H := [(81, czmb71x0), (82, ms_r [(0, [(0, 31)])]), (83, .inr (.inl (0, 8, [], []))), (85, .inr (.inl (0, 4, [], []))), (86, .inr (.inl (0, 4, [], [])))]
def czmb71h13 : aw_H := [(81, czmb71x0), (82, ms_r [(0, [(0, 32)])]), (83, .inr (.inl (0, 8, [], []))), (85, .inr (.inl (0, 4, [], []))), (86, .inr (.inl (0, 4, [], [])))]
def czmb71h14 : aw_H := [(81, czmb71x0), (82, ms_r [(0, [(0, 33)])]), (83, .inr (.inl (0, 8, [], []))), (85, .inr (.inl (0, 4, [], []))), (86, .inr (.inl (0, 4, [], [])))]
def czmb71h15 : aw_H := [(81, czmb71x0), (82, ms_r [(0, [(0, 34)])]), (83, .inr (.inl (0, 8, [], []))), (85, .inr (.inl (0, 4, [], []))), (86, .inr (.inl (0, 4, [], [])))]
def czmb71h16 : aw_H := [(81, czmb71x0), (82, ms_r [(0, [(0, 35)])]), (83, .inr (.inl (0, 8, [], []))), (85, .inr (.inl (0, 4, [], []))), (86, .inr (.inl (0, 4, [], [])))]
def czmb71h17 : aw_H := [(81, czmb71x0), (82, ms_r [(0, [(0, 36)])]), (83, .inr (.inl (0, 8, [], []))), (85, .inr (.inl (0, 4, [], []))), (86, .inr (.inl (0, 4, [], [])))]
def czmb71h18 : aw_H := [(81, czmb71x0), (82, ms_r [(0, [(0, 37)])]), (83, .inr (.inl (0, 8, [], []))), (85, .inr (.inl (0, 4, [], []))), (86, .inr (.inl (0, 4, [], [])))]
def czmb71h19 : aw_H := [(81, czmb71x0), (82, ms_r [(0, [(0, 38)])]), (83, .inr (.inl (0, 8, [], []))), (85, .inr (.inl (0, 4, [], []))), (86, .inr (.inl (0, 4, [], [])))]
def czmb71h20 : aw_H := [(81, czmb71x0), (82, ms_r [(0, [(0, 39)])]), (83, .inr (.inl (0, 8, [], []))), (85, .inr (.inl (0, 4, [], []))), (86, .inr (.inl (0, 4, [], [])))]
def czmb71h21 : aw_H := [(81, czmb71x0), (82, ms_r [(0, [(0, 40)])]), (83, .inr (.inl (0, 8, [], []))), (85, .inr (.inl (0, 4, [], []))), (86, .inr (.inl (0, 4, [], [])))]
def czmb71h22 : aw_H := [(81, czmb71x0), (82, ms_r [(0, [(-1, 21)])]), (83, .inr (.inl (0, 8, [], []))), (85, .inr (.inl (0, 4, [], []))), (86, .inr (.inl (0, 4, [], [])))]
def czmb71h23 : aw_H := [(81, czmb71x0), (82, ms_r [(0, [(-1, 22)])]), (83, .inr (.inl (0, 8, [], []))), (85, .inr (.inl (0, 4, [], []))), (86, .inr (.inl (0, 4, [], [])))]
def czmb71h24 : aw_H := [(81, czmb71x0), (82, ms_r [(0, [(-1, 23)])]), (83, .inr (.inl (0, 8, [], []))), (85, .inr (.inl (0, 4, [], []))), (86, .inr (.inl (0, 4, [], [])))]
def czmb71h25 : aw_H := [(81, czmb71x0), (82, ms_r [(0, [(-1, 24)])]), (83, .inr (.inl (0, 8, [], []))), (85, .inr (.inl (0, 4, [], []))), (86, .inr (.inl (0, 4, [], [])))]
def czmb71h26 : aw_H := [(81, czmb71x0), (82, ms_r [(0, [(-1, 25)])]), (83, .inr (.inl (0, 8, [], []))), (85, .inr (.inl (0, 4, [], []))), (86, .inr (.inl (0, 4, [], [])))]
def czmb71h27 : aw_H := [(81, czmb71x0), (82, ms_r [(0, [(-1, 26)])]), (83, .inr (.inl (0, 8, [], []))), (85, .inr (.inl (0, 4, [], []))), (86, .inr (.inl (0, 4, [], [])))]
def czmb71h28 : aw_H := [(81, czmb71x0), (82, ms_r [(0, [(-1, 27)])]), (83, .inr (.inl (0, 8, [], []))), (85, .inr (.inl (0, 4, [], []))), (86, .inr (.inl (0, 4, [], [])))]
def czmb71h29 : aw_H := [(81, czmb71x0), (82, ms_r [(0, [(-1, 28)])]), (83, .inr (.inl (0, 8, [], []))), (85, .inr (.inl (0, 4, [], []))), (86, .inr (.inl (0, 4, [], [])))]
def czmb71h30 : aw_H := [(81, czmb71x0), (82, ms_r [(0, [(-1, 29)])]), (83, .inr (.inl (0, 8, [], []))), (85, .inr (.inl (0, 4, [], []))), (86, .inr (.inl (0, 4, [], [])))]
def czmb71h31 : aw_H := [(81, czmb71x0), (82, ms_r [(0, [(-1, 30)])]), (83, .inr (.inl (0, 8, [], []))), (85, .inr (.inl (0, 4, [], []))), (86, .inr (.inl (0, 4, [], [])))]
def czmb71h32 : aw_H := [(81, czmb71x0), (82, ms_r [(0, [(-1, 31)])]), (83, .inr (.inl (0, 8, [], []))), (85, .inr (.inl (0, 4, [], []))), (86, .inr (.inl (0, 4, [], [])))]
def czmb71h33 : aw_H := [(81, czmb71x0), (82, ms_r [(0, [(-1, 32)])]), (83, .inr (.inl (0, 8, [], []))), (85, .inr (.inl (0, 4, [], []))), (86, .inr (.inl (0, 4, [], [])))]
def czmb71h34 : aw_H := [(81, czmb71x0), (82, ms_r [(0, [(-1, 33)])]), (83, .inr (.inl (0, 8, [], []))), (85, .inr (.inl (0, 4, [], []))), (86, .inr (.inl (0, 4, [], [])))]
def czmb71h35 : aw_H := [(81, czmb71x0), (82, ms_r [(0, [(-1, 34)])]), (83, .inr (.inl (0, 8, [], []))), (85, .inr (.inl (0, 4, [], []))), (86, .inr (.inl (0, 4, [], [])))]
def czmb71h36 : aw_H := [(81, czmb71x0), (82, ms_r [(0, [(-1, 35)])]), (83, .inr (.inl (0, 8, [], []))), (85, .inr (.inl (0, 4, [], []))), (86, .inr (.inl (0, 4, [], [])))]
def czmb71h37 : aw_H := [(81, czmb71x0), (82, ms_r [(0, [(-1, 36)])]), (83, .inr (.inl (0, 8, [], []))), (85, .inr (.inl (0, 4, [], []))), (86, .inr (.inl (0, 4, [], [])))]
def czmb71h38 : aw_H := [(81, czmb71x0), (82, ms_r [(0, [(-1, 37)])]), (83, .inr (.inl (0, 8, [], []))), (85, .inr (.inl (0, 4, [], []))), (86, .inr (.inl (0, 4, [], [])))]
def czmb71h39 : aw_H := [(81, czmb71x0), (82, ms_r [(0, [(-1, 38)])]), (83, .inr (.inl (0, 8, [], []))), (85, .inr (.inl (0, 4, [], []))), (86, .inr (.inl (0, 4, [], [])))]
def czmb71h40 : aw_H := [(81, czmb71x0), (82, ms_r [(0, [(-1, 39)])]), (83, .inr (.inl (0, 8, [], []))), (85, .inr (.inl (0, 4, [], []))), (86, .inr (.inl (0, 4, [], [])))]
set_option maxRecDepth 100000 in
theorem mbk71 : ai_ch2 [mbc2, mbc3, mbc68, mbc70, mbc65, mbc67, mbc62, mbc64, mbc59, mbc61, mbc56, mbc58, mbc53, mbc55, mbc50, mbc52, mbc47, mbc49, mbc44, mbc46, mbc41, mbc43, mbc38, mbc40, mbc35, mbc37, mbc32, mbc34, mbc29, mbc31, mbc26, mbc28, mbc23, mbc25, mbc20, mbc22, mbc17, mbc19, mbc14, mbc16, mbc4, mbc12, mbc13] mbc71 mbb71 [82] 6 3 [58] [(36, some (2, 82, 0), 21, 20), (42, some (0, 1, 0), 1, 20)] 2000 [.inl (58, [(0, .inl 81), (1, .inr (false, [(20, 20)])), (2, .inr (false, [(1, 2147483646)])), (3, .inr (true, [(1, 2147483646)])), (5, .inr (false, [(0, 0)]))], [], czmb71h1),
  .inl (58, [(0, .inl 81), (1, .inr (false, [(20, 20)])), (2, .inr (false, [(1, 2147483646)])), (3, .inr (true, [(0, 2147483646)])), (5, .inr (false, [(1, 1)]))], [], czmb71h2),
  .inl (58, [(0, .inl 81), (1, .inr (false, [(20, 20)])), (2, .inr (false, [(1, 2147483646)])), (3, .inr (true, [(0, 2147483646)])), (5, .inr (false, [(2, 2)]))], [], czmb71h3),
  .inl (58, [(0, .inl 81), (1, .inr (false, [(20, 20)])), (2, .inr (false, [(1, 2147483646)])), (3, .inr (true, [(0, 2147483646)])), (5, .inr (false, [(3, 3)]))], [], czmb71h4),
  .inl (58, [(0, .inl 81), (1, .inr (false, [(20, 20)])), (2, .inr (false, [(1, 2147483646)])), (3, .inr (true, [(0, 2147483646)])), (5, .inr (false, [(4, 4)]))], [], czmb71h5),
  .inl (58, [(0, .inl 81), (1, .inr (false, [(20, 20)])), (2, .inr (false, [(1, 2147483646)])), (3, .inr (true, [(0, 2147483646)])), (5, .inr (false, [(5, 5)]))], [], czmb71h6),
  .inl (58, [(0, .inl 81), (1, .inr (false, [(20, 20)])), (2, .inr (false, [(1, 2147483646)])), (3, .inr (true, [(0, 2147483646)])), (5, .inr (false, [(6, 6)]))], [], czmb71h7),
  .inl (58, [(0, .inl 81), (1, .inr (false, [(20, 20)])), (2, .inr (false, [(1, 2147483646)])), (3, .inr (true, [(0, 2147483646)])), (5, .inr (false, [(7, 7)]))], [], czmb71h8),
  .inl (58, [(0, .inl 81), (1, .inr (false, [(20, 20)])), (2, .inr (false, [(1, 2147483646)])), (3, .inr (true, [(0, 2147483646)])), (5, .inr (false, [(8, 8)]))], [], czmb71h9),
  .inl (58, [(0, .inl 81), (1, .inr (false, [(20, 20)])), (2, .inr (false, [(1, 2147483646)])), (3, .inr (true, [(0, 2147483646)])), (5, .inr (false, [(9, 9)]))], [], czmb71h10),
  .inl (58, [(0, .inl 81), (1, .inr (false, [(20, 20)])), (2, .inr (false, [(1, 2147483646)])), (3, .inr (true, [(0, 2147483646)])), (5, .inr (false, [(10, 10)]))], [], czmb71h11),
  .inl (58, [(0, .inl 81), (1, .inr (false, [(20, 20)])), (2, .inr (false, [(1, 2147483646)])), (3, .inr (true, [(0, 2147483646)])), (5, .inr (false, [(11, 11)]))], [], czmb71h12),
  .inl (58, [(0, .inl 81), (1, .inr (false, [(20, 20)])), (2, .inr (false, [(1, 2147483646)])), (3, .inr (true, [(0, 2147483646)])), (5, .inr (false, [(12, 12)]))], [], czmb71h13),
  .inl (58, [(0, .inl 81), (1, .inr (false, [(20, 20)])), (2, .inr (false, [(1, 2147483646)])), (3, .inr (true, [(0, 2147483646)])), (5, .inr (false, [(13, 13)]))], [], czmb71h14),
  .inl (58, [(0, .inl 81), (1, .inr (false, [(20, 20)])), (2, .inr (false, [(1, 2147483646)])), (3, .inr (true, [(0, 2147483646)])), (5, .inr (false, [(14, 14)]))], [], czmb71h15),
  .inl (58, [(0, .inl 81), (1, .inr (false, [(20, 20)])), (2, .inr (false, [(1, 2147483646)])), (3, .inr (true, [(0, 2147483646)])), (5, .inr (false, [(15, 15)]))], [], czmb71h16),
  .inl (58, [(0, .inl 81), (1, .inr (false, [(20, 20)])), (2, .inr (false, [(1, 2147483646)])), (3, .inr (true, [(0, 2147483646)])), (5, .inr (false, [(16, 16)]))], [], czmb71h17),
  .inl (58, [(0, .inl 81), (1, .inr (false, [(20, 20)])), (2, .inr (false, [(1, 2147483646)])), (3, .inr (true, [(0, 2147483646)])), (5, .inr (false, [(17, 17)]))], [], czmb71h18),
  .inl (58, [(0, .inl 81), (1, .inr (false, [(20, 20)])), (2, .inr (false, [(1, 2147483646)])), (3, .inr (true, [(0, 2147483646)])), (5, .inr (false, [(18, 18)]))], [], czmb71h19),
  .inl (58, [(0, .inl 81), (1, .inr (false, [(20, 20)])), (2, .inr (false, [(1, 2147483646)])), (3, .inr (true, [(0, 2147483646)])), (5, .inr (false, [(19, 19)]))], [], czmb71h20),
  .inl (58, [(0, .inl 81), (1, .inr (false, [(20, 20)])), (2, .inr (false, [(1, 2147483646)])), (3, .inr (true, [(0, 2147483646)])), (5, .inr (false, [(20, 20)]))], [], czmb71h21),
  .inl (58, [(0, .inl 81), (1, .inr (false, [(19, 19)])), (2, .inr (false, [(1, 2147483646)])), (3, .inr (true, [(1, 2147483646)])), (5, .inr (false, [(0, 0)]))], [], czmb71h22),
  .inl (58, [(0, .inl 81), (1, .inr (false, [(19, 19)])), (2, .inr (false, [(1, 2147483646)])), (3, .inr (true, [(0, 2147483646)])), (5, .inr (false, [(1, 1)]))], [], czmb71h3),
  .inl (58, [(0, .inl 81), (1, .inr (false, [(19, 19)])), (2, .inr (false, [(1, 2147483646)])), (3, .inr (true, [(0, 2147483646)])), (5, .inr (false, [(2, 2)]))], [], czmb71h4),
  .inl (58, [(0, .inl 81), (1, .inr (false, [(19, 19)])), (2, .inr (false, [(1, 2147483646)])), (3, .inr (true, [(0, 2147483646)])), (5, .inr (false, [(3, 3)]))], [], czmb71h5),
  .inl (58, [(0, .inl 81), (1, .inr (false, [(19, 19)])), (2, .inr (false, [(1, 2147483646)])), (3, .inr (true, [(0, 2147483646)])), (5, .inr (false, [(4, 4)]))], [], czmb71h6),
  .inl (58, [(0, .inl 81), (1, .inr (false, [(19, 19)])), (2, .inr (false, [(1, 2147483646)])), (3, .inr (true, [(0, 2147483646)])), (5, .inr (false, [(5, 5)]))], [], czmb71h7),
  .inl (58, [(0, .inl 81), (1, .inr (false, [(19, 19)])), (2, .inr (false, [(1, 2147483646)])), (3, .inr (true, [(0, 2147483646)])), (5, .inr (false, [(6, 6)]))], [], czmb71h8),
  .inl (58, [(0, .inl 81), (1, .inr (false, [(19, 19)])), (2, .inr (false, [(1, 2147483646)])), (3, .inr (true, [(0, 2147483646)])), (5, .inr (false, [(7, 7)]))], [], czmb71h9),
  .inl (58, [(0, .inl 81), (1, .inr (false, [(19, 19)])), (2, .inr (false, [(1, 2147483646)])), (3, .inr (true, [(0, 2147483646)])), (5, .inr (false, [(8, 8)]))], [], czmb71h10),
  .inl (58, [(0, .inl 81), (1, .inr (false, [(19, 19)])), (2, .inr (false, [(1, 2147483646)])), (3, .inr (true, [(0, 2147483646)])), (5, .inr (false, [(9, 9)]))], [], czmb71h11),
  .inl (58, [(0, .inl 81), (1, .inr (false, [(19, 19)])), (2, .inr (false, [(1, 2147483646)])), (3, .inr (true, [(0, 2147483646)])), (5, .inr (false, [(10, 10)]))], [], czmb71h12),
  .inl (58, [(0, .inl 81), (1, .inr (false, [(19, 19)])), (2, .inr (false, [(1, 2147483646)])), (3, .inr (true, [(0, 2147483646)])), (5, .inr (false, [(11, 11)]))], [], czmb71h13),
  .inl (58, [(0, .inl 81), (1, .inr (false, [(19, 19)])), (2, .inr (false, [(1, 2147483646)])), (3, .inr (true, [(0, 2147483646)])), (5, .inr (false, [(12, 12)]))], [], czmb71h14),
  .inl (58, [(0, .inl 81), (1, .inr (false, [(19, 19)])), (2, .inr (false, [(1, 2147483646)])), (3, .inr (true, [(0, 2147483646)])), (5, .inr (false, [(13, 13)]))], [], czmb71h15),
  .inl (58, [(0, .inl 81), (1, .inr (false, [(19, 19)])), (2, .inr (false, [(1, 2147483646)])), (3, .inr (true, [(0, 2147483646)])), (5, .inr (false, [(14, 14)]))], [], czmb71h16),
  .inl (58, [(0, .inl 81), (1, .inr (false, [(19, 19)])), (2, .inr (false, [(1, 2147483646)])), (3, .inr (true, [(0, 2147483646)])), (5, .inr (false, [(15, 15)]))], [], czmb71h17),
  .inl (58, [(0, .inl 81), (1, .inr (false, [(19, 19)])), (2, .inr (false, [(1, 2147483646)])), (3, .inr (true, [(0, 2147483646)])), (5, .inr (false, [(16, 16)]))], [], czmb71h18),
  .inl (58, [(0, .inl 81), (1, .inr (false, [(19, 19)])), (2, .inr (false, [(1, 2147483646)])), (3, .inr (true, [(0, 2147483646)])), (5, .inr (false, [(17, 17)]))], [], czmb71h19),
  .inl (58, [(0, .inl 81), (1, .inr (false, [(19, 19)])), (2, .inr (false, [(1, 2147483646)])), (3, .inr (true, [(0, 2147483646)])), (5, .inr (false, [(18, 18)]))], [], czmb71h20),
  .inl (58, [(0, .inl 81), (1, .inr (false, [(19, 19)])), (2, .inr (false, [(1, 2147483646)])), (3, .inr (true, [(0, 2147483646)])), (5, .inr (false, [(19, 19)]))], [], czmb71h21),
  .inl (58, [(0, .inl 81), (1, .inr (false, [(18, 18)])), (2, .inr (false, [(1, 2147483646)])), (3, .inr (true, [(1, 2147483646)])), (5, .inr (false, [(0, 0)]))], [], czmb71h23),
  .inl (58, [(0, .inl 81), (1, .inr (false, [(18, 18)])), (2, .inr (false, [(1, 2147483646)])), (3, .inr (true, [(0, 2147483646)])), (5, .inr (false, [(1, 1)]))], [], czmb71h4),
  .inl (58, [(0, .inl 81), (1, .inr (false, [(18, 18)])), (2, .inr (false, [(1, 2147483646)])), (3, .inr (true, [(0, 2147483646)])), (5, .inr (false, [(2, 2)]))], [], czmb71h5),
  .inl (58, [(0, .inl 81), (1, .inr (false, [(18, 18)])), (2, .inr (false, [(1, 2147483646)])), (3, .inr (true, [(0, 2147483646)])), (5, .inr (false, [(3, 3)]))], [], czmb71h6),
  .inl (58, [(0, .inl 81), (1, .inr (false, [(18, 18)])), (2, .inr (false, [(1, 2147483646)])), (3, .inr (true, [(0, 2147483646)])), (5, .inr (false, [(4, 4)]))], [], czmb71h7),
  .inl (58, [(0, .inl 81), (1, .inr (false, [(18, 18)])), (2, .inr (false, [(1, 2147483646)])), (3, .inr (true, [(0, 2147483646)])), (5, .inr (false, [(5, 5)]))], [], czmb71h8),
  .inl (58, [(0, .inl 81), (1, .inr (false, [(18, 18)])), (2, .inr (false, [(1, 2147483646)])), (3, .inr (true, [(0, 2147483646)])), (5, .inr (false, [(6, 6)]))], [], czmb71h9),
  .inl (58, [(0, .inl 81), (1, .inr (false, [(18, 18)])), (2, .inr (false, [(1, 2147483646)])), (3, .inr (true, [(0, 2147483646)])), (5, .inr (false, [(7, 7)]))], [], czmb71h10),
  .inl (58, [(0, .inl 81), (1, .inr (false, [(18, 18)])), (2, .inr (false, [(1, 2147483646)])), (3, .inr (true, [(0, 2147483646)])), (5, .inr (false, [(8, 8)]))], [], czmb71h11),
  .inl (58, [(0, .inl 81), (1, .inr (false, [(18, 18)])), (2, .inr (false, [(1, 2147483646)])), (3, .inr (true, [(0, 2147483646)])), (5, .inr (false, [(9, 9)]))], [], czmb71h12),
  .inl (58, [(0, .inl 81), (1, .inr (false, [(18, 18)])), (2, .inr (false, [(1, 2147483646)])), (3, .inr (true, [(0, 2147483646)])), (5, .inr (false, [(10, 10)]))], [], czmb71h13),
  .inl (58, [(0, .inl 81), (1, .inr (false, [(18, 18)])), (2, .inr (false, [(1, 2147483646)])), (3, .inr (true, [(0, 2147483646)])), (5, .inr (false, [(11, 11)]))], [], czmb71h14),
  .inl (58, [(0, .inl 81), (1, .inr (false, [(18, 18)])), (2, .inr (false, [(1, 2147483646)])), (3, .inr (true, [(0, 2147483646)])), (5, .inr (false, [(12, 12)]))], [], czmb71h15),
  .inl (58, [(0, .inl 81), (1, .inr (false, [(18, 18)])), (2, .inr (false, [(1, 2147483646)])), (3, .inr (true, [(0, 2147483646)])), (5, .inr (false, [(13, 13)]))], [], czmb71h16),
  .inl (58, [(0, .inl 81), (1, .inr (false, [(18, 18)])), (2, .inr (false, [(1, 2147483646)])), (3, .inr (true, [(0, 2147483646)])), (5, .inr (false, [(14, 14)]))], [], czmb71h17),
  .inl (58, [(0, .inl 81), (1, .inr (false, [(18, 18)])), (2, .inr (false, [(1, 2147483646)])), (3, .inr (true, [(0, 2147483646)])), (5, .inr (false, [(15, 15)]))], [], czmb71h18),
  .inl (58, [(0, .inl 81), (1, .inr (false, [(18, 18)])), (2, .inr (false, [(1, 2147483646)])), (3, .inr (true, [(0, 2147483646)])), (5, .inr (false, [(16, 16)]))], [], czmb71h19),
  .inl (58, [(0, .inl 81), (1, .inr (false, [(18, 18)])), (2, .inr (false, [(1, 2147483646)])), (3, .inr (true, [(0, 2147483646)])), (5, .inr (false, [(17, 17)]))], [], czmb71h20),
  .inl (58, [(0, .inl 81), (1, .inr (false, [(18, 18)])), (2, .inr (false, [(1, 2147483646)])), (3, .inr (true, [(0, 2147483646)])), (5, .inr (false, [(18, 18)]))], [], czmb71h21),
  .inl (58, [(0, .inl 81), (1, .inr (false, [(17, 17)])), (2, .inr (false, [(1, 2147483646)])), (3, .inr (true, [(1, 2147483646)])), (5, .inr (false, [(0, 0)]))], [], czmb71h24),
  .inl (58, [(0, .inl 81), (1, .inr (false, [(17, 17)])), (2, .inr (false, [(1, 2147483646)])), (3, .inr (true, [(0, 2147483646)])), (5, .inr (false, [(1, 1)]))], [], czmb71h5),
  .inl (58, [(0, .inl 81), (1, .inr (false, [(17, 17)])), (2, .inr (false, [(1, 2147483646)])), (3, .inr (true, [(0, 2147483646)])), (5, .inr (false, [(2, 2)]))], [], czmb71h6),
  .inl (58, [(0, .inl 81), (1, .inr (false, [(17, 17)])), (2, .inr (false, [(1, 2147483646)])), (3, .inr (true, [(0, 2147483646)])), (5, .inr (false, [(3, 3)]))], [], czmb71h7),
  .inl (58, [(0, .inl 81), (1, .inr (false, [(17, 17)])), (2, .inr (false, [(1, 2147483646)])), (3, .inr (true, [(0, 2147483646)])), (5, .inr (false, [(4, 4)]))], [], czmb71h8),
  .inl (58, [(0, .inl 81), (1, .inr (false, [(17, 17)])), (2, .inr (false, [(1, 2147483646)])), (3, .inr (true, [(0, 2147483646)])), (5, .inr (false, [(5, 5)]))], [], czmb71h9),
  .inl (58, [(0, .inl 81), (1, .inr (false, [(17, 17)])), (2, .inr (false, [(1, 2147483646)])), (3, .inr (true, [(0, 2147483646)])), (5, .inr (false, [(6, 6)]))], [], czmb71h10),
  .inl (58, [(0, .inl 81), (1, .inr (false, [(17, 17)])), (2, .inr (false, [(1, 2147483646)])), (3, .inr (true, [(0, 2147483646)])), (5, .inr (false, [(7, 7)]))], [], czmb71h11),
  .inl (58, [(0, .inl 81), (1, .inr (false, [(17, 17)])), (2, .inr (false, [(1, 2147483646)])), (3, .inr (true, [(0, 2147483646)])), (5, .inr (false, [(8, 8)]))], [], czmb71h12),
  .inl (58, [(0, .inl 81), (1, .inr (false, [(17, 17)])), (2, .inr (false, [(1, 2147483646)])), (3, .inr (true, [(0, 2147483646)])), (5, .inr (false, [(9, 9)]))], [], czmb71h13),
  .inl (58, [(0, .inl 81), (1, .inr (false, [(17, 17)])), (2, .inr (false, [(1, 2147483646)])), (3, .inr (true, [(0, 2147483646)])), (5, .inr (false, [(10, 10)]))], [], czmb71h14),
  .inl (58, [(0, .inl 81), (1, .inr (false, [(17, 17)])), (2, .inr (false, [(1, 2147483646)])), (3, .inr (true, [(0, 2147483646)])), (5, .inr (false, [(11, 11)]))], [], czmb71h15),
  .inl (58, [(0, .inl 81), (1, .inr (false, [(17, 17)])), (2, .inr (false, [(1, 2147483646)])), (3, .inr (true, [(0, 2147483646)])), (5, .inr (false, [(12, 12)]))], [], czmb71h16),
  .inl (58, [(0, .inl 81), (1, .inr (false, [(17, 17)])), (2, .inr (false, [(1, 2147483646)])), (3, .inr (true, [(0, 2147483646)])), (5, .inr (false, [(13, 13)]))], [], czmb71h17),
  .inl (58, [(0, .inl 81), (1, .inr (false, [(17, 17)])), (2, .inr (false, [(1, 2147483646)])), (3, .inr (true, [(0, 2147483646)])), (5, .inr (false, [(14, 14)]))], [], czmb71h18),
  .inl (58, [(0, .inl 81), (1, .inr (false, [(17, 17)])), (2, .inr (false, [(1, 2147483646)])), (3, .inr (true, [(0, 2147483646)])), (5, .inr (false, [(15, 15)]))], [], czmb71h19),
  .inl (58, [(0, .inl 81), (1, .inr (false, [(17, 17)])), (2, .inr (false, [(1, 2147483646)])), (3, .inr (true, [(0, 2147483646)])), (5, .inr (false, [(16, 16)]))], [], czmb71h20),
  .inl (58, [(0, .inl 81), (1, .inr (false, [(17, 17)])), (2, .inr (false, [(1, 2147483646)])), (3, .inr (true, [(0, 2147483646)])), (5, .inr (false, [(17, 17)]))], [], czmb71h21),
  .inl (58, [(0, .inl 81), (1, .inr (false, [(16, 16)])), (2, .inr (false, [(1, 2147483646)])), (3, .inr (true, [(1, 2147483646)])), (5, .inr (false, [(0, 0)]))], [], czmb71h25),
  .inl (58, [(0, .inl 81), (1, .inr (false, [(16, 16)])), (2, .inr (false, [(1, 2147483646)])), (3, .inr (true, [(0, 2147483646)])), (5, .inr (false, [(1, 1)]))], [], czmb71h6),
  .inl (58, [(0, .inl 81), (1, .inr (false, [(16, 16)])), (2, .inr (false, [(1, 2147483646)])), (3, .inr (true, [(0, 2147483646)])), (5, .inr (false, [(2, 2)]))], [], czmb71h7),
  .inl (58, [(0, .inl 81), (1, .inr (false, [(16, 16)])), (2, .inr (false, [(1, 2147483646)])), (3, .inr (true, [(0, 2147483646)])), (5, .inr (false, [(3, 3)]))], [], czmb71h8),
  .inl (58, [(0, .inl 81), (1, .inr (false, [(16, 16)])), (2, .inr (false, [(1, 2147483646)])), (3, .inr (true, [(0, 2147483646)])), (5, .inr (false, [(4, 4)]))], [], czmb71h9),
  .inl (58, [(0, .inl 81), (1, .inr (false, [(16, 16)])), (2, .inr (false, [(1, 2147483646)])), (3, .inr (true, [(0, 2147483646)])), (5, .inr (false, [(5, 5)]))], [], czmb71h10),
  .inl (58, [(0, .inl 81), (1, .inr (false, [(16, 16)])), (2, .inr (false, [(1, 2147483646)])), (3, .inr (true, [(0, 2147483646)])), (5, .inr (false, [(6, 6)]))], [], czmb71h11),
  .inl (58, [(0, .inl 81), (1, .inr (false, [(16, 16)])), (2, .inr (false, [(1, 2147483646)])), (3, .inr (true, [(0, 2147483646)])), (5, .inr (false, [(7, 7)]))], [], czmb71h12),
  .inl (58, [(0, .inl 81), (1, .inr (false, [(16, 16)])), (2, .inr (false, [(1, 2147483646)])), (3, .inr (true, [(0, 2147483646)])), (5, .inr (false, [(8, 8)]))], [], czmb71h13),
  .inl (58, [(0, .inl 81), (1, .inr (false, [(16, 16)])), (2, .inr (false, [(1, 2147483646)])), (3, .inr (true, [(0, 2147483646)])), (5, .inr (false, [(9, 9)]))], [], czmb71h14),
  .inl (58, [(0, .inl 81), (1, .inr (false, [(16, 16)])), (2, .inr (false, [(1, 2147483646)])), (3, .inr (true, [(0, 2147483646)])), (5, .inr (false, [(10, 10)]))], [], czmb71h15),
  .inl (58, [(0, .inl 81), (1, .inr (false, [(16, 16)])), (2, .inr (false, [(1, 2147483646)])), (3, .inr (true, [(0, 2147483646)])), (5, .inr (false, [(11, 11)]))], [], czmb71h16),
  .inl (58, [(0, .inl 81), (1, .inr (false, [(16, 16)])), (2, .inr (false, [(1, 2147483646)])), (3, .inr (true, [(0, 2147483646)])), (5, .inr (false, [(12, 12)]))], [], czmb71h17),
  .inl (58, [(0, .inl 81), (1, .inr (false, [(16, 16)])), (2, .inr (false, [(1, 2147483646)])), (3, .inr (true, [(0, 2147483646)])), (5, .inr (false, [(13, 13)]))], [], czmb71h18),
  .inl (58, [(0, .inl 81), (1, .inr (false, [(16, 16)])), (2, .inr (false, [(1, 2147483646)])), (3, .inr (true, [(0, 2147483646)])), (5, .inr (false, [(14, 14)]))], [], czmb71h19),
  .inl (58, [(0, .inl 81), (1, .inr (false, [(16, 16)])), (2, .inr (false, [(1, 2147483646)])), (3, .inr (true, [(0, 2147483646)])), (5, .inr (false, [(15, 15)]))], [], czmb71h20),
  .inl (58, [(0, .inl 81), (1, .inr (false, [(16, 16)])), (2, .inr (false, [(1, 2147483646)])), (3, .inr (true, [(0, 2147483646)])), (5, .inr (false, [(16, 16)]))], [], czmb71h21),
  .inl (58, [(0, .inl 81), (1, .inr (false, [(15, 15)])), (2, .inr (false, [(1, 2147483646)])), (3, .inr (true, [(1, 2147483646)])), (5, .inr (false, [(0, 0)]))], [], czmb71h26),
  .inl (58, [(0, .inl 81), (1, .inr (false, [(15, 15)])), (2, .inr (false, [(1, 2147483646)])), (3, .inr (true, [(0, 2147483646)])), (5, .inr (false, [(1, 1)]))], [], czmb71h7),
  .inl (58, [(0, .inl 81), (1, .inr (false, [(15, 15)])), (2, .inr (false, [(1, 2147483646)])), (3, .inr (true, [(0, 2147483646)])), (5, .inr (false, [(2, 2)]))], [], czmb71h8),
  .inl (58, [(0, .inl 81), (1, .inr (false, [(15, 15)])), (2, .inr (false, [(1, 2147483646)])), (3, .inr (true, [(0, 2147483646)])), (5, .inr (false, [(3, 3)]))], [], czmb71h9),
  .inl (58, [(0, .inl 81), (1, .inr (false, [(15, 15)])), (2, .inr (false, [(1, 2147483646)])), (3, .inr (true, [(0, 2147483646)])), (5, .inr (false, [(4, 4)]))], [], czmb71h10),
  .inl (58, [(0, .inl 81), (1, .inr (false, [(15, 15)])), (2, .inr (false, [(1, 2147483646)])), (3, .inr (true, [(0, 2147483646)])), (5, .inr (false, [(5, 5)]))], [], czmb71h11),
  .inl (58, [(0, .inl 81), (1, .inr (false, [(15, 15)])), (2, .inr (false, [(1, 2147483646)])), (3, .inr (true, [(0, 2147483646)])), (5, .inr (false, [(6, 6)]))], [], czmb71h12),
  .inl (58, [(0, .inl 81), (1, .inr (false, [(15, 15)])), (2, .inr (false, [(1, 2147483646)])), (3, .inr (true, [(0, 2147483646)])), (5, .inr (false, [(7, 7)]))], [], czmb71h13),
  .inl (58, [(0, .inl 81), (1, .inr (false, [(15, 15)])), (2, .inr (false, [(1, 2147483646)])), (3, .inr (true, [(0, 2147483646)])), (5, .inr (false, [(8, 8)]))], [], czmb71h14),
  .inl (58, [(0, .inl 81), (1, .inr (false, [(15, 15)])), (2, .inr (false, [(1, 2147483646)])), (3, .inr (true, [(0, 2147483646)])), (5, .inr (false, [(9, 9)]))], [], czmb71h15),
  .inl (58, [(0, .inl 81), (1, .inr (false, [(15, 15)])), (2, .inr (false, [(1, 2147483646)])), (3, .inr (true, [(0, 2147483646)])), (5, .inr (false, [(10, 10)]))], [], czmb71h16),
  .inl (58, [(0, .inl 81), (1, .inr (false, [(15, 15)])), (2, .inr (false, [(1, 2147483646)])), (3, .inr (true, [(0, 2147483646)])), (5, .inr (false, [(11, 11)]))], [], czmb71h17),
  .inl (58, [(0, .inl 81), (1, .inr (false, [(15, 15)])), (2, .inr (false, [(1, 2147483646)])), (3, .inr (true, [(0, 2147483646)])), (5, .inr (false, [(12, 12)]))], [], czmb71h18),
  .inl (58, [(0, .inl 81), (1, .inr (false, [(15, 15)])), (2, .inr (false, [(1, 2147483646)])), (3, .inr (true, [(0, 2147483646)])), (5, .inr (false, [(13, 13)]))], [], czmb71h19),
  .inl (58, [(0, .inl 81), (1, .inr (false, [(15, 15)])), (2, .inr (false, [(1, 2147483646)])), (3, .inr (true, [(0, 2147483646)])), (5, .inr (false, [(14, 14)]))], [], czmb71h20),
  .inl (58, [(0, .inl 81), (1, .inr (false, [(15, 15)])), (2, .inr (false, [(1, 2147483646)])), (3, .inr (true, [(0, 2147483646)])), (5, .inr (false, [(15, 15)]))], [], czmb71h21),
  .inl (58, [(0, .inl 81), (1, .inr (false, [(14, 14)])), (2, .inr (false, [(1, 2147483646)])), (3, .inr (true, [(1, 2147483646)])), (5, .inr (false, [(0, 0)]))], [], czmb71h27),
  .inl (58, [(0, .inl 81), (1, .inr (false, [(14, 14)])), (2, .inr (false, [(1, 2147483646)])), (3, .inr (true, [(0, 2147483646)])), (5, .inr (false, [(1, 1)]))], [], czmb71h8),
  .inl (58, [(0, .inl 81), (1, .inr (false, [(14, 14)])), (2, .inr (false, [(1, 2147483646)])), (3, .inr (true, [(0, 2147483646)])), (5, .inr (false, [(2, 2)]))], [], czmb71h9),
  .inl (58, [(0, .inl 81), (1, .inr (false, [(14, 14)])), (2, .inr (false, [(1, 2147483646)])), (3, .inr (true, [(0, 2147483646)])), (5, .inr (false, [(3, 3)]))], [], czmb71h10),
  .inl (58, [(0, .inl 81), (1, .inr (false, [(14, 14)])), (2, .inr (false, [(1, 2147483646)])), (3, .inr (true, [(0, 2147483646)])), (5, .inr (false, [(4, 4)]))], [], czmb71h11),
  .inl (58, [(0, .inl 81), (1, .inr (false, [(14, 14)])), (2, .inr (false, [(1, 2147483646)])), (3, .inr (true, [(0, 2147483646)])), (5, .inr (false, [(5, 5)]))], [], czmb71h12),
  .inl (58, [(0, .inl 81), (1, .inr (false, [(14, 14)])), (2, .inr (false, [(1, 2147483646)])), (3, .inr (true, [(0, 2147483646)])), (5, .inr (false, [(6, 6)]))], [], czmb71h13),
  .inl (58, [(0, .inl 81), (1, .inr (false, [(14, 14)])), (2, .inr (false, [(1, 2147483646)])), (3, .inr (true, [(0, 2147483646)])), (5, .inr (false, [(7, 7)]))], [], czmb71h14),
  .inl (58, [(0, .inl 81), (1, .inr (false, [(14, 14)])), (2, .inr (false, [(1, 2147483646)])), (3, .inr (true, [(0, 2147483646)])), (5, .inr (false, [(8, 8)]))], [], czmb71h15),
  .inl (58, [(0, .inl 81), (1, .inr (false, [(14, 14)])), (2, .inr (false, [(1, 2147483646)])), (3, .inr (true, [(0, 2147483646)])), (5, .inr (false, [(9, 9)]))], [], czmb71h16),
  .inl (58, [(0, .inl 81), (1, .inr (false, [(14, 14)])), (2, .inr (false, [(1, 2147483646)])), (3, .inr (true, [(0, 2147483646)])), (5, .inr (false, [(10, 10)]))], [], czmb71h17),
  .inl (58, [(0, .inl 81), (1, .inr (false, [(14, 14)])), (2, .inr (false, [(1, 2147483646)])), (3, .inr (true, [(0, 2147483646)])), (5, .inr (false, [(11, 11)]))], [], czmb71h18),
  .inl (58, [(0, .inl 81), (1, .inr (false, [(14, 14)])), (2, .inr (false, [(1, 2147483646)])), (3, .inr (true, [(0, 2147483646)])), (5, .inr (false, [(12, 12)]))], [], czmb71h19),
  .inl (58, [(0, .inl 81), (1, .inr (false, [(14, 14)])), (2, .inr (false, [(1, 2147483646)])), (3, .inr (true, [(0, 2147483646)])), (5, .inr (false, [(13, 13)]))], [], czmb71h20),
  .inl (58, [(0, .inl 81), (1, .inr (false, [(14, 14)])), (2, .inr (false, [(1, 2147483646)])), (3, .inr (true, [(0, 2147483646)])), (5, .inr (false, [(14, 14)]))], [], czmb71h21),
  .inl (58, [(0, .inl 81), (1, .inr (false, [(13, 13)])), (2, .inr (false, [(1, 2147483646)])), (3, .inr (true, [(1, 2147483646)])), (5, .inr (false, [(0, 0)]))], [], czmb71h28),
  .inl (58, [(0, .inl 81), (1, .inr (false, [(13, 13)])), (2, .inr (false, [(1, 2147483646)])), (3, .inr (true, [(0, 2147483646)])), (5, .inr (false, [(1, 1)]))], [], czmb71h9),
  .inl (58, [(0, .inl 81), (1, .inr (false, [(13, 13)])), (2, .inr (false, [(1, 2147483646)])), (3, .inr (true, [(0, 2147483646)])), (5, .inr (false, [(2, 2)]))], [], czmb71h10),
  .inl (58, [(0, .inl 81), (1, .inr (false, [(13, 13)])), (2, .inr (false, [(1, 2147483646)])), (3, .inr (true, [(0, 2147483646)])), (5, .inr (false, [(3, 3)]))], [], czmb71h11),
  .inl (58, [(0, .inl 81), (1, .inr (false, [(13, 13)])), (2, .inr (false, [(1, 2147483646)])), (3, .inr (true, [(0, 2147483646)])), (5, .inr (false, [(4, 4)]))], [], czmb71h12),
  .inl (58, [(0, .inl 81), (1, .inr (false, [(13, 13)])), (2, .inr (false, [(1, 2147483646)])), (3, .inr (true, [(0, 2147483646)])), (5, .inr (false, [(5, 5)]))], [], czmb71h13),
  .inl (58, [(0, .inl 81), (1, .inr (false, [(13, 13)])), (2, .inr (false, [(1, 2147483646)])), (3, .inr (true, [(0, 2147483646)])), (5, .inr (false, [(6, 6)]))], [], czmb71h14),
  .inl (58, [(0, .inl 81), (1, .inr (false, [(13, 13)])), (2, .inr (false, [(1, 2147483646)])), (3, .inr (true, [(0, 2147483646)])), (5, .inr (false, [(7, 7)]))], [], czmb71h15),
  .inl (58, [(0, .inl 81), (1, .inr (false, [(13, 13)])), (2, .inr (false, [(1, 2147483646)])), (3, .inr (true, [(0, 2147483646)])), (5, .inr (false, [(8, 8)]))], [], czmb71h16),
  .inl (58, [(0, .inl 81), (1, .inr (false, [(13, 13)])), (2, .inr (false, [(1, 2147483646)])), (3, .inr (true, [(0, 2147483646)])), (5, .inr (false, [(9, 9)]))], [], czmb71h17),
  .inl (58, [(0, .inl 81), (1, .inr (false, [(13, 13)])), (2, .inr (false, [(1, 2147483646)])), (3, .inr (true, [(0, 2147483646)])), (5, .inr (false, [(10, 10)]))], [], czmb71h18),
  .inl (58, [(0, .inl 81), (1, .inr (false, [(13, 13)])), (2, .inr (false, [(1, 2147483646)])), (3, .inr (true, [(0, 2147483646)])), (5, .inr (false, [(11, 11)]))], [], czmb71h19),
  .inl (58, [(0, .inl 81), (1, .inr (false, [(13, 13)])), (2, .inr (false, [(1, 2147483646)])), (3, .inr (true, [(0, 2147483646)])), (5, .inr (false, [(12, 12)]))], [], czmb71h20),
  .inl (58, [(0, .inl 81), (1, .inr (false, [(13, 13)])), (2, .inr (false, [(1, 2147483646)])), (3, .inr (true, [(0, 2147483646)])), (5, .inr (false, [(13, 13)]))], [], czmb71h21),
  .inl (58, [(0, .inl 81), (1, .inr (false, [(12, 12)])), (2, .inr (false, [(1, 2147483646)])), (3, .inr (true, [(1, 2147483646)])), (5, .inr (false, [(0, 0)]))], [], czmb71h29),
  .inl (58, [(0, .inl 81), (1, .inr (false, [(12, 12)])), (2, .inr (false, [(1, 2147483646)])), (3, .inr (true, [(0, 2147483646)])), (5, .inr (false, [(1, 1)]))], [], czmb71h10),
  .inl (58, [(0, .inl 81), (1, .inr (false, [(12, 12)])), (2, .inr (false, [(1, 2147483646)])), (3, .inr (true, [(0, 2147483646)])), (5, .inr (false, [(2, 2)]))], [], czmb71h11),
  .inl (58, [(0, .inl 81), (1, .inr (false, [(12, 12)])), (2, .inr (false, [(1, 2147483646)])), (3, .inr (true, [(0, 2147483646)])), (5, .inr (false, [(3, 3)]))], [], czmb71h12),
  .inl (58, [(0, .inl 81), (1, .inr (false, [(12, 12)])), (2, .inr (false, [(1, 2147483646)])), (3, .inr (true, [(0, 2147483646)])), (5, .inr (false, [(4, 4)]))], [], czmb71h13),
  .inl (58, [(0, .inl 81), (1, .inr (false, [(12, 12)])), (2, .inr (false, [(1, 2147483646)])), (3, .inr (true, [(0, 2147483646)])), (5, .inr (false, [(5, 5)]))], [], czmb71h14),
  .inl (58, [(0, .inl 81), (1, .inr (false, [(12, 12)])), (2, .inr (false, [(1, 2147483646)])), (3, .inr (true, [(0, 2147483646)])), (5, .inr (false, [(6, 6)]))], [], czmb71h15),
  .inl (58, [(0, .inl 81), (1, .inr (false, [(12, 12)])), (2, .inr (false, [(1, 2147483646)])), (3, .inr (true, [(0, 2147483646)])), (5, .inr (false, [(7, 7)]))], [], czmb71h16),
  .inl (58, [(0, .inl 81), (1, .inr (false, [(12, 12)])), (2, .inr (false, [(1, 2147483646)])), (3, .inr (true, [(0, 2147483646)])), (5, .inr (false, [(8, 8)]))], [], czmb71h17),
  .inl (58, [(0, .inl 81), (1, .inr (false, [(12, 12)])), (2, .inr (false, [(1, 2147483646)])), (3, .inr (true, [(0, 2147483646)])), (5, .inr (false, [(9, 9)]))], [], czmb71h18),
  .inl (58, [(0, .inl 81), (1, .inr (false, [(12, 12)])), (2, .inr (false, [(1, 2147483646)])), (3, .inr (true, [(0, 2147483646)])), (5, .inr (false, [(10, 10)]))], [], czmb71h19),
  .inl (58, [(0, .inl 81), (1, .inr (false, [(12, 12)])), (2, .inr (false, [(1, 2147483646)])), (3, .inr (true, [(0, 2147483646)])), (5, .inr (false, [(11, 11)]))], [], czmb71h20),
  .inl (58, [(0, .inl 81), (1, .inr (false, [(12, 12)])), (2, .inr (false, [(1, 2147483646)])), (3, .inr (true, [(0, 2147483646)])), (5, .inr (false, [(12, 12)]))], [], czmb71h21),
  .inl (58, [(0, .inl 81), (1, .inr (false, [(11, 11)])), (2, .inr (false, [(1, 2147483646)])), (3, .inr (true, [(1, 2147483646)])), (5, .inr (false, [(0, 0)]))], [], czmb71h30),
  .inl (58, [(0, .inl 81), (1, .inr (false, [(11, 11)])), (2, .inr (false, [(1, 2147483646)])), (3, .inr (true, [(0, 2147483646)])), (5, .inr (false, [(1, 1)]))], [], czmb71h11),
  .inl (58, [(0, .inl 81), (1, .inr (false, [(11, 11)])), (2, .inr (false, [(1, 2147483646)])), (3, .inr (true, [(0, 2147483646)])), (5, .inr (false, [(2, 2)]))], [], czmb71h12),
  .inl (58, [(0, .inl 81), (1, .inr (false, [(11, 11)])), (2, .inr (false, [(1, 2147483646)])), (3, .inr (true, [(0, 2147483646)])), (5, .inr (false, [(3, 3)]))], [], czmb71h13),
  .inl (58, [(0, .inl 81), (1, .inr (false, [(11, 11)])), (2, .inr (false, [(1, 2147483646)])), (3, .inr (true, [(0, 2147483646)])), (5, .inr (false, [(4, 4)]))], [], czmb71h14),
  .inl (58, [(0, .inl 81), (1, .inr (false, [(11, 11)])), (2, .inr (false, [(1, 2147483646)])), (3, .inr (true, [(0, 2147483646)])), (5, .inr (false, [(5, 5)]))], [], czmb71h15),
  .inl (58, [(0, .inl 81), (1, .inr (false, [(11, 11)])), (2, .inr (false, [(1, 2147483646)])), (3, .inr (true, [(0, 2147483646)])), (5, .inr (false, [(6, 6)]))], [], czmb71h16),
  .inl (58, [(0, .inl 81), (1, .inr (false, [(11, 11)])), (2, .inr (false, [(1, 2147483646)])), (3, .inr (true, [(0, 2147483646)])), (5, .inr (false, [(7, 7)]))], [], czmb71h17),
  .inl (58, [(0, .inl 81), (1, .inr (false, [(11, 11)])), (2, .inr (false, [(1, 2147483646)])), (3, .inr (true, [(0, 2147483646)])), (5, .inr (false, [(8, 8)]))], [], czmb71h18),
  .inl (58, [(0, .inl 81), (1, .inr (false, [(11, 11)])), (2, .inr (false, [(1, 2147483646)])), (3, .inr (true, [(0, 2147483646)])), (5, .inr (false, [(9, 9)]))], [], czmb71h19),
  .inl (58, [(0, .inl 81), (1, .inr (false, [(11, 11)])), (2, .inr (false, [(1, 2147483646)])), (3, .inr (true, [(0, 2147483646)])), (5, .inr (false, [(10, 10)]))], [], czmb71h20),
  .inl (58, [(0, .inl 81), (1, .inr (false, [(11, 11)])), (2, .inr (false, [(1, 2147483646)])), (3, .inr (true, [(0, 2147483646)])), (5, .inr (false, [(11, 11)]))], [], czmb71h21),
  .inl (58, [(0, .inl 81), (1, .inr (false, [(10, 10)])), (2, .inr (false, [(1, 2147483646)])), (3, .inr (true, [(1, 2147483646)])), (5, .inr (false, [(0, 0)]))], [], czmb71h31),
  .inl (58, [(0, .inl 81), (1, .inr (false, [(10, 10)])), (2, .inr (false, [(1, 2147483646)])), (3, .inr (true, [(0, 2147483646)])), (5, .inr (false, [(1, 1)]))], [], czmb71h12),
  .inl (58, [(0, .inl 81), (1, .inr (false, [(10, 10)])), (2, .inr (false, [(1, 2147483646)])), (3, .inr (true, [(0, 2147483646)])), (5, .inr (false, [(2, 2)]))], [], czmb71h13),
  .inl (58, [(0, .inl 81), (1, .inr (false, [(10, 10)])), (2, .inr (false, [(1, 2147483646)])), (3, .inr (true, [(0, 2147483646)])), (5, .inr (false, [(3, 3)]))], [], czmb71h14),
  .inl (58, [(0, .inl 81), (1, .inr (false, [(10, 10)])), (2, .inr (false, [(1, 2147483646)])), (3, .inr (true, [(0, 2147483646)])), (5, .inr (false, [(4, 4)]))], [], czmb71h15),
  .inl (58, [(0, .inl 81), (1, .inr (false, [(10, 10)])), (2, .inr (false, [(1, 2147483646)])), (3, .inr (true, [(0, 2147483646)])), (5, .inr (false, [(5, 5)]))], [], czmb71h16),
  .inl (58, [(0, .inl 81), (1, .inr (false, [(10, 10)])), (2, .inr (false, [(1, 2147483646)])), (3, .inr (true, [(0, 2147483646)])), (5, .inr (false, [(6, 6)]))], [], czmb71h17),
  .inl (58, [(0, .inl 81), (1, .inr (false, [(10, 10)])), (2, .inr (false, [(1, 2147483646)])), (3, .inr (true, [(0, 2147483646)])), (5, .inr (false, [(7, 7)]))], [], czmb71h18),
  .inl (58, [(0, .inl 81), (1, .inr (false, [(10, 10)])), (2, .inr (false, [(1, 2147483646)])), (3, .inr (true, [(0, 2147483646)])), (5, .inr (false, [(8, 8)]))], [], czmb71h19),
  .inl (58, [(0, .inl 81), (1, .inr (false, [(10, 10)])), (2, .inr (false, [(1, 2147483646)])), (3, .inr (true, [(0, 2147483646)])), (5, .inr (false, [(9, 9)]))], [], czmb71h20),
  .inl (58, [(0, .inl 81), (1, .inr (false, [(10, 10)])), (2, .inr (false, [(1, 2147483646)])), (3, .inr (true, [(0, 2147483646)])), (5, .inr (false, [(10, 10)]))], [], czmb71h21),
  .inl (58, [(0, .inl 81), (1, .inr (false, [(9, 9)])), (2, .inr (false, [(1, 2147483646)])), (3, .inr (true, [(1, 2147483646)])), (5, .inr (false, [(0, 0)]))], [], czmb71h32),
  .inl (58, [(0, .inl 81), (1, .inr (false, [(9, 9)])), (2, .inr (false, [(1, 2147483646)])), (3, .inr (true, [(0, 2147483646)])), (5, .inr (false, [(1, 1)]))], [], czmb71h13),
  .inl (58, [(0, .inl 81), (1, .inr (false, [(9, 9)])), (2, .inr (false, [(1, 2147483646)])), (3, .inr (true, [(0, 2147483646)])), (5, .inr (false, [(2, 2)]))], [], czmb71h14),
  .inl (58, [(0, .inl 81), (1, .inr (false, [(9, 9)])), (2, .inr (false, [(1, 2147483646)])), (3, .inr (true, [(0, 2147483646)])), (5, .inr (false, [(3, 3)]))], [], czmb71h15),
  .inl (58, [(0, .inl 81), (1, .inr (false, [(9, 9)])), (2, .inr (false, [(1, 2147483646)])), (3, .inr (true, [(0, 2147483646)])), (5, .inr (false, [(4, 4)]))], [], czmb71h16),
  .inl (58, [(0, .inl 81), (1, .inr (false, [(9, 9)])), (2, .inr (false, [(1, 2147483646)])), (3, .inr (true, [(0, 2147483646)])), (5, .inr (false, [(5, 5)]))], [], czmb71h17),
  .inl (58, [(0, .inl 81), (1, .inr (false, [(9, 9)])), (2, .inr (false, [(1, 2147483646)])), (3, .inr (true, [(0, 2147483646)])), (5, .inr (false, [(6, 6)]))], [], czmb71h18),
  .inl (58, [(0, .inl 81), (1, .inr (false, [(9, 9)])), (2, .inr (false, [(1, 2147483646)])), (3, .inr (true, [(0, 2147483646)])), (5, .inr (false, [(7, 7)]))], [], czmb71h19),
  .inl (58, [(0, .inl 81), (1, .inr (false, [(9, 9)])), (2, .inr (false, [(1, 2147483646)])), (3, .inr (true, [(0, 2147483646)])), (5, .inr (false, [(8, 8)]))], [], czmb71h20),
  .inl (58, [(0, .inl 81), (1, .inr (false, [(9, 9)])), (2, .inr (false, [(1, 2147483646)])), (3, .inr (true, [(0, 2147483646)])), (5, .inr (false, [(9, 9)]))], [], czmb71h21),
  .inl (58, [(0, .inl 81), (1, .inr (false, [(8, 8)])), (2, .inr (false, [(1, 2147483646)])), (3, .inr (true, [(1, 2147483646)])), (5, .inr (false, [(0, 0)]))], [], czmb71h33),
  .inl (58, [(0, .inl 81), (1, .inr (false, [(8, 8)])), (2, .inr (false, [(1, 2147483646)])), (3, .inr (true, [(0, 2147483646)])), (5, .inr (false, [(1, 1)]))], [], czmb71h14),
  .inl (58, [(0, .inl 81), (1, .inr (false, [(8, 8)])), (2, .inr (false, [(1, 2147483646)])), (3, .inr (true, [(0, 2147483646)])), (5, .inr (false, [(2, 2)]))], [], czmb71h15),
  .inl (58, [(0, .inl 81), (1, .inr (false, [(8, 8)])), (2, .inr (false, [(1, 2147483646)])), (3, .inr (true, [(0, 2147483646)])), (5, .inr (false, [(3, 3)]))], [], czmb71h16),
  .inl (58, [(0, .inl 81), (1, .inr (false, [(8, 8)])), (2, .inr (false, [(1, 2147483646)])), (3, .inr (true, [(0, 2147483646)])), (5, .inr (false, [(4, 4)]))], [], czmb71h17),
  .inl (58, [(0, .inl 81), (1, .inr (false, [(8, 8)])), (2, .inr (false, [(1, 2147483646)])), (3, .inr (true, [(0, 2147483646)])), (5, .inr (false, [(5, 5)]))], [], czmb71h18),
  .inl (58, [(0, .inl 81), (1, .inr (false, [(8, 8)])), (2, .inr (false, [(1, 2147483646)])), (3, .inr (true, [(0, 2147483646)])), (5, .inr (false, [(6, 6)]))], [], czmb71h19),
  .inl (58, [(0, .inl 81), (1, .inr (false, [(8, 8)])), (2, .inr (false, [(1, 2147483646)])), (3, .inr (true, [(0, 2147483646)])), (5, .inr (false, [(7, 7)]))], [], czmb71h20),
  .inl (58, [(0, .inl 81), (1, .inr (false, [(8, 8)])), (2, .inr (false, [(1, 2147483646)])), (3, .inr (true, [(0, 2147483646)])), (5, .inr (false, [(8, 8)]))], [], czmb71h21),
  .inl (58, [(0, .inl 81), (1, .inr (false, [(7, 7)])), (2, .inr (false, [(1, 2147483646)])), (3, .inr (true, [(1, 2147483646)])), (5, .inr (false, [(0, 0)]))], [], czmb71h34),
  .inl (58, [(0, .inl 81), (1, .inr (false, [(7, 7)])), (2, .inr (false, [(1, 2147483646)])), (3, .inr (true, [(0, 2147483646)])), (5, .inr (false, [(1, 1)]))], [], czmb71h15),
  .inl (58, [(0, .inl 81), (1, .inr (false, [(7, 7)])), (2, .inr (false, [(1, 2147483646)])), (3, .inr (true, [(0, 2147483646)])), (5, .inr (false, [(2, 2)]))], [], czmb71h16),
  .inl (58, [(0, .inl 81), (1, .inr (false, [(7, 7)])), (2, .inr (false, [(1, 2147483646)])), (3, .inr (true, [(0, 2147483646)])), (5, .inr (false, [(3, 3)]))], [], czmb71h17),
  .inl (58, [(0, .inl 81), (1, .inr (false, [(7, 7)])), (2, .inr (false, [(1, 2147483646)])), (3, .inr (true, [(0, 2147483646)])), (5, .inr (false, [(4, 4)]))], [], czmb71h18),
  .inl (58, [(0, .inl 81), (1, .inr (false, [(7, 7)])), (2, .inr (false, [(1, 2147483646)])), (3, .inr (true, [(0, 2147483646)])), (5, .inr (false, [(5, 5)]))], [], czmb71h19),
  .inl (58, [(0, .inl 81), (1, .inr (false, [(7, 7)])), (2, .inr (false, [(1, 2147483646)])), (3, .inr (true, [(0, 2147483646)])), (5, .inr (false, [(6, 6)]))], [], czmb71h20),
  .inl (58, [(0, .inl 81), (1, .inr (false, [(7, 7)])), (2, .inr (false, [(1, 2147483646)])), (3, .inr (true, [(0, 2147483646)])), (5, .inr (false, [(7, 7)]))], [], czmb71h21),
  .inl (58, [(0, .inl 81), (1, .inr (false, [(6, 6)])), (2, .inr (false, [(1, 2147483646)])), (3, .inr (true, [(1, 2147483646)])), (5, .inr (false, [(0, 0)]))], [], czmb71h35),
  .inl (58, [(0, .inl 81), (1, .inr (false, [(6, 6)])), (2, .inr (false, [(1, 2147483646)])), (3, .inr (true, [(0, 2147483646)])), (5, .inr (false, [(1, 1)]))], [], czmb71h16),
  .inl (58, [(0, .inl 81), (1, .inr (false, [(6, 6)])), (2, .inr (false, [(1, 2147483646)])), (3, .inr (true, [(0, 2147483646)])), (5, .inr (false, [(2, 2)]))], [], czmb71h17),
  .inl (58, [(0, .inl 81), (1, .inr (false, [(6, 6)])), (2, .inr (false, [(1, 2147483646)])), (3, .inr (true, [(0, 2147483646)])), (5, .inr (false, [(3, 3)]))], [], czmb71h18),
  .inl (58, [(0, .inl 81), (1, .inr (false, [(6, 6)])), (2, .inr (false, [(1, 2147483646)])), (3, .inr (true, [(0, 2147483646)])), (5, .inr (false, [(4, 4)]))], [], czmb71h19),
  .inl (58, [(0, .inl 81), (1, .inr (false, [(6, 6)])), (2, .inr (false, [(1, 2147483646)])), (3, .inr (true, [(0, 2147483646)])), (5, .inr (false, [(5, 5)]))], [], czmb71h20),
  .inl (58, [(0, .inl 81), (1, .inr (false, [(6, 6)])), (2, .inr (false, [(1, 2147483646)])), (3, .inr (true, [(0, 2147483646)])), (5, .inr (false, [(6, 6)]))], [], czmb71h21),
  .inl (58, [(0, .inl 81), (1, .inr (false, [(5, 5)])), (2, .inr (false, [(1, 2147483646)])), (3, .inr (true, [(1, 2147483646)])), (5, .inr (false, [(0, 0)]))], [], czmb71h36),
  .inl (58, [(0, .inl 81), (1, .inr (false, [(5, 5)])), (2, .inr (false, [(1, 2147483646)])), (3, .inr (true, [(0, 2147483646)])), (5, .inr (false, [(1, 1)]))], [], czmb71h17),
  .inl (58, [(0, .inl 81), (1, .inr (false, [(5, 5)])), (2, .inr (false, [(1, 2147483646)])), (3, .inr (true, [(0, 2147483646)])), (5, .inr (false, [(2, 2)]))], [], czmb71h18),
  .inl (58, [(0, .inl 81), (1, .inr (false, [(5, 5)])), (2, .inr (false, [(1, 2147483646)])), (3, .inr (true, [(0, 2147483646)])), (5, .inr (false, [(3, 3)]))], [], czmb71h19),
  .inl (58, [(0, .inl 81), (1, .inr (false, [(5, 5)])), (2, .inr (false, [(1, 2147483646)])), (3, .inr (true, [(0, 2147483646)])), (5, .inr (false, [(4, 4)]))], [], czmb71h20),
  .inl (58, [(0, .inl 81), (1, .inr (false, [(5, 5)])), (2, .inr (false, [(1, 2147483646)])), (3, .inr (true, [(0, 2147483646)])), (5, .inr (false, [(5, 5)]))], [], czmb71h21),
  .inl (58, [(0, .inl 81), (1, .inr (false, [(4, 4)])), (2, .inr (false, [(1, 2147483646)])), (3, .inr (true, [(1, 2147483646)])), (5, .inr (false, [(0, 0)]))], [], czmb71h37),
  .inl (58, [(0, .inl 81), (1, .inr (false, [(4, 4)])), (2, .inr (false, [(1, 2147483646)])), (3, .inr (true, [(0, 2147483646)])), (5, .inr (false, [(1, 1)]))], [], czmb71h18),
  .inl (58, [(0, .inl 81), (1, .inr (false, [(4, 4)])), (2, .inr (false, [(1, 2147483646)])), (3, .inr (true, [(0, 2147483646)])), (5, .inr (false, [(2, 2)]))], [], czmb71h19),
  .inl (58, [(0, .inl 81), (1, .inr (false, [(4, 4)])), (2, .inr (false, [(1, 2147483646)])), (3, .inr (true, [(0, 2147483646)])), (5, .inr (false, [(3, 3)]))], [], czmb71h20),
  .inl (58, [(0, .inl 81), (1, .inr (false, [(4, 4)])), (2, .inr (false, [(1, 2147483646)])), (3, .inr (true, [(0, 2147483646)])), (5, .inr (false, [(4, 4)]))], [], czmb71h21),
  .inl (58, [(0, .inl 81), (1, .inr (false, [(3, 3)])), (2, .inr (false, [(1, 2147483646)])), (3, .inr (true, [(1, 2147483646)])), (5, .inr (false, [(0, 0)]))], [], czmb71h38),
  .inl (58, [(0, .inl 81), (1, .inr (false, [(3, 3)])), (2, .inr (false, [(1, 2147483646)])), (3, .inr (true, [(0, 2147483646)])), (5, .inr (false, [(1, 1)]))], [], czmb71h19),
  .inl (58, [(0, .inl 81), (1, .inr (false, [(3, 3)])), (2, .inr (false, [(1, 2147483646)])), (3, .inr (true, [(0, 2147483646)])), (5, .inr (false, [(2, 2)]))], [], czmb71h20),
  .inl (58, [(0, .inl 81), (1, .inr (false, [(3, 3)])), (2, .inr (false, [(1, 2147483646)])), (3, .inr (true, [(0, 2147483646)])), (5, .inr (false, [(3, 3)]))], [], czmb71h21),
  .inl (58, [(0, .inl 81), (1, .inr (false, [(2, 2)])), (2, .inr (false, [(1, 2147483646)])), (3, .inr (true, [(1, 2147483646)])), (5, .inr (false, [(0, 0)]))], [], czmb71h39),
  .inl (58, [(0, .inl 81), (1, .inr (false, [(2, 2)])), (2, .inr (false, [(1, 2147483646)])), (3, .inr (true, [(0, 2147483646)])), (5, .inr (false, [(1, 1)]))], [], czmb71h20),
  .inl (58, [(0, .inl 81), (1, .inr (false, [(2, 2)])), (2, .inr (false, [(1, 2147483646)])), (3, .inr (true, [(0, 2147483646)])), (5, .inr (false, [(2, 2)]))], [], czmb71h21),
  .inl (58, [(0, .inl 81), (1, .inr (false, [(1, 1)])), (2, .inr (false, [(1, 2147483646)])), (3, .inr (true, [(1, 2147483646)])), (5, .inr (false, [(0, 0)]))], [], czmb71h40),
  .inl (58, [(0, .inl 81), (1, .inr (false, [(1, 1)])), (2, .inr (false, [(1, 2147483646)])), (3, .inr (true, [(0, 2147483646)])), (5, .inr (false, [(1, 1)]))], [], czmb71h21)] = true := by decide +kernel

