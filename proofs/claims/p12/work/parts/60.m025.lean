/-! Contracts over ranges of the reference, and their checks; printed by a program of mine. -/
/-- MiceRegistersModel.byLot -/
def mbc25 : ak_C := (189, [.inl 81, .inr (true, [(0, 2147483646)])], mbh362, [82], [([], none, mbh359)])
theorem mbk25 : ai_chk [mbc24] mbc25 (fun pc => sm_ch sm_t189 pc, sm_Kn 3 6 none, fun x => sm_lk sm_ca3 x, none) [82] 6 0 [] [] 2000 [] = true := by decide +kernel
def mbh381 : aw_H := [(82, ms_r [(0, [(0, 37)])])]
/-- MiceRegistersModel.keepPast -/
def mbh382 : aw_H := [(81, mbx1), (82, ms_r [(0, [(-1, 36)])])]
def mbc20 : ak_C := (149, [.inl 81], mbh382, [82], [([], none, mbh381)])
def mbh383 : aw_H := [(82, ms_r [(0, [(0, 37)]), (12, ar_t32)])]
/-- MiceRegistersModel.passes -/
def mbh384 : aw_H := [(81, mbx1), (82, ms_r [(0, [(0, 37)])]), (83, .inr (.inl (0, 8, [], []))), (85, .inr (.inl (0, 4, [], []))), (86, .inr (.inl (0, 4, [], [])))]
def mbc21 : ak_C := (150, [.inl 81, .inr (false, [(0, 0)]), .inr (false, ar_t32)], mbh384, [82], [([], some (.inr (false, ar_t32)), mbh383)])
def mbh385 : aw_H := [(81, mbx30), (82, ms_r [(0, [(0, 37)])]), (83, .inr (.inl (0, 8, [], []))), (85, .inr (.inl (0, 4, [], []))), (86, .inr (.inl (0, 4, [], [])))]
def mbh386 : aw_H := [(81, mbx32), (82, ms_r [(0, [(0, 37)])]), (83, .inr (.inl (0, 8, [], []))), (85, .inr (.inl (0, 4, [], []))), (86, .inr (.inl (0, 4, [], [])))]
def mbh387 : aw_H := [(81, mbx34), (82, ms_r [(0, [(0, 37)])]), (83, .inr (.inl (0, 8, [], []))), (85, .inr (.inl (0, 4, [], []))), (86, .inr (.inl (0, 4, [], [])))]
def mbh388 : aw_H := [(81, mbx1), (82, ms_r [(12, ar_t32), (0, [(0, 37)])]), (83, .inr (.inl (0, 8, [], []))), (85, .inr (.inl (0, 4, [], []))), (86, .inr (.inl (0, 4, [], [])))]
def mbx389 : aw_A := ms_r [(13, ar_t32), (12, ar_t32), (0, [(0, 37)])]
def mbh390 : aw_H := [(81, mbx6), (82, mbx389), (83, .inr (.inl (0, 8, [], []))), (85, .inr (.inl (0, 4, [], []))), (86, .inr (.inl (0, 4, [], [])))]
def mbx391 : aw_A := ms_r [(14, ar_t32), (13, ar_t32), (12, ar_t32), (0, [(0, 37)])]
def mbh392 : aw_H := [(81, mbx9), (82, mbx391), (83, .inr (.inl (0, 8, [], []))), (85, .inr (.inl (0, 4, [], []))), (86, .inr (.inl (0, 4, [], [])))]
def mbx393 : aw_A := ms_r [(15, ar_t32), (14, ar_t32), (13, ar_t32), (12, ar_t32), (0, [(0, 37)])]
def mbh394 : aw_H := [(81, mbx12), (82, mbx393), (83, .inr (.inl (0, 8, [], []))), (85, .inr (.inl (0, 4, [], []))), (86, .inr (.inl (0, 4, [], [])))]
def mbx395 : aw_A := ms_r [(16, ar_t32), (15, ar_t32), (14, ar_t32), (13, ar_t32), (12, ar_t32), (0, [(0, 37)])]
def mbh396 : aw_H := [(81, mbx15), (82, mbx395), (83, .inr (.inl (0, 8, [], []))), (85, .inr (.inl (0, 4, [], []))), (86, .inr (.inl (0, 4, [], [])))]
def mbx397 : aw_A := ms_r [(17, ar_t32), (16, ar_t32), (15, ar_t32), (14, ar_t32), (13, ar_t32), (12, ar_t32), (0, [(0, 37)])]
def mbh398 : aw_H := [(81, mbx18), (82, mbx397), (83, .inr (.inl (0, 8, [], []))), (85, .inr (.inl (0, 4, [], []))), (86, .inr (.inl (0, 4, [], [])))]
def mbx399 : aw_A := ms_r [(18, ar_t32), (17, ar_t32), (16, ar_t32), (15, ar_t32), (14, ar_t32), (13, ar_t32), (12, ar_t32), (0, [(0, 37)])]
def mbh400 : aw_H := [(81, mbx21), (82, mbx399), (83, .inr (.inl (0, 8, [], []))), (85, .inr (.inl (0, 4, [], []))), (86, .inr (.inl (0, 4, [], [])))]
def mbx401 : aw_A := ms_r [(19, ar_t32), (18, ar_t32), (17, ar_t32), (16, ar_t32), (15, ar_t32), (14, ar_t32), (13, ar_t32), (12, ar_t32), (0, [(0, 37)])]
def mbh402 : aw_H := [(81, mbx24), (82, mbx401), (83, .inr (.inl (0, 8, [], []))), (85, .inr (.inl (0, 4, [], []))), (86, .inr (.inl (0, 4, [], [])))]
theorem mbk21 : ai_chk [mbc5, mbc9, mbc10] mbc21 (fun pc => sm_ch sm_t150 pc, sm_Kn 3 7 none, fun x => sm_lk sm_ca3 x, some .int) [82] 7 0 [5, 130] [] 2000 [(5, [(0, .inl 81), (1, .inr (false, [(0, 0)])), (2, .inr (false, ar_t32)), (3, .inr (false, [(0, 0)])), (4, .inr (false, [(0, 0)]))], [], mbh384),
  (5, [(0, .inl 81), (1, .inr (false, [(0, 0)])), (2, .inr (false, ar_t32)), (3, .inr (false, ar_t32)), (4, .inr (false, [(1, 1)])), (5, .inr (false, [(-9, -9), (0, 7)]))], [], mbh384),
  (5, [(0, .inl 81), (1, .inr (false, [(0, 0)])), (2, .inr (false, ar_t32)), (3, .inr (false, ar_t32)), (4, .inr (false, [(2, 2)])), (5, .inr (false, [(-9, -9), (0, 7)]))], [], mbh385),
  (5, [(0, .inl 81), (1, .inr (false, [(0, 0)])), (2, .inr (false, ar_t32)), (3, .inr (false, ar_t32)), (4, .inr (false, [(3, 3)])), (5, .inr (false, [(-9, -9), (0, 7)]))], [], mbh386),
  (5, [(0, .inl 81), (1, .inr (false, [(0, 0)])), (2, .inr (false, ar_t32)), (3, .inr (false, ar_t32)), (4, .inr (false, [(4, 4)])), (5, .inr (false, [(-9, -9), (0, 7)]))], [], mbh387),
  (130, [(0, .inl 81), (1, .inr (false, [(0, 0)])), (2, .inr (false, ar_t32)), (3, .inr (false, ar_t32)), (4, .inr (false, [(0, 0)])), (5, .inr (false, [(-9, -9), (0, 7)]))], [], mbh384),
  (130, [(0, .inl 81), (1, .inr (false, [(0, 0)])), (2, .inr (false, ar_t32)), (3, .inr (false, ar_t32)), (4, .inr (false, [(1, 1)])), (5, .inr (false, [(-9, -9), (0, 7)]))], [], mbh388),
  (130, [(0, .inl 81), (1, .inr (false, [(0, 0)])), (2, .inr (false, ar_t32)), (3, .inr (false, ar_t32)), (4, .inr (false, [(2, 2)])), (5, .inr (false, [(-9, -9), (0, 7)]))], [], mbh390),
  (130, [(0, .inl 81), (1, .inr (false, [(0, 0)])), (2, .inr (false, ar_t32)), (3, .inr (false, ar_t32)), (4, .inr (false, [(3, 3)])), (5, .inr (false, [(-9, -9), (0, 7)]))], [], mbh392),
  (130, [(0, .inl 81), (1, .inr (false, [(0, 0)])), (2, .inr (false, ar_t32)), (3, .inr (false, ar_t32)), (4, .inr (false, [(4, 4)])), (5, .inr (false, [(-9, -9), (0, 7)]))], [], mbh394),
  (130, [(0, .inl 81), (1, .inr (false, [(0, 0)])), (2, .inr (false, ar_t32)), (3, .inr (false, ar_t32)), (4, .inr (false, [(5, 5)])), (5, .inr (false, [(-9, -9), (0, 7)]))], [], mbh396),
  (130, [(0, .inl 81), (1, .inr (false, [(0, 0)])), (2, .inr (false, ar_t32)), (3, .inr (false, ar_t32)), (4, .inr (false, [(6, 6)])), (5, .inr (false, [(-9, -9), (0, 7)]))], [], mbh398),
  (130, [(0, .inl 81), (1, .inr (false, [(0, 0)])), (2, .inr (false, ar_t32)), (3, .inr (false, ar_t32)), (4, .inr (false, [(7, 7)])), (5, .inr (false, [(-9, -9), (0, 7)]))], [], mbh400),
  (130, [(0, .inl 81), (1, .inr (false, [(0, 0)])), (2, .inr (false, ar_t32)), (3, .inr (false, ar_t32)), (4, .inr (false, [(8, 8)])), (5, .inr (false, [(-9, -9), (0, 7)]))], [], mbh402)] = true := by decide +kernel
/-- MiceRegistersModel.byLot -/
def mbc22 : ak_C := (189, [.inl 81, .inr (true, [(0, 2147483646)])], mbh384, [82], [([], none, mbh381)])
theorem mbk22 : ai_chk [mbc21] mbc22 (fun pc => sm_ch sm_t189 pc, sm_Kn 3 6 none, fun x => sm_lk sm_ca3 x, none) [82] 6 0 [] [] 2000 [] = true := by decide +kernel
def mbh403 : aw_H := [(82, ms_r [(0, [(0, 38)])])]
/-- MiceRegistersModel.keepPast -/
def mbh404 : aw_H := [(81, mbx1), (82, ms_r [(0, [(-1, 37)])])]
def mbc17 : ak_C := (149, [.inl 81], mbh404, [82], [([], none, mbh403)])
def mbh405 : aw_H := [(82, ms_r [(0, [(0, 38)]), (12, ar_t32)])]
/-- MiceRegistersModel.passes -/
def mbh406 : aw_H := [(81, mbx1), (82, ms_r [(0, [(0, 38)])]), (83, .inr (.inl (0, 8, [], []))), (85, .inr (.inl (0, 4, [], []))), (86, .inr (.inl (0, 4, [], [])))]
def mbc18 : ak_C := (150, [.inl 81, .inr (false, [(0, 0)]), .inr (false, ar_t32)], mbh406, [82], [([], some (.inr (false, ar_t32)), mbh405)])
def mbh407 : aw_H := [(81, mbx30), (82, ms_r [(0, [(0, 38)])]), (83, .inr (.inl (0, 8, [], []))), (85, .inr (.inl (0, 4, [], []))), (86, .inr (.inl (0, 4, [], [])))]
def mbh408 : aw_H := [(81, mbx32), (82, ms_r [(0, [(0, 38)])]), (83, .inr (.inl (0, 8, [], []))), (85, .inr (.inl (0, 4, [], []))), (86, .inr (.inl (0, 4, [], [])))]
def mbh409 : aw_H := [(81, mbx34), (82, ms_r [(0, [(0, 38)])]), (83, .inr (.inl (0, 8, [], []))), (85, .inr (.inl (0, 4, [], []))), (86, .inr (.inl (0, 4, [], [])))]
def mbh410 : aw_H := [(81, mbx1), (82, ms_r [(12, ar_t32), (0, [(0, 38)])]), (83, .inr (.inl (0, 8, [], []))), (85, .inr (.inl (0, 4, [], []))), (86, .inr (.inl (0, 4, [], [])))]
def mbx411 : aw_A := ms_r [(13, ar_t32), (12, ar_t32), (0, [(0, 38)])]
def mbh412 : aw_H := [(81, mbx6), (82, mbx411), (83, .inr (.inl (0, 8, [], []))), (85, .inr (.inl (0, 4, [], []))), (86, .inr (.inl (0, 4, [], [])))]
def mbx413 : aw_A := ms_r [(14, ar_t32), (13, ar_t32), (12, ar_t32), (0, [(0, 38)])]
def mbh414 : aw_H := [(81, mbx9), (82, mbx413), (83, .inr (.inl (0, 8, [], []))), (85, .inr (.inl (0, 4, [], []))), (86, .inr (.inl (0, 4, [], [])))]
def mbx415 : aw_A := ms_r [(15, ar_t32), (14, ar_t32), (13, ar_t32), (12, ar_t32), (0, [(0, 38)])]
def mbh416 : aw_H := [(81, mbx12), (82, mbx415), (83, .inr (.inl (0, 8, [], []))), (85, .inr (.inl (0, 4, [], []))), (86, .inr (.inl (0, 4, [], [])))]
def mbx417 : aw_A := ms_r [(16, ar_t32), (15, ar_t32), (14, ar_t32), (13, ar_t32), (12, ar_t32), (0, [(0, 38)])]
def mbh418 : aw_H := [(81, mbx15), (82, mbx417), (83, .inr (.inl (0, 8, [], []))), (85, .inr (.inl (0, 4, [], []))), (86, .inr (.inl (0, 4, [], [])))]
def mbx419 : aw_A := ms_r [(17, ar_t32), (16, ar_t32), (15, ar_t32), (14, ar_t32), (13, ar_t32), (12, ar_t32), (0, [(0, 38)])]
def mbh420 : aw_H := [(81, mbx18), (82, mbx419), (83, .inr (.inl (0, 8, [], []))), (85, .inr (.inl (0, 4, [], []))), (86, .inr (.inl (0, 4, [], [])))]
def mbx421 : aw_A := ms_r [(18, ar_t32), (17, ar_t32), (16, ar_t32), (15, ar_t32), (14, ar_t32), (13, ar_t32), (12, ar_t32), (0, [(0, 38)])]
def mbh422 : aw_H := [(81, mbx21), (82, mbx421), (83, .inr (.inl (0, 8, [], []))), (85, .inr (.inl (0, 4, [], []))), (86, .inr (.inl (0, 4, [], [])))]
def mbx423 : aw_A := ms_r [(19, ar_t32), (18, ar_t32), (17, ar_t32), (16, ar_t32), (15, ar_t32), (14, ar_t32), (13, ar_t32), (12, ar_t32), (0, [(0, 38)])]
def mbh424 : aw_H := [(81, mbx24), (82, mbx423), (83, .inr (.inl (0, 8, [], []))), (85, .inr (.inl (0, 4, [], []))), (86, .inr (.inl (0, 4, [], [])))]
theorem mbk18 : ai_chk [mbc5, mbc9, mbc10] mbc18 (fun pc => sm_ch sm_t150 pc, sm_Kn 3 7 none, fun x => sm_lk sm_ca3 x, some .int) [82] 7 0 [5, 130] [] 2000 [(5, [(0, .inl 81), (1, .inr (false, [(0, 0)])), (2, .inr (false, ar_t32)), (3, .inr (false, [(0, 0)])), (4, .inr (false, [(0, 0)]))], [], mbh406),
  (5, [(0, .inl 81), (1, .inr (false, [(0, 0)])), (2, .inr (false, ar_t32)), (3, .inr (false, ar_t32)), (4, .inr (false, [(1, 1)])), (5, .inr (false, [(-9, -9), (0, 7)]))], [], mbh406),
  (5, [(0, .inl 81), (1, .inr (false, [(0, 0)])), (2, .inr (false, ar_t32)), (3, .inr (false, ar_t32)), (4, .inr (false, [(2, 2)])), (5, .inr (false, [(-9, -9), (0, 7)]))], [], mbh407),
  (5, [(0, .inl 81), (1, .inr (false, [(0, 0)])), (2, .inr (false, ar_t32)), (3, .inr (false, ar_t32)), (4, .inr (false, [(3, 3)])), (5, .inr (false, [(-9, -9), (0, 7)]))], [], mbh408),
  (5, [(0, .inl 81), (1, .inr (false, [(0, 0)])), (2, .inr (false, ar_t32)), (3, .inr (false, ar_t32)), (4, .inr (false, [(4, 4)])), (5, .inr (false, [(-9, -9), (0, 7)]))], [], mbh409),
  (130, [(0, .inl 81), (1, .inr (false, [(0, 0)])), (2, .inr (false, ar_t32)), (3, .inr (false, ar_t32)), (4, .inr (false, [(0, 0)])), (5, .inr (false, [(-9, -9), (0, 7)]))], [], mbh406),
  (130, [(0, .inl 81), (1, .inr (false, [(0, 0)])), (2, .inr (false, ar_t32)), (3, .inr (false, ar_t32)), (4, .inr (false, [(1, 1)])), (5, .inr (false, [(-9, -9), (0, 7)]))], [], mbh410),
  (130, [(0, .inl 81), (1, .inr (false, [(0, 0)])), (2, .inr (false, ar_t32)), (3, .inr (false, ar_t32)), (4, .inr (false, [(2, 2)])), (5, .inr (false, [(-9, -9), (0, 7)]))], [], mbh412),
  (130, [(0, .inl 81), (1, .inr (false, [(0, 0)])), (2, .inr (false, ar_t32)), (3, .inr (false, ar_t32)), (4, .inr (false, [(3, 3)])), (5, .inr (false, [(-9, -9), (0, 7)]))], [], mbh414),
  (130, [(0, .inl 81), (1, .inr (false, [(0, 0)])), (2, .inr (false, ar_t32)), (3, .inr (false, ar_t32)), (4, .inr (false, [(4, 4)])), (5, .inr (false, [(-9, -9), (0, 7)]))], [], mbh416),
  (130, [(0, .inl 81), (1, .inr (false, [(0, 0)])), (2, .inr (false, ar_t32)), (3, .inr (false, ar_t32)), (4, .inr (false, [(5, 5)])), (5, .inr (false, [(-9, -9), (0, 7)]))], [], mbh418),
  (130, [(0, .inl 81), (1, .inr (false, [(0, 0)])), (2, .inr (false, ar_t32)), (3, .inr (false, ar_t32)), (4, .inr (false, [(6, 6)])), (5, .inr (false, [(-9, -9), (0, 7)]))], [], mbh420),
  (130, [(0, .inl 81), (1, .inr (false, [(0, 0)])), (2, .inr (false, ar_t32)), (3, .inr (false, ar_t32)), (4, .inr (false, [(7, 7)])), (5, .inr (false, [(-9, -9), (0, 7)]))], [], mbh422),
  (130, [(0, .inl 81), (1, .inr (false, [(0, 0)])), (2, .inr (false, ar_t32)), (3, .inr (false, ar_t32)), (4, .inr (false, [(8, 8)])), (5, .inr (false, [(-9, -9), (0, 7)]))], [], mbh424)] = true := by decide +kernel
/-- MiceRegistersModel.byLot -/
def mbc19 : ak_C := (189, [.inl 81, .inr (true, [(0, 2147483646)])], mbh406, [82], [([], none, mbh403)])
theorem mbk19 : ai_chk [mbc18] mbc19 (fun pc => sm_ch sm_t189 pc, sm_Kn 3 6 none, fun x => sm_lk sm_ca3 x, none) [82] 6 0 [] [] 2000 [] = true := by decide +kernel
def mbh425 : aw_H := [(82, ms_r [(0, [(0, 39)])])]
/-- MiceRegistersModel.keepPast -/
def mbh426 : aw_H := [(81, mbx1), (82, ms_r [(0, [(-1, 38)])])]
def mbc14 : ak_C := (149, [.inl 81], mbh426, [82], [([], none, mbh425)])
def mbh427 : aw_H := [(82, ms_r [(0, [(0, 39)]), (12, ar_t32)])]
/-- MiceRegistersModel.passes -/
def mbh428 : aw_H := [(81, mbx1), (82, ms_r [(0, [(0, 39)])]), (83, .inr (.inl (0, 8, [], []))), (85, .inr (.inl (0, 4, [], []))), (86, .inr (.inl (0, 4, [], [])))]
def mbc15 : ak_C := (150, [.inl 81, .inr (false, [(0, 0)]), .inr (false, ar_t32)], mbh428, [82], [([], some (.inr (false, ar_t32)), mbh427)])
def mbh429 : aw_H := [(81, mbx30), (82, ms_r [(0, [(0, 39)])]), (83, .inr (.inl (0, 8, [], []))), (85, .inr (.inl (0, 4, [], []))), (86, .inr (.inl (0, 4, [], [])))]
def mbh430 : aw_H := [(81, mbx32), (82, ms_r [(0, [(0, 39)])]), (83, .inr (.inl (0, 8, [], []))), (85, .inr (.inl (0, 4, [], []))), (86, .inr (.inl (0, 4, [], [])))]
def mbh431 : aw_H := [(81, mbx34), (82, ms_r [(0, [(0, 39)])]), (83, .inr (.inl (0, 8, [], []))), (85, .inr (.inl (0, 4, [], []))), (86, .inr (.inl (0, 4, [], [])))]
def mbh432 : aw_H := [(81, mbx1), (82, ms_r [(12, ar_t32), (0, [(0, 39)])]), (83, .inr (.inl (0, 8, [], []))), (85, .inr (.inl (0, 4, [], []))), (86, .inr (.inl (0, 4, [], [])))]
def mbx433 : aw_A := ms_r [(13, ar_t32), (12, ar_t32), (0, [(0, 39)])]
def mbh434 : aw_H := [(81, mbx6), (82, mbx433), (83, .inr (.inl (0, 8, [], []))), (85, .inr (.inl (0, 4, [], []))), (86, .inr (.inl (0, 4, [], [])))]
def mbx435 : aw_A := ms_r [(14, ar_t32), (13, ar_t32), (12, ar_t32), (0, [(0, 39)])]
def mbh436 : aw_H := [(81, mbx9), (82, mbx435), (83, .inr (.inl (0, 8, [], []))), (85, .inr (.inl (0, 4, [], []))), (86, .inr (.inl (0, 4, [], [])))]
def mbx437 : aw_A := ms_r [(15, ar_t32), (14, ar_t32), (13, ar_t32), (12, ar_t32), (0, [(0, 39)])]
def mbh438 : aw_H := [(81, mbx12), (82, mbx437), (83, .inr (.inl (0, 8, [], []))), (85, .inr (.inl (0, 4, [], []))), (86, .inr (.inl (0, 4, [], [])))]
def mbx439 : aw_A := ms_r [(16, ar_t32), (15, ar_t32), (14, ar_t32), (13, ar_t32), (12, ar_t32), (0, [(0, 39)])]
def mbh440 : aw_H := [(81, mbx15), (82, mbx439), (83, .inr (.inl (0, 8, [], []))), (85, .inr (.inl (0, 4, [], []))), (86, .inr (.inl (0, 4, [], [])))]
def mbx441 : aw_A := ms_r [(17, ar_t32), (16, ar_t32), (15, ar_t32), (14, ar_t32), (13, ar_t32), (12, ar_t32), (0, [(0, 39)])]
def mbh442 : aw_H := [(81, mbx18), (82, mbx441), (83, .inr (.inl (0, 8, [], []))), (85, .inr (.inl (0, 4, [], []))), (86, .inr (.inl (0, 4, [], [])))]
def mbx443 : aw_A := ms_r [(18, ar_t32), (17, ar_t32), (16, ar_t32), (15, ar_t32), (14, ar_t32), (13, ar_t32), (12, ar_t32), (0, [(0, 39)])]
def mbh444 : aw_H := [(81, mbx21), (82, mbx443), (83, .inr (.inl (0, 8, [], []))), (85, .inr (.inl (0, 4, [], []))), (86, .inr (.inl (0, 4, [], [])))]
def mbx445 : aw_A := ms_r [(19, ar_t32), (18, ar_t32), (17, ar_t32), (16, ar_t32), (15, ar_t32), (14, ar_t32), (13, ar_t32), (12, ar_t32), (0, [(0, 39)])]
def mbh446 : aw_H := [(81, mbx24), (82, mbx445), (83, .inr (.inl (0, 8, [], []))), (85, .inr (.inl (0, 4, [], []))), (86, .inr (.inl (0, 4, [], [])))]
theorem mbk15 : ai_chk [mbc5, mbc9, mbc10] mbc15 (fun pc => sm_ch sm_t150 pc, sm_Kn 3 7 none, fun x => sm_lk sm_ca3 x, some .int) [82] 7 0 [5, 130] [] 2000 [(5, [(0, .inl 81), (1, .inr (false, [(0, 0)])), (2, .inr (false, ar_t32)), (3, .inr (false, [(0, 0)])), (4, .inr (false, [(0, 0)]))], [], mbh428),
  (5, [(0, .inl 81), (1, .inr (false, [(0, 0)])), (2, .inr (false, ar_t32)), (3, .inr (false, ar_t32)), (4, .inr (false, [(1, 1)])), (5, .inr (false, [(-9, -9), (0, 7)]))], [], mbh428),
  (5, [(0, .inl 81), (1, .inr (false, [(0, 0)])), (2, .inr (false, ar_t32)), (3, .inr (false, ar_t32)), (4, .inr (false, [(2, 2)])), (5, .inr (false, [(-9, -9), (0, 7)]))], [], mbh429),
  (5, [(0, .inl 81), (1, .inr (false, [(0, 0)])), (2, .inr (false, ar_t32)), (3, .inr (false, ar_t32)), (4, .inr (false, [(3, 3)])), (5, .inr (false, [(-9, -9), (0, 7)]))], [], mbh430),
  (5, [(0, .inl 81), (1, .inr (false, [(0, 0)])), (2, .inr (false, ar_t32)), (3, .inr (false, ar_t32)), (4, .inr (false, [(4, 4)])), (5, .inr (false, [(-9, -9), (0, 7)]))], [], mbh431),
  (130, [(0, .inl 81), (1, .inr (false, [(0, 0)])), (2, .inr (false, ar_t32)), (3, .inr (false, ar_t32)), (4, .inr (false, [(0, 0)])), (5, .inr (false, [(-9, -9), (0, 7)]))], [], mbh428),
  (130, [(0, .inl 81), (1, .inr (false, [(0, 0)])), (2, .inr (false, ar_t32)), (3, .inr (false, ar_t32)), (4, .inr (false, [(1, 1)])), (5, .inr (false, [(-9, -9), (0, 7)]))], [], mbh432),
  (130, [(0, .inl 81), (1, .inr (false, [(0, 0)])), (2, .inr (false, ar_t32)), (3, .inr (false, ar_t32)), (4, .inr (false, [(2, 2)])), (5, .inr (false, [(-9, -9), (0, 7)]))], [], mbh434),
  (130, [(0, .inl 81), (1, .inr (false, [(0, 0)])), (2, .inr (false, ar_t32)), (3, .inr (false, ar_t32)), (4, .inr (false, [(3, 3)])), (5, .inr (false, [(-9, -9), (0, 7)]))], [], mbh436),
  (130, [(0, .inl 81), (1, .inr (false, [(0, 0)])), (2, .inr (false, ar_t32)), (3, .inr (false, ar_t32)), (4, .inr (false, [(4, 4)])), (5, .inr (false, [(-9, -9), (0, 7)]))], [], mbh438),
  (130, [(0, .inl 81), (1, .inr (false, [(0, 0)])), (2, .inr (false, ar_t32)), (3, .inr (false, ar_t32)), (4, .inr (false, [(5, 5)])), (5, .inr (false, [(-9, -9), (0, 7)]))], [], mbh440),
  (130, [(0, .inl 81), (1, .inr (false, [(0, 0)])), (2, .inr (false, ar_t32)), (3, .inr (false, ar_t32)), (4, .inr (false, [(6, 6)])), (5, .inr (false, [(-9, -9), (0, 7)]))], [], mbh442),
  (130, [(0, .inl 81), (1, .inr (false, [(0, 0)])), (2, .inr (false, ar_t32)), (3, .inr (false, ar_t32)), (4, .inr (false, [(7, 7)])), (5, .inr (false, [(-9, -9), (0, 7)]))], [], mbh444),
  (130, [(0, .inl 81), (1, .inr (false, [(0, 0)])), (2, .inr (false, ar_t32)), (3, .inr (false, ar_t32)), (4, .inr (false, [(8, 8)])), (5, .inr (false, [(-9, -9), (0, 7)]))], [], mbh446)] = true := by decide +kernel
/-- MiceRegistersModel.byLot -/
def mbc16 : ak_C := (189, [.inl 81, .inr (true, [(0, 2147483646)])], mbh428, [82], [([], none, mbh425)])
theorem mbk16 : ai_chk [mbc15] mbc16 (fun pc => sm_ch sm_t189 pc, sm_Kn 3 6 none, fun x => sm_lk sm_ca3 x, none) [82] 6 0 [] [] 2000 [] = true := by decide +kernel
def mbh447 : aw_H := [(82, ms_r [(0, [(0, 40)])])]
/-- MiceRegistersModel.keepPast -/
def mbh448 : aw_H := [(81, mbx1), (82, ms_r [(0, [(-1, 39)])])]
def mbc4 : ak_C := (149, [.inl 81], mbh448, [82], [([], none, mbh447)])
def mbh449 : aw_H := [(82, ms_r [(0, [(0, 40)]), (12, ar_t32)])]
/-- MiceRegistersModel.passes -/
def mbh450 : aw_H := [(81, mbx1), (82, ms_r [(0, [(0, 40)])]), (83, .inr (.inl (0, 8, [], []))), (85, .inr (.inl (0, 4, [], []))), (86, .inr (.inl (0, 4, [], [])))]
def mbc11 : ak_C := (150, [.inl 81, .inr (false, [(0, 0)]), .inr (false, ar_t32)], mbh450, [82], [([], some (.inr (false, ar_t32)), mbh449)])
def mbh451 : aw_H := [(81, mbx30), (82, ms_r [(0, [(0, 40)])]), (83, .inr (.inl (0, 8, [], []))), (85, .inr (.inl (0, 4, [], []))), (86, .inr (.inl (0, 4, [], [])))]
def mbh452 : aw_H := [(81, mbx32), (82, ms_r [(0, [(0, 40)])]), (83, .inr (.inl (0, 8, [], []))), (85, .inr (.inl (0, 4, [], []))), (86, .inr (.inl (0, 4, [], [])))]
def mbh453 : aw_H := [(81, mbx34), (82, ms_r [(0, [(0, 40)])]), (83, .inr (.inl (0, 8, [], []))), (85, .inr (.inl (0, 4, [], []))), (86, .inr (.inl (0, 4, [], [])))]
def mbh454 : aw_H := [(81, mbx1), (82, ms_r [(12, ar_t32), (0, [(0, 40)])]), (83, .inr (.inl (0, 8, [], []))), (85, .inr (.inl (0, 4, [], []))), (86, .inr (.inl (0, 4, [], [])))]
def mbx455 : aw_A := ms_r [(13, ar_t32), (12, ar_t32), (0, [(0, 40)])]
def mbh456 : aw_H := [(81, mbx6), (82, mbx455), (83, .inr (.inl (0, 8, [], []))), (85, .inr (.inl (0, 4, [], []))), (86, .inr (.inl (0, 4, [], [])))]
def mbx457 : aw_A := ms_r [(14, ar_t32), (13, ar_t32), (12, ar_t32), (0, [(0, 40)])]
def mbh458 : aw_H := [(81, mbx9), (82, mbx457), (83, .inr (.inl (0, 8, [], []))), (85, .inr (.inl (0, 4, [], []))), (86, .inr (.inl (0, 4, [], [])))]
def mbx459 : aw_A := ms_r [(15, ar_t32), (14, ar_t32), (13, ar_t32), (12, ar_t32), (0, [(0, 40)])]
def mbh460 : aw_H := [(81, mbx12), (82, mbx459), (83, .inr (.inl (0, 8, [], []))), (85, .inr (.inl (0, 4, [], []))), (86, .inr (.inl (0, 4, [], [])))]
def mbx461 : aw_A := ms_r [(16, ar_t32), (15, ar_t32), (14, ar_t32), (13, ar_t32), (12, ar_t32), (0, [(0, 40)])]
def mbh462 : aw_H := [(81, mbx15), (82, mbx461), (83, .inr (.inl (0, 8, [], []))), (85, .inr (.inl (0, 4, [], []))), (86, .inr (.inl (0, 4, [], [])))]
def mbx463 : aw_A := ms_r [(17, ar_t32), (16, ar_t32), (15, ar_t32), (14, ar_t32), (13, ar_t32), (12, ar_t32), (0, [(0, 40)])]
def mbh464 : aw_H := [(81, mbx18), (82, mbx463), (83, .inr (.inl (0, 8, [], []))), (85, .inr (.inl (0, 4, [], []))), (86, .inr (.inl (0, 4, [], [])))]
def mbx465 : aw_A := ms_r [(18, ar_t32), (17, ar_t32), (16, ar_t32), (15, ar_t32), (14, ar_t32), (13, ar_t32), (12, ar_t32), (0, [(0, 40)])]
def mbh466 : aw_H := [(81, mbx21), (82, mbx465), (83, .inr (.inl (0, 8, [], []))), (85, .inr (.inl (0, 4, [], []))), (86, .inr (.inl (0, 4, [], [])))]
def mbx467 : aw_A := ms_r [(19, ar_t32), (18, ar_t32), (17, ar_t32), (16, ar_t32), (15, ar_t32), (14, ar_t32), (13, ar_t32), (12, ar_t32), (0, [(0, 40)])]
def mbh468 : aw_H := [(81, mbx24), (82, mbx467), (83, .inr (.inl (0, 8, [], []))), (85, .inr (.inl (0, 4, [], []))), (86, .inr (.inl (0, 4, [], [])))]
theorem mbk11 : ai_chk [mbc5, mbc9, mbc10] mbc11 (fun pc => sm_ch sm_t150 pc, sm_Kn 3 7 none, fun x => sm_lk sm_ca3 x, some .int) [82] 7 0 [5, 130] [] 2000 [(5, [(0, .inl 81), (1, .inr (false, [(0, 0)])), (2, .inr (false, ar_t32)), (3, .inr (false, [(0, 0)])), (4, .inr (false, [(0, 0)]))], [], mbh450),
  (5, [(0, .inl 81), (1, .inr (false, [(0, 0)])), (2, .inr (false, ar_t32)), (3, .inr (false, ar_t32)), (4, .inr (false, [(1, 1)])), (5, .inr (false, [(-9, -9), (0, 7)]))], [], mbh450),
  (5, [(0, .inl 81), (1, .inr (false, [(0, 0)])), (2, .inr (false, ar_t32)), (3, .inr (false, ar_t32)), (4, .inr (false, [(2, 2)])), (5, .inr (false, [(-9, -9), (0, 7)]))], [], mbh451),
  (5, [(0, .inl 81), (1, .inr (false, [(0, 0)])), (2, .inr (false, ar_t32)), (3, .inr (false, ar_t32)), (4, .inr (false, [(3, 3)])), (5, .inr (false, [(-9, -9), (0, 7)]))], [], mbh452),
  (5, [(0, .inl 81), (1, .inr (false, [(0, 0)])), (2, .inr (false, ar_t32)), (3, .inr (false, ar_t32)), (4, .inr (false, [(4, 4)])), (5, .inr (false, [(-9, -9), (0, 7)]))], [], mbh453),
  (130, [(0, .inl 81), (1, .inr (false, [(0, 0)])), (2, .inr (false, ar_t32)), (3, .inr (false, ar_t32)), (4, .inr (false, [(0, 0)])), (5, .inr (false, [(-9, -9), (0, 7)]))], [], mbh450),
  (130, [(0, .inl 81), (1, .inr (false, [(0, 0)])), (2, .inr (false, ar_t32)), (3, .inr (false, ar_t32)), (4, .inr (false, [(1, 1)])), (5, .inr (false, [(-9, -9), (0, 7)]))], [], mbh454),
  (130, [(0, .inl 81), (1, .inr (false, [(0, 0)])), (2, .inr (false, ar_t32)), (3, .inr (false, ar_t32)), (4, .inr (false, [(2, 2)])), (5, .inr (false, [(-9, -9), (0, 7)]))], [], mbh456),
  (130, [(0, .inl 81), (1, .inr (false, [(0, 0)])), (2, .inr (false, ar_t32)), (3, .inr (false, ar_t32)), (4, .inr (false, [(3, 3)])), (5, .inr (false, [(-9, -9), (0, 7)]))], [], mbh458),
  (130, [(0, .inl 81), (1, .inr (false, [(0, 0)])), (2, .inr (false, ar_t32)), (3, .inr (false, ar_t32)), (4, .inr (false, [(4, 4)])), (5, .inr (false, [(-9, -9), (0, 7)]))], [], mbh460),
  (130, [(0, .inl 81), (1, .inr (false, [(0, 0)])), (2, .inr (false, ar_t32)), (3, .inr (false, ar_t32)), (4, .inr (false, [(5, 5)])), (5, .inr (false, [(-9, -9), (0, 7)]))], [], mbh462),
  (130, [(0, .inl 81), (1, .inr (false, [(0, 0)])), (2, .inr (false, ar_t32)), (3, .inr (false, ar_t32)), (4, .inr (false, [(6, 6)])), (5, .inr (false, [(-9, -9), (0, 7)]))], [], mbh464),
  (130, [(0, .inl 81), (1, .inr (false, [(0, 0)])), (2, .inr (false, ar_t32)), (3, .inr (false, ar_t32)), (4, .inr (false, [(7, 7)])), (5, .inr (false, [(-9, -9), (0, 7)]))], [], mbh466),
  (130, [(0, .inl 81), (1, .inr (false, [(0, 0)])), (2, .inr (false, ar_t32)), (3, .inr (false, ar_t32)), (4, .inr (false, [(8, 8)])), (5, .inr (false, [(-9, -9), (0, 7)]))], [], mbh468)] = true := by decide +kernel
/-- MiceRegistersModel.byLot -/
def mbc12 : ak_C := (189, [.inl 81, .inr (true, [(0, 2147483646)])], mbh450, [82], [([], none, mbh447)])
theorem mbk12 : ai_chk [mbc11] mbc12 (fun pc => sm_ch sm_t189 pc, sm_Kn 3 6 none, fun x => sm_lk sm_ca3 x, none) [82] 6 0 [] [] 2000 [] = true := by decide +kernel
/-- MiceRegistersModel.leftIn -/
def mbc13 : ak_C := (168, [.inl 81, .inr (false, [(0, 0)])], mbh3, [], [([], some (.inr (false, ar_t32)), [])])
def mbh469 : aw_H := [(81, mbx6), (82, ms_r [(0, [(-1, 40)])])]
def mbh470 : aw_H := [(81, mbx9), (82, ms_r [(0, [(-1, 40)])])]
def mbh471 : aw_H := [(81, mbx12), (82, ms_r [(0, [(-1, 40)])])]
def mbh472 : aw_H := [(81, mbx15), (82, ms_r [(0, [(-1, 40)])])]
def mbh473 : aw_H := [(81, mbx18), (82, ms_r [(0, [(-1, 40)])])]
def mbh474 : aw_H := [(81, mbx21), (82, ms_r [(0, [(-1, 40)])])]
def mbh475 : aw_H := [(81, mbx24), (82, ms_r [(0, [(-1, 40)])])]
theorem mbk13 : ai_chk [] mbc13 (fun pc => sm_ch sm_t168 pc, sm_Kn 3 4 none, fun x => sm_lk sm_ca3 x, some .int) [] 4 0 [4] [] 2000 [(4, [(0, .inl 81), (1, .inr (false, [(0, 0)])), (2, .inr (false, [(0, 0)])), (3, .inr (false, [(0, 0)]))], [], mbh3),
  (4, [(0, .inl 81), (1, .inr (false, [(0, 0)])), (2, .inr (false, ar_t32)), (3, .inr (false, [(1, 1)]))], [], mbh3),
  (4, [(0, .inl 81), (1, .inr (false, [(0, 0)])), (2, .inr (false, ar_t32)), (3, .inr (false, [(2, 2)]))], [], mbh469),
  (4, [(0, .inl 81), (1, .inr (false, [(0, 0)])), (2, .inr (false, ar_t32)), (3, .inr (false, [(3, 3)]))], [], mbh470),
  (4, [(0, .inl 81), (1, .inr (false, [(0, 0)])), (2, .inr (false, ar_t32)), (3, .inr (false, [(4, 4)]))], [], mbh471),
  (4, [(0, .inl 81), (1, .inr (false, [(0, 0)])), (2, .inr (false, ar_t32)), (3, .inr (false, [(5, 5)]))], [], mbh472),
  (4, [(0, .inl 81), (1, .inr (false, [(0, 0)])), (2, .inr (false, ar_t32)), (3, .inr (false, [(6, 6)]))], [], mbh473),
  (4, [(0, .inl 81), (1, .inr (false, [(0, 0)])), (2, .inr (false, ar_t32)), (3, .inr (false, [(7, 7)]))], [], mbh474),
  (4, [(0, .inl 81), (1, .inr (false, [(0, 0)])), (2, .inr (false, ar_t32)), (3, .inr (false, [(8, 8)]))], [], mbh475)] = true := by decide +kernel
def mbh476 : aw_H := [(82, ms_r [(0, [(-1, 40)])])]
def mbh477 : aw_H := [(82, ms_r [(0, [(21, 40)])])]
/-- MiceRegistersModel.lots -/
def mbh478 : aw_H := [(81, mbx1), (82, ms_r [(0, [(-1, 40)])]), (83, .inr (.inl (0, 8, [], []))), (85, .inr (.inl (0, 4, [], []))), (86, .inr (.inl (0, 4, [], [])))]
def mbc71 : ak_C := (188, [.inl 81, .inr (false, ar_t32), .inr (false, ar_t32)], mbh478, [82], [([[], [], []], some (.inr (false, [(-1, -1)])), mbh476), ([[], [(1, 20)], [(1, 2147483646)]], some (.inr (false, [(-2, -2)])), mbh477), ([[], [(1, 20)], [(1, 2147483646)]], some (.inr (false, ar_t32)), mbh447)])
def mbh479 : aw_H := [(81, mbx1), (82, ms_r [(0, [(-1, 20)])]), (83, .inr (.inl (0, 8, [], []))), (85, .inr (.inl (0, 4, [], []))), (86, .inr (.inl (0, 4, [], [])))]
def mbh480 : aw_H := [(81, mbx1), (82, ms_r [(0, [(-1, 26)])]), (83, .inr (.inl (0, 8, [], []))), (85, .inr (.inl (0, 4, [], []))), (86, .inr (.inl (0, 4, [], [])))]
def mbh481 : aw_H := [(81, mbx1), (82, ms_r [(0, [(-1, 21)])]), (83, .inr (.inl (0, 8, [], []))), (85, .inr (.inl (0, 4, [], []))), (86, .inr (.inl (0, 4, [], [])))]
def mbh482 : aw_H := [(81, mbx1), (82, ms_r [(0, [(-1, 35)])]), (83, .inr (.inl (0, 8, [], []))), (85, .inr (.inl (0, 4, [], []))), (86, .inr (.inl (0, 4, [], [])))]
def mbh483 : aw_H := [(81, mbx1), (82, ms_r [(0, [(-1, 32)])]), (83, .inr (.inl (0, 8, [], []))), (85, .inr (.inl (0, 4, [], []))), (86, .inr (.inl (0, 4, [], [])))]
def mbh484 : aw_H := [(81, mbx1), (82, ms_r [(0, [(-1, 37)])]), (83, .inr (.inl (0, 8, [], []))), (85, .inr (.inl (0, 4, [], []))), (86, .inr (.inl (0, 4, [], [])))]
def mbh485 : aw_H := [(81, mbx1), (82, ms_r [(0, [(-1, 25)])]), (83, .inr (.inl (0, 8, [], []))), (85, .inr (.inl (0, 4, [], []))), (86, .inr (.inl (0, 4, [], [])))]
def mbh486 : aw_H := [(81, mbx1), (82, ms_r [(0, [(-1, 30)])]), (83, .inr (.inl (0, 8, [], []))), (85, .inr (.inl (0, 4, [], []))), (86, .inr (.inl (0, 4, [], [])))]
def mbh487 : aw_H := [(81, mbx1), (82, ms_r [(0, [(-1, 36)])]), (83, .inr (.inl (0, 8, [], []))), (85, .inr (.inl (0, 4, [], []))), (86, .inr (.inl (0, 4, [], [])))]
def mbh488 : aw_H := [(81, mbx1), (82, ms_r [(0, [(-1, 29)])]), (83, .inr (.inl (0, 8, [], []))), (85, .inr (.inl (0, 4, [], []))), (86, .inr (.inl (0, 4, [], [])))]
def mbh489 : aw_H := [(81, mbx1), (82, ms_r [(0, [(-1, 23)])]), (83, .inr (.inl (0, 8, [], []))), (85, .inr (.inl (0, 4, [], []))), (86, .inr (.inl (0, 4, [], [])))]
def mbh490 : aw_H := [(81, mbx1), (82, ms_r [(0, [(-1, 22)])]), (83, .inr (.inl (0, 8, [], []))), (85, .inr (.inl (0, 4, [], []))), (86, .inr (.inl (0, 4, [], [])))]
def mbh491 : aw_H := [(81, mbx1), (82, ms_r [(0, [(-1, 31)])]), (83, .inr (.inl (0, 8, [], []))), (85, .inr (.inl (0, 4, [], []))), (86, .inr (.inl (0, 4, [], [])))]
def mbh492 : aw_H := [(81, mbx1), (82, ms_r [(0, [(-1, 34)])]), (83, .inr (.inl (0, 8, [], []))), (85, .inr (.inl (0, 4, [], []))), (86, .inr (.inl (0, 4, [], [])))]
def mbh493 : aw_H := [(81, mbx1), (82, ms_r [(0, [(-1, 24)])]), (83, .inr (.inl (0, 8, [], []))), (85, .inr (.inl (0, 4, [], []))), (86, .inr (.inl (0, 4, [], [])))]
def mbh494 : aw_H := [(81, mbx1), (82, ms_r [(0, [(-1, 39)])]), (83, .inr (.inl (0, 8, [], []))), (85, .inr (.inl (0, 4, [], []))), (86, .inr (.inl (0, 4, [], [])))]
def mbh495 : aw_H := [(81, mbx1), (82, ms_r [(0, [(-1, 38)])]), (83, .inr (.inl (0, 8, [], []))), (85, .inr (.inl (0, 4, [], []))), (86, .inr (.inl (0, 4, [], [])))]
def mbh496 : aw_H := [(81, mbx1), (82, ms_r [(0, [(-1, 28)])]), (83, .inr (.inl (0, 8, [], []))), (85, .inr (.inl (0, 4, [], []))), (86, .inr (.inl (0, 4, [], [])))]
def mbh497 : aw_H := [(81, mbx1), (82, ms_r [(0, [(-1, 27)])]), (83, .inr (.inl (0, 8, [], []))), (85, .inr (.inl (0, 4, [], []))), (86, .inr (.inl (0, 4, [], [])))]
def mbh498 : aw_H := [(81, mbx1), (82, ms_r [(0, [(-1, 33)])]), (83, .inr (.inl (0, 8, [], []))), (85, .inr (.inl (0, 4, [], []))), (86, .inr (.inl (0, 4, [], [])))]
def mbn71_0 : List (Nat × aw_S) := [(58, [(0, .inl 81), (1, .inr (false, [(20, 20)])), (2, .inr (false, [(1, 2147483646)])), (3, .inr (true, [(1, 2147483646)])), (5, .inr (false, [(0, 0)]))], [], mbh479)]
def mbn71_1 : List (Nat × aw_S) := [(58, [(0, .inl 81), (1, .inr (false, [(20, 20)])), (2, .inr (false, [(1, 2147483646)])), (3, .inr (true, [(0, 2147483646)])), (5, .inr (false, [(1, 1)]))], [], mbh29),
  (58, [(0, .inl 81), (1, .inr (false, [(20, 20)])), (2, .inr (false, [(1, 2147483646)])), (3, .inr (true, [(0, 2147483646)])), (5, .inr (false, [(2, 2)]))], [], mbh54),
  (58, [(0, .inl 81), (1, .inr (false, [(20, 20)])), (2, .inr (false, [(1, 2147483646)])), (3, .inr (true, [(0, 2147483646)])), (5, .inr (false, [(3, 3)]))], [], mbh76),
  (58, [(0, .inl 81), (1, .inr (false, [(20, 20)])), (2, .inr (false, [(1, 2147483646)])), (3, .inr (true, [(0, 2147483646)])), (5, .inr (false, [(4, 4)]))], [], mbh98),
  (58, [(0, .inl 81), (1, .inr (false, [(20, 20)])), (2, .inr (false, [(1, 2147483646)])), (3, .inr (true, [(0, 2147483646)])), (5, .inr (false, [(5, 5)]))], [], mbh120),
  (58, [(0, .inl 81), (1, .inr (false, [(20, 20)])), (2, .inr (false, [(1, 2147483646)])), (3, .inr (true, [(0, 2147483646)])), (5, .inr (false, [(6, 6)]))], [], mbh142),
  (58, [(0, .inl 81), (1, .inr (false, [(20, 20)])), (2, .inr (false, [(1, 2147483646)])), (3, .inr (true, [(0, 2147483646)])), (5, .inr (false, [(7, 7)]))], [], mbh164),
  (58, [(0, .inl 81), (1, .inr (false, [(20, 20)])), (2, .inr (false, [(1, 2147483646)])), (3, .inr (true, [(0, 2147483646)])), (5, .inr (false, [(8, 8)]))], [], mbh186),
  (58, [(0, .inl 81), (1, .inr (false, [(20, 20)])), (2, .inr (false, [(1, 2147483646)])), (3, .inr (true, [(0, 2147483646)])), (5, .inr (false, [(9, 9)]))], [], mbh208),
  (58, [(0, .inl 81), (1, .inr (false, [(20, 20)])), (2, .inr (false, [(1, 2147483646)])), (3, .inr (true, [(0, 2147483646)])), (5, .inr (false, [(10, 10)]))], [], mbh230),
  (58, [(0, .inl 81), (1, .inr (false, [(20, 20)])), (2, .inr (false, [(1, 2147483646)])), (3, .inr (true, [(0, 2147483646)])), (5, .inr (false, [(11, 11)]))], [], mbh252),
  (58, [(0, .inl 81), (1, .inr (false, [(20, 20)])), (2, .inr (false, [(1, 2147483646)])), (3, .inr (true, [(0, 2147483646)])), (5, .inr (false, [(12, 12)]))], [], mbh274),
  (58, [(0, .inl 81), (1, .inr (false, [(20, 20)])), (2, .inr (false, [(1, 2147483646)])), (3, .inr (true, [(0, 2147483646)])), (5, .inr (false, [(13, 13)]))], [], mbh296),
  (58, [(0, .inl 81), (1, .inr (false, [(20, 20)])), (2, .inr (false, [(1, 2147483646)])), (3, .inr (true, [(0, 2147483646)])), (5, .inr (false, [(14, 14)]))], [], mbh318),
  (58, [(0, .inl 81), (1, .inr (false, [(20, 20)])), (2, .inr (false, [(1, 2147483646)])), (3, .inr (true, [(0, 2147483646)])), (5, .inr (false, [(15, 15)]))], [], mbh340),
  (58, [(0, .inl 81), (1, .inr (false, [(20, 20)])), (2, .inr (false, [(1, 2147483646)])), (3, .inr (true, [(0, 2147483646)])), (5, .inr (false, [(16, 16)]))], [], mbh362),
  (58, [(0, .inl 81), (1, .inr (false, [(20, 20)])), (2, .inr (false, [(1, 2147483646)])), (3, .inr (true, [(0, 2147483646)])), (5, .inr (false, [(17, 17)]))], [], mbh384),
  (58, [(0, .inl 81), (1, .inr (false, [(20, 20)])), (2, .inr (false, [(1, 2147483646)])), (3, .inr (true, [(0, 2147483646)])), (5, .inr (false, [(18, 18)]))], [], mbh406),
  (58, [(0, .inl 81), (1, .inr (false, [(20, 20)])), (2, .inr (false, [(1, 2147483646)])), (3, .inr (true, [(0, 2147483646)])), (5, .inr (false, [(19, 19)]))], [], mbh428),
  (58, [(0, .inl 81), (1, .inr (false, [(20, 20)])), (2, .inr (false, [(1, 2147483646)])), (3, .inr (true, [(0, 2147483646)])), (5, .inr (false, [(20, 20)]))], [], mbh450),
  (58, [(0, .inl 81), (1, .inr (false, [(14, 14)])), (2, .inr (false, [(1, 2147483646)])), (3, .inr (true, [(1, 2147483646)])), (5, .inr (false, [(0, 0)]))], [], mbh480),
  (58, [(0, .inl 81), (1, .inr (false, [(14, 14)])), (2, .inr (false, [(1, 2147483646)])), (3, .inr (true, [(0, 2147483646)])), (5, .inr (false, [(1, 1)]))], [], mbh164),
  (58, [(0, .inl 81), (1, .inr (false, [(14, 14)])), (2, .inr (false, [(1, 2147483646)])), (3, .inr (true, [(0, 2147483646)])), (5, .inr (false, [(2, 2)]))], [], mbh186),
  (58, [(0, .inl 81), (1, .inr (false, [(14, 14)])), (2, .inr (false, [(1, 2147483646)])), (3, .inr (true, [(0, 2147483646)])), (5, .inr (false, [(3, 3)]))], [], mbh208),
  (58, [(0, .inl 81), (1, .inr (false, [(14, 14)])), (2, .inr (false, [(1, 2147483646)])), (3, .inr (true, [(0, 2147483646)])), (5, .inr (false, [(4, 4)]))], [], mbh230),
  (58, [(0, .inl 81), (1, .inr (false, [(14, 14)])), (2, .inr (false, [(1, 2147483646)])), (3, .inr (true, [(0, 2147483646)])), (5, .inr (false, [(5, 5)]))], [], mbh252),
  (58, [(0, .inl 81), (1, .inr (false, [(14, 14)])), (2, .inr (false, [(1, 2147483646)])), (3, .inr (true, [(0, 2147483646)])), (5, .inr (false, [(6, 6)]))], [], mbh274),
  (58, [(0, .inl 81), (1, .inr (false, [(14, 14)])), (2, .inr (false, [(1, 2147483646)])), (3, .inr (true, [(0, 2147483646)])), (5, .inr (false, [(7, 7)]))], [], mbh296),
  (58, [(0, .inl 81), (1, .inr (false, [(14, 14)])), (2, .inr (false, [(1, 2147483646)])), (3, .inr (true, [(0, 2147483646)])), (5, .inr (false, [(8, 8)]))], [], mbh318),
  (58, [(0, .inl 81), (1, .inr (false, [(14, 14)])), (2, .inr (false, [(1, 2147483646)])), (3, .inr (true, [(0, 2147483646)])), (5, .inr (false, [(9, 9)]))], [], mbh340),
  (58, [(0, .inl 81), (1, .inr (false, [(14, 14)])), (2, .inr (false, [(1, 2147483646)])), (3, .inr (true, [(0, 2147483646)])), (5, .inr (false, [(10, 10)]))], [], mbh362),
  (58, [(0, .inl 81), (1, .inr (false, [(14, 14)])), (2, .inr (false, [(1, 2147483646)])), (3, .inr (true, [(0, 2147483646)])), (5, .inr (false, [(11, 11)]))], [], mbh384),
  (58, [(0, .inl 81), (1, .inr (false, [(14, 14)])), (2, .inr (false, [(1, 2147483646)])), (3, .inr (true, [(0, 2147483646)])), (5, .inr (false, [(12, 12)]))], [], mbh406),
  (58, [(0, .inl 81), (1, .inr (false, [(14, 14)])), (2, .inr (false, [(1, 2147483646)])), (3, .inr (true, [(0, 2147483646)])), (5, .inr (false, [(13, 13)]))], [], mbh428),
  (58, [(0, .inl 81), (1, .inr (false, [(14, 14)])), (2, .inr (false, [(1, 2147483646)])), (3, .inr (true, [(0, 2147483646)])), (5, .inr (false, [(14, 14)]))], [], mbh450),
  (58, [(0, .inl 81), (1, .inr (false, [(19, 19)])), (2, .inr (false, [(1, 2147483646)])), (3, .inr (true, [(1, 2147483646)])), (5, .inr (false, [(0, 0)]))], [], mbh481),
  (58, [(0, .inl 81), (1, .inr (false, [(19, 19)])), (2, .inr (false, [(1, 2147483646)])), (3, .inr (true, [(0, 2147483646)])), (5, .inr (false, [(1, 1)]))], [], mbh54),
  (58, [(0, .inl 81), (1, .inr (false, [(19, 19)])), (2, .inr (false, [(1, 2147483646)])), (3, .inr (true, [(0, 2147483646)])), (5, .inr (false, [(2, 2)]))], [], mbh76),
  (58, [(0, .inl 81), (1, .inr (false, [(19, 19)])), (2, .inr (false, [(1, 2147483646)])), (3, .inr (true, [(0, 2147483646)])), (5, .inr (false, [(3, 3)]))], [], mbh98),
  (58, [(0, .inl 81), (1, .inr (false, [(19, 19)])), (2, .inr (false, [(1, 2147483646)])), (3, .inr (true, [(0, 2147483646)])), (5, .inr (false, [(4, 4)]))], [], mbh120),
  (58, [(0, .inl 81), (1, .inr (false, [(19, 19)])), (2, .inr (false, [(1, 2147483646)])), (3, .inr (true, [(0, 2147483646)])), (5, .inr (false, [(5, 5)]))], [], mbh142),
  (58, [(0, .inl 81), (1, .inr (false, [(19, 19)])), (2, .inr (false, [(1, 2147483646)])), (3, .inr (true, [(0, 2147483646)])), (5, .inr (false, [(6, 6)]))], [], mbh164),
  (58, [(0, .inl 81), (1, .inr (false, [(19, 19)])), (2, .inr (false, [(1, 2147483646)])), (3, .inr (true, [(0, 2147483646)])), (5, .inr (false, [(7, 7)]))], [], mbh186),
  (58, [(0, .inl 81), (1, .inr (false, [(19, 19)])), (2, .inr (false, [(1, 2147483646)])), (3, .inr (true, [(0, 2147483646)])), (5, .inr (false, [(8, 8)]))], [], mbh208),
  (58, [(0, .inl 81), (1, .inr (false, [(19, 19)])), (2, .inr (false, [(1, 2147483646)])), (3, .inr (true, [(0, 2147483646)])), (5, .inr (false, [(9, 9)]))], [], mbh230),
  (58, [(0, .inl 81), (1, .inr (false, [(19, 19)])), (2, .inr (false, [(1, 2147483646)])), (3, .inr (true, [(0, 2147483646)])), (5, .inr (false, [(10, 10)]))], [], mbh252),
  (58, [(0, .inl 81), (1, .inr (false, [(19, 19)])), (2, .inr (false, [(1, 2147483646)])), (3, .inr (true, [(0, 2147483646)])), (5, .inr (false, [(11, 11)]))], [], mbh274),
  (58, [(0, .inl 81), (1, .inr (false, [(19, 19)])), (2, .inr (false, [(1, 2147483646)])), (3, .inr (true, [(0, 2147483646)])), (5, .inr (false, [(12, 12)]))], [], mbh296),
  (58, [(0, .inl 81), (1, .inr (false, [(19, 19)])), (2, .inr (false, [(1, 2147483646)])), (3, .inr (true, [(0, 2147483646)])), (5, .inr (false, [(13, 13)]))], [], mbh318),
  (58, [(0, .inl 81), (1, .inr (false, [(19, 19)])), (2, .inr (false, [(1, 2147483646)])), (3, .inr (true, [(0, 2147483646)])), (5, .inr (false, [(14, 14)]))], [], mbh340),
  (58, [(0, .inl 81), (1, .inr (false, [(19, 19)])), (2, .inr (false, [(1, 2147483646)])), (3, .inr (true, [(0, 2147483646)])), (5, .inr (false, [(15, 15)]))], [], mbh362),
  (58, [(0, .inl 81), (1, .inr (false, [(19, 19)])), (2, .inr (false, [(1, 2147483646)])), (3, .inr (true, [(0, 2147483646)])), (5, .inr (false, [(16, 16)]))], [], mbh384),
  (58, [(0, .inl 81), (1, .inr (false, [(19, 19)])), (2, .inr (false, [(1, 2147483646)])), (3, .inr (true, [(0, 2147483646)])), (5, .inr (false, [(17, 17)]))], [], mbh406),
  (58, [(0, .inl 81), (1, .inr (false, [(19, 19)])), (2, .inr (false, [(1, 2147483646)])), (3, .inr (true, [(0, 2147483646)])), (5, .inr (false, [(18, 18)]))], [], mbh428),
  (58, [(0, .inl 81), (1, .inr (false, [(19, 19)])), (2, .inr (false, [(1, 2147483646)])), (3, .inr (true, [(0, 2147483646)])), (5, .inr (false, [(19, 19)]))], [], mbh450),
  (58, [(0, .inl 81), (1, .inr (false, [(5, 5)])), (2, .inr (false, [(1, 2147483646)])), (3, .inr (true, [(1, 2147483646)])), (5, .inr (false, [(0, 0)]))], [], mbh482),
  (58, [(0, .inl 81), (1, .inr (false, [(5, 5)])), (2, .inr (false, [(1, 2147483646)])), (3, .inr (true, [(0, 2147483646)])), (5, .inr (false, [(1, 1)]))], [], mbh362),
  (58, [(0, .inl 81), (1, .inr (false, [(5, 5)])), (2, .inr (false, [(1, 2147483646)])), (3, .inr (true, [(0, 2147483646)])), (5, .inr (false, [(2, 2)]))], [], mbh384),
  (58, [(0, .inl 81), (1, .inr (false, [(5, 5)])), (2, .inr (false, [(1, 2147483646)])), (3, .inr (true, [(0, 2147483646)])), (5, .inr (false, [(3, 3)]))], [], mbh406),
  (58, [(0, .inl 81), (1, .inr (false, [(5, 5)])), (2, .inr (false, [(1, 2147483646)])), (3, .inr (true, [(0, 2147483646)])), (5, .inr (false, [(4, 4)]))], [], mbh428),
  (58, [(0, .inl 81), (1, .inr (false, [(5, 5)])), (2, .inr (false, [(1, 2147483646)])), (3, .inr (true, [(0, 2147483646)])), (5, .inr (false, [(5, 5)]))], [], mbh450),
  (58, [(0, .inl 81), (1, .inr (false, [(8, 8)])), (2, .inr (false, [(1, 2147483646)])), (3, .inr (true, [(1, 2147483646)])), (5, .inr (false, [(0, 0)]))], [], mbh483),
  (58, [(0, .inl 81), (1, .inr (false, [(8, 8)])), (2, .inr (false, [(1, 2147483646)])), (3, .inr (true, [(0, 2147483646)])), (5, .inr (false, [(1, 1)]))], [], mbh296),
  (58, [(0, .inl 81), (1, .inr (false, [(8, 8)])), (2, .inr (false, [(1, 2147483646)])), (3, .inr (true, [(0, 2147483646)])), (5, .inr (false, [(2, 2)]))], [], mbh318),
  (58, [(0, .inl 81), (1, .inr (false, [(8, 8)])), (2, .inr (false, [(1, 2147483646)])), (3, .inr (true, [(0, 2147483646)])), (5, .inr (false, [(3, 3)]))], [], mbh340),
  (58, [(0, .inl 81), (1, .inr (false, [(8, 8)])), (2, .inr (false, [(1, 2147483646)])), (3, .inr (true, [(0, 2147483646)])), (5, .inr (false, [(4, 4)]))], [], mbh362),
  (58, [(0, .inl 81), (1, .inr (false, [(8, 8)])), (2, .inr (false, [(1, 2147483646)])), (3, .inr (true, [(0, 2147483646)])), (5, .inr (false, [(5, 5)]))], [], mbh384),
  (58, [(0, .inl 81), (1, .inr (false, [(8, 8)])), (2, .inr (false, [(1, 2147483646)])), (3, .inr (true, [(0, 2147483646)])), (5, .inr (false, [(6, 6)]))], [], mbh406),
  (58, [(0, .inl 81), (1, .inr (false, [(8, 8)])), (2, .inr (false, [(1, 2147483646)])), (3, .inr (true, [(0, 2147483646)])), (5, .inr (false, [(7, 7)]))], [], mbh428),
  (58, [(0, .inl 81), (1, .inr (false, [(8, 8)])), (2, .inr (false, [(1, 2147483646)])), (3, .inr (true, [(0, 2147483646)])), (5, .inr (false, [(8, 8)]))], [], mbh450),
  (58, [(0, .inl 81), (1, .inr (false, [(3, 3)])), (2, .inr (false, [(1, 2147483646)])), (3, .inr (true, [(1, 2147483646)])), (5, .inr (false, [(0, 0)]))], [], mbh484),
  (58, [(0, .inl 81), (1, .inr (false, [(3, 3)])), (2, .inr (false, [(1, 2147483646)])), (3, .inr (true, [(0, 2147483646)])), (5, .inr (false, [(1, 1)]))], [], mbh406),
  (58, [(0, .inl 81), (1, .inr (false, [(3, 3)])), (2, .inr (false, [(1, 2147483646)])), (3, .inr (true, [(0, 2147483646)])), (5, .inr (false, [(2, 2)]))], [], mbh428),
  (58, [(0, .inl 81), (1, .inr (false, [(3, 3)])), (2, .inr (false, [(1, 2147483646)])), (3, .inr (true, [(0, 2147483646)])), (5, .inr (false, [(3, 3)]))], [], mbh450),
  (58, [(0, .inl 81), (1, .inr (false, [(15, 15)])), (2, .inr (false, [(1, 2147483646)])), (3, .inr (true, [(1, 2147483646)])), (5, .inr (false, [(0, 0)]))], [], mbh485),
  (58, [(0, .inl 81), (1, .inr (false, [(15, 15)])), (2, .inr (false, [(1, 2147483646)])), (3, .inr (true, [(0, 2147483646)])), (5, .inr (false, [(1, 1)]))], [], mbh142),
  (58, [(0, .inl 81), (1, .inr (false, [(15, 15)])), (2, .inr (false, [(1, 2147483646)])), (3, .inr (true, [(0, 2147483646)])), (5, .inr (false, [(2, 2)]))], [], mbh164),
  (58, [(0, .inl 81), (1, .inr (false, [(15, 15)])), (2, .inr (false, [(1, 2147483646)])), (3, .inr (true, [(0, 2147483646)])), (5, .inr (false, [(3, 3)]))], [], mbh186),
  (58, [(0, .inl 81), (1, .inr (false, [(15, 15)])), (2, .inr (false, [(1, 2147483646)])), (3, .inr (true, [(0, 2147483646)])), (5, .inr (false, [(4, 4)]))], [], mbh208),
  (58, [(0, .inl 81), (1, .inr (false, [(15, 15)])), (2, .inr (false, [(1, 2147483646)])), (3, .inr (true, [(0, 2147483646)])), (5, .inr (false, [(5, 5)]))], [], mbh230),
  (58, [(0, .inl 81), (1, .inr (false, [(15, 15)])), (2, .inr (false, [(1, 2147483646)])), (3, .inr (true, [(0, 2147483646)])), (5, .inr (false, [(6, 6)]))], [], mbh252),
  (58, [(0, .inl 81), (1, .inr (false, [(15, 15)])), (2, .inr (false, [(1, 2147483646)])), (3, .inr (true, [(0, 2147483646)])), (5, .inr (false, [(7, 7)]))], [], mbh274),
  (58, [(0, .inl 81), (1, .inr (false, [(15, 15)])), (2, .inr (false, [(1, 2147483646)])), (3, .inr (true, [(0, 2147483646)])), (5, .inr (false, [(8, 8)]))], [], mbh296),
  (58, [(0, .inl 81), (1, .inr (false, [(15, 15)])), (2, .inr (false, [(1, 2147483646)])), (3, .inr (true, [(0, 2147483646)])), (5, .inr (false, [(9, 9)]))], [], mbh318),
  (58, [(0, .inl 81), (1, .inr (false, [(15, 15)])), (2, .inr (false, [(1, 2147483646)])), (3, .inr (true, [(0, 2147483646)])), (5, .inr (false, [(10, 10)]))], [], mbh340),
  (58, [(0, .inl 81), (1, .inr (false, [(15, 15)])), (2, .inr (false, [(1, 2147483646)])), (3, .inr (true, [(0, 2147483646)])), (5, .inr (false, [(11, 11)]))], [], mbh362),
  (58, [(0, .inl 81), (1, .inr (false, [(15, 15)])), (2, .inr (false, [(1, 2147483646)])), (3, .inr (true, [(0, 2147483646)])), (5, .inr (false, [(12, 12)]))], [], mbh384),
  (58, [(0, .inl 81), (1, .inr (false, [(15, 15)])), (2, .inr (false, [(1, 2147483646)])), (3, .inr (true, [(0, 2147483646)])), (5, .inr (false, [(13, 13)]))], [], mbh406),
  (58, [(0, .inl 81), (1, .inr (false, [(15, 15)])), (2, .inr (false, [(1, 2147483646)])), (3, .inr (true, [(0, 2147483646)])), (5, .inr (false, [(14, 14)]))], [], mbh428),
  (58, [(0, .inl 81), (1, .inr (false, [(15, 15)])), (2, .inr (false, [(1, 2147483646)])), (3, .inr (true, [(0, 2147483646)])), (5, .inr (false, [(15, 15)]))], [], mbh450),
  (58, [(0, .inl 81), (1, .inr (false, [(10, 10)])), (2, .inr (false, [(1, 2147483646)])), (3, .inr (true, [(1, 2147483646)])), (5, .inr (false, [(0, 0)]))], [], mbh486),
  (58, [(0, .inl 81), (1, .inr (false, [(10, 10)])), (2, .inr (false, [(1, 2147483646)])), (3, .inr (true, [(0, 2147483646)])), (5, .inr (false, [(1, 1)]))], [], mbh252),
  (58, [(0, .inl 81), (1, .inr (false, [(10, 10)])), (2, .inr (false, [(1, 2147483646)])), (3, .inr (true, [(0, 2147483646)])), (5, .inr (false, [(2, 2)]))], [], mbh274),
  (58, [(0, .inl 81), (1, .inr (false, [(10, 10)])), (2, .inr (false, [(1, 2147483646)])), (3, .inr (true, [(0, 2147483646)])), (5, .inr (false, [(3, 3)]))], [], mbh296),
  (58, [(0, .inl 81), (1, .inr (false, [(10, 10)])), (2, .inr (false, [(1, 2147483646)])), (3, .inr (true, [(0, 2147483646)])), (5, .inr (false, [(4, 4)]))], [], mbh318),
  (58, [(0, .inl 81), (1, .inr (false, [(10, 10)])), (2, .inr (false, [(1, 2147483646)])), (3, .inr (true, [(0, 2147483646)])), (5, .inr (false, [(5, 5)]))], [], mbh340),
  (58, [(0, .inl 81), (1, .inr (false, [(10, 10)])), (2, .inr (false, [(1, 2147483646)])), (3, .inr (true, [(0, 2147483646)])), (5, .inr (false, [(6, 6)]))], [], mbh362),
  (58, [(0, .inl 81), (1, .inr (false, [(10, 10)])), (2, .inr (false, [(1, 2147483646)])), (3, .inr (true, [(0, 2147483646)])), (5, .inr (false, [(7, 7)]))], [], mbh384),
  (58, [(0, .inl 81), (1, .inr (false, [(10, 10)])), (2, .inr (false, [(1, 2147483646)])), (3, .inr (true, [(0, 2147483646)])), (5, .inr (false, [(8, 8)]))], [], mbh406),
  (58, [(0, .inl 81), (1, .inr (false, [(10, 10)])), (2, .inr (false, [(1, 2147483646)])), (3, .inr (true, [(0, 2147483646)])), (5, .inr (false, [(9, 9)]))], [], mbh428),
  (58, [(0, .inl 81), (1, .inr (false, [(10, 10)])), (2, .inr (false, [(1, 2147483646)])), (3, .inr (true, [(0, 2147483646)])), (5, .inr (false, [(10, 10)]))], [], mbh450),
  (58, [(0, .inl 81), (1, .inr (false, [(4, 4)])), (2, .inr (false, [(1, 2147483646)])), (3, .inr (true, [(1, 2147483646)])), (5, .inr (false, [(0, 0)]))], [], mbh487),
  (58, [(0, .inl 81), (1, .inr (false, [(4, 4)])), (2, .inr (false, [(1, 2147483646)])), (3, .inr (true, [(0, 2147483646)])), (5, .inr (false, [(1, 1)]))], [], mbh384),
  (58, [(0, .inl 81), (1, .inr (false, [(4, 4)])), (2, .inr (false, [(1, 2147483646)])), (3, .inr (true, [(0, 2147483646)])), (5, .inr (false, [(2, 2)]))], [], mbh406),
  (58, [(0, .inl 81), (1, .inr (false, [(4, 4)])), (2, .inr (false, [(1, 2147483646)])), (3, .inr (true, [(0, 2147483646)])), (5, .inr (false, [(3, 3)]))], [], mbh428),
  (58, [(0, .inl 81), (1, .inr (false, [(4, 4)])), (2, .inr (false, [(1, 2147483646)])), (3, .inr (true, [(0, 2147483646)])), (5, .inr (false, [(4, 4)]))], [], mbh450),
  (58, [(0, .inl 81), (1, .inr (false, [(11, 11)])), (2, .inr (false, [(1, 2147483646)])), (3, .inr (true, [(1, 2147483646)])), (5, .inr (false, [(0, 0)]))], [], mbh488),
  (58, [(0, .inl 81), (1, .inr (false, [(11, 11)])), (2, .inr (false, [(1, 2147483646)])), (3, .inr (true, [(0, 2147483646)])), (5, .inr (false, [(1, 1)]))], [], mbh230),
  (58, [(0, .inl 81), (1, .inr (false, [(11, 11)])), (2, .inr (false, [(1, 2147483646)])), (3, .inr (true, [(0, 2147483646)])), (5, .inr (false, [(2, 2)]))], [], mbh252),
  (58, [(0, .inl 81), (1, .inr (false, [(11, 11)])), (2, .inr (false, [(1, 2147483646)])), (3, .inr (true, [(0, 2147483646)])), (5, .inr (false, [(3, 3)]))], [], mbh274),
  (58, [(0, .inl 81), (1, .inr (false, [(11, 11)])), (2, .inr (false, [(1, 2147483646)])), (3, .inr (true, [(0, 2147483646)])), (5, .inr (false, [(4, 4)]))], [], mbh296),
  (58, [(0, .inl 81), (1, .inr (false, [(11, 11)])), (2, .inr (false, [(1, 2147483646)])), (3, .inr (true, [(0, 2147483646)])), (5, .inr (false, [(5, 5)]))], [], mbh318),
  (58, [(0, .inl 81), (1, .inr (false, [(11, 11)])), (2, .inr (false, [(1, 2147483646)])), (3, .inr (true, [(0, 2147483646)])), (5, .inr (false, [(6, 6)]))], [], mbh340),
  (58, [(0, .inl 81), (1, .inr (false, [(11, 11)])), (2, .inr (false, [(1, 2147483646)])), (3, .inr (true, [(0, 2147483646)])), (5, .inr (false, [(7, 7)]))], [], mbh362),
  (58, [(0, .inl 81), (1, .inr (false, [(11, 11)])), (2, .inr (false, [(1, 2147483646)])), (3, .inr (true, [(0, 2147483646)])), (5, .inr (false, [(8, 8)]))], [], mbh384),
  (58, [(0, .inl 81), (1, .inr (false, [(11, 11)])), (2, .inr (false, [(1, 2147483646)])), (3, .inr (true, [(0, 2147483646)])), (5, .inr (false, [(9, 9)]))], [], mbh406),
  (58, [(0, .inl 81), (1, .inr (false, [(11, 11)])), (2, .inr (false, [(1, 2147483646)])), (3, .inr (true, [(0, 2147483646)])), (5, .inr (false, [(10, 10)]))], [], mbh428),
  (58, [(0, .inl 81), (1, .inr (false, [(11, 11)])), (2, .inr (false, [(1, 2147483646)])), (3, .inr (true, [(0, 2147483646)])), (5, .inr (false, [(11, 11)]))], [], mbh450),
  (58, [(0, .inl 81), (1, .inr (false, [(17, 17)])), (2, .inr (false, [(1, 2147483646)])), (3, .inr (true, [(1, 2147483646)])), (5, .inr (false, [(0, 0)]))], [], mbh489),
  (58, [(0, .inl 81), (1, .inr (false, [(17, 17)])), (2, .inr (false, [(1, 2147483646)])), (3, .inr (true, [(0, 2147483646)])), (5, .inr (false, [(1, 1)]))], [], mbh98),
  (58, [(0, .inl 81), (1, .inr (false, [(17, 17)])), (2, .inr (false, [(1, 2147483646)])), (3, .inr (true, [(0, 2147483646)])), (5, .inr (false, [(2, 2)]))], [], mbh120),
  (58, [(0, .inl 81), (1, .inr (false, [(17, 17)])), (2, .inr (false, [(1, 2147483646)])), (3, .inr (true, [(0, 2147483646)])), (5, .inr (false, [(3, 3)]))], [], mbh142),
  (58, [(0, .inl 81), (1, .inr (false, [(17, 17)])), (2, .inr (false, [(1, 2147483646)])), (3, .inr (true, [(0, 2147483646)])), (5, .inr (false, [(4, 4)]))], [], mbh164),
  (58, [(0, .inl 81), (1, .inr (false, [(17, 17)])), (2, .inr (false, [(1, 2147483646)])), (3, .inr (true, [(0, 2147483646)])), (5, .inr (false, [(5, 5)]))], [], mbh186),
  (58, [(0, .inl 81), (1, .inr (false, [(17, 17)])), (2, .inr (false, [(1, 2147483646)])), (3, .inr (true, [(0, 2147483646)])), (5, .inr (false, [(6, 6)]))], [], mbh208),
  (58, [(0, .inl 81), (1, .inr (false, [(17, 17)])), (2, .inr (false, [(1, 2147483646)])), (3, .inr (true, [(0, 2147483646)])), (5, .inr (false, [(7, 7)]))], [], mbh230),
  (58, [(0, .inl 81), (1, .inr (false, [(17, 17)])), (2, .inr (false, [(1, 2147483646)])), (3, .inr (true, [(0, 2147483646)])), (5, .inr (false, [(8, 8)]))], [], mbh252),
  (58, [(0, .inl 81), (1, .inr (false, [(17, 17)])), (2, .inr (false, [(1, 2147483646)])), (3, .inr (true, [(0, 2147483646)])), (5, .inr (false, [(9, 9)]))], [], mbh274),
  (58, [(0, .inl 81), (1, .inr (false, [(17, 17)])), (2, .inr (false, [(1, 2147483646)])), (3, .inr (true, [(0, 2147483646)])), (5, .inr (false, [(10, 10)]))], [], mbh296),
  (58, [(0, .inl 81), (1, .inr (false, [(17, 17)])), (2, .inr (false, [(1, 2147483646)])), (3, .inr (true, [(0, 2147483646)])), (5, .inr (false, [(11, 11)]))], [], mbh318),
  (58, [(0, .inl 81), (1, .inr (false, [(17, 17)])), (2, .inr (false, [(1, 2147483646)])), (3, .inr (true, [(0, 2147483646)])), (5, .inr (false, [(12, 12)]))], [], mbh340),
  (58, [(0, .inl 81), (1, .inr (false, [(17, 17)])), (2, .inr (false, [(1, 2147483646)])), (3, .inr (true, [(0, 2147483646)])), (5, .inr (false, [(13, 13)]))], [], mbh362),
  (58, [(0, .inl 81), (1, .inr (false, [(17, 17)])), (2, .inr (false, [(1, 2147483646)])), (3, .inr (true, [(0, 2147483646)])), (5, .inr (false, [(14, 14)]))], [], mbh384),
  (58, [(0, .inl 81), (1, .inr (false, [(17, 17)])), (2, .inr (false, [(1, 2147483646)])), (3, .inr (true, [(0, 2147483646)])), (5, .inr (false, [(15, 15)]))], [], mbh406),
  (58, [(0, .inl 81), (1, .inr (false, [(17, 17)])), (2, .inr (false, [(1, 2147483646)])), (3, .inr (true, [(0, 2147483646)])), (5, .inr (false, [(16, 16)]))], [], mbh428),
  (58, [(0, .inl 81), (1, .inr (false, [(17, 17)])), (2, .inr (false, [(1, 2147483646)])), (3, .inr (true, [(0, 2147483646)])), (5, .inr (false, [(17, 17)]))], [], mbh450),
  (58, [(0, .inl 81), (1, .inr (false, [(18, 18)])), (2, .inr (false, [(1, 2147483646)])), (3, .inr (true, [(1, 2147483646)])), (5, .inr (false, [(0, 0)]))], [], mbh490),
  (58, [(0, .inl 81), (1, .inr (false, [(18, 18)])), (2, .inr (false, [(1, 2147483646)])), (3, .inr (true, [(0, 2147483646)])), (5, .inr (false, [(1, 1)]))], [], mbh76),
  (58, [(0, .inl 81), (1, .inr (false, [(18, 18)])), (2, .inr (false, [(1, 2147483646)])), (3, .inr (true, [(0, 2147483646)])), (5, .inr (false, [(2, 2)]))], [], mbh98),
  (58, [(0, .inl 81), (1, .inr (false, [(18, 18)])), (2, .inr (false, [(1, 2147483646)])), (3, .inr (true, [(0, 2147483646)])), (5, .inr (false, [(3, 3)]))], [], mbh120),
  (58, [(0, .inl 81), (1, .inr (false, [(18, 18)])), (2, .inr (false, [(1, 2147483646)])), (3, .inr (true, [(0, 2147483646)])), (5, .inr (false, [(4, 4)]))], [], mbh142),
  (58, [(0, .inl 81), (1, .inr (false, [(18, 18)])), (2, .inr (false, [(1, 2147483646)])), (3, .inr (true, [(0, 2147483646)])), (5, .inr (false, [(5, 5)]))], [], mbh164),
  (58, [(0, .inl 81), (1, .inr (false, [(18, 18)])), (2, .inr (false, [(1, 2147483646)])), (3, .inr (true, [(0, 2147483646)])), (5, .inr (false, [(6, 6)]))], [], mbh186),
  (58, [(0, .inl 81), (1, .inr (false, [(18, 18)])), (2, .inr (false, [(1, 2147483646)])), (3, .inr (true, [(0, 2147483646)])), (5, .inr (false, [(7, 7)]))], [], mbh208),
  (58, [(0, .inl 81), (1, .inr (false, [(18, 18)])), (2, .inr (false, [(1, 2147483646)])), (3, .inr (true, [(0, 2147483646)])), (5, .inr (false, [(8, 8)]))], [], mbh230),
  (58, [(0, .inl 81), (1, .inr (false, [(18, 18)])), (2, .inr (false, [(1, 2147483646)])), (3, .inr (true, [(0, 2147483646)])), (5, .inr (false, [(9, 9)]))], [], mbh252),
  (58, [(0, .inl 81), (1, .inr (false, [(18, 18)])), (2, .inr (false, [(1, 2147483646)])), (3, .inr (true, [(0, 2147483646)])), (5, .inr (false, [(10, 10)]))], [], mbh274),
  (58, [(0, .inl 81), (1, .inr (false, [(18, 18)])), (2, .inr (false, [(1, 2147483646)])), (3, .inr (true, [(0, 2147483646)])), (5, .inr (false, [(11, 11)]))], [], mbh296),
  (58, [(0, .inl 81), (1, .inr (false, [(18, 18)])), (2, .inr (false, [(1, 2147483646)])), (3, .inr (true, [(0, 2147483646)])), (5, .inr (false, [(12, 12)]))], [], mbh318),
  (58, [(0, .inl 81), (1, .inr (false, [(18, 18)])), (2, .inr (false, [(1, 2147483646)])), (3, .inr (true, [(0, 2147483646)])), (5, .inr (false, [(13, 13)]))], [], mbh340),
  (58, [(0, .inl 81), (1, .inr (false, [(18, 18)])), (2, .inr (false, [(1, 2147483646)])), (3, .inr (true, [(0, 2147483646)])), (5, .inr (false, [(14, 14)]))], [], mbh362),
  (58, [(0, .inl 81), (1, .inr (false, [(18, 18)])), (2, .inr (false, [(1, 2147483646)])), (3, .inr (true, [(0, 2147483646)])), (5, .inr (false, [(15, 15)]))], [], mbh384),
  (58, [(0, .inl 81), (1, .inr (false, [(18, 18)])), (2, .inr (false, [(1, 2147483646)])), (3, .inr (true, [(0, 2147483646)])), (5, .inr (false, [(16, 16)]))], [], mbh406)]
def mbn71_2 : List (Nat × aw_S) := [(58, [(0, .inl 81), (1, .inr (false, [(18, 18)])), (2, .inr (false, [(1, 2147483646)])), (3, .inr (true, [(0, 2147483646)])), (5, .inr (false, [(17, 17)]))], [], mbh428),
  (58, [(0, .inl 81), (1, .inr (false, [(18, 18)])), (2, .inr (false, [(1, 2147483646)])), (3, .inr (true, [(0, 2147483646)])), (5, .inr (false, [(18, 18)]))], [], mbh450),
  (58, [(0, .inl 81), (1, .inr (false, [(9, 9)])), (2, .inr (false, [(1, 2147483646)])), (3, .inr (true, [(1, 2147483646)])), (5, .inr (false, [(0, 0)]))], [], mbh491),
  (58, [(0, .inl 81), (1, .inr (false, [(9, 9)])), (2, .inr (false, [(1, 2147483646)])), (3, .inr (true, [(0, 2147483646)])), (5, .inr (false, [(1, 1)]))], [], mbh274),
  (58, [(0, .inl 81), (1, .inr (false, [(9, 9)])), (2, .inr (false, [(1, 2147483646)])), (3, .inr (true, [(0, 2147483646)])), (5, .inr (false, [(2, 2)]))], [], mbh296),
  (58, [(0, .inl 81), (1, .inr (false, [(9, 9)])), (2, .inr (false, [(1, 2147483646)])), (3, .inr (true, [(0, 2147483646)])), (5, .inr (false, [(3, 3)]))], [], mbh318),
  (58, [(0, .inl 81), (1, .inr (false, [(9, 9)])), (2, .inr (false, [(1, 2147483646)])), (3, .inr (true, [(0, 2147483646)])), (5, .inr (false, [(4, 4)]))], [], mbh340),
  (58, [(0, .inl 81), (1, .inr (false, [(9, 9)])), (2, .inr (false, [(1, 2147483646)])), (3, .inr (true, [(0, 2147483646)])), (5, .inr (false, [(5, 5)]))], [], mbh362),
  (58, [(0, .inl 81), (1, .inr (false, [(9, 9)])), (2, .inr (false, [(1, 2147483646)])), (3, .inr (true, [(0, 2147483646)])), (5, .inr (false, [(6, 6)]))], [], mbh384),
  (58, [(0, .inl 81), (1, .inr (false, [(9, 9)])), (2, .inr (false, [(1, 2147483646)])), (3, .inr (true, [(0, 2147483646)])), (5, .inr (false, [(7, 7)]))], [], mbh406),
  (58, [(0, .inl 81), (1, .inr (false, [(9, 9)])), (2, .inr (false, [(1, 2147483646)])), (3, .inr (true, [(0, 2147483646)])), (5, .inr (false, [(8, 8)]))], [], mbh428),
  (58, [(0, .inl 81), (1, .inr (false, [(9, 9)])), (2, .inr (false, [(1, 2147483646)])), (3, .inr (true, [(0, 2147483646)])), (5, .inr (false, [(9, 9)]))], [], mbh450),
  (58, [(0, .inl 81), (1, .inr (false, [(6, 6)])), (2, .inr (false, [(1, 2147483646)])), (3, .inr (true, [(1, 2147483646)])), (5, .inr (false, [(0, 0)]))], [], mbh492),
  (58, [(0, .inl 81), (1, .inr (false, [(6, 6)])), (2, .inr (false, [(1, 2147483646)])), (3, .inr (true, [(0, 2147483646)])), (5, .inr (false, [(1, 1)]))], [], mbh340),
  (58, [(0, .inl 81), (1, .inr (false, [(6, 6)])), (2, .inr (false, [(1, 2147483646)])), (3, .inr (true, [(0, 2147483646)])), (5, .inr (false, [(2, 2)]))], [], mbh362),
  (58, [(0, .inl 81), (1, .inr (false, [(6, 6)])), (2, .inr (false, [(1, 2147483646)])), (3, .inr (true, [(0, 2147483646)])), (5, .inr (false, [(3, 3)]))], [], mbh384),
  (58, [(0, .inl 81), (1, .inr (false, [(6, 6)])), (2, .inr (false, [(1, 2147483646)])), (3, .inr (true, [(0, 2147483646)])), (5, .inr (false, [(4, 4)]))], [], mbh406),
  (58, [(0, .inl 81), (1, .inr (false, [(6, 6)])), (2, .inr (false, [(1, 2147483646)])), (3, .inr (true, [(0, 2147483646)])), (5, .inr (false, [(5, 5)]))], [], mbh428),
  (58, [(0, .inl 81), (1, .inr (false, [(6, 6)])), (2, .inr (false, [(1, 2147483646)])), (3, .inr (true, [(0, 2147483646)])), (5, .inr (false, [(6, 6)]))], [], mbh450),
  (58, [(0, .inl 81), (1, .inr (false, [(16, 16)])), (2, .inr (false, [(1, 2147483646)])), (3, .inr (true, [(1, 2147483646)])), (5, .inr (false, [(0, 0)]))], [], mbh493),
  (58, [(0, .inl 81), (1, .inr (false, [(16, 16)])), (2, .inr (false, [(1, 2147483646)])), (3, .inr (true, [(0, 2147483646)])), (5, .inr (false, [(1, 1)]))], [], mbh120),
  (58, [(0, .inl 81), (1, .inr (false, [(16, 16)])), (2, .inr (false, [(1, 2147483646)])), (3, .inr (true, [(0, 2147483646)])), (5, .inr (false, [(2, 2)]))], [], mbh142),
  (58, [(0, .inl 81), (1, .inr (false, [(16, 16)])), (2, .inr (false, [(1, 2147483646)])), (3, .inr (true, [(0, 2147483646)])), (5, .inr (false, [(3, 3)]))], [], mbh164),
  (58, [(0, .inl 81), (1, .inr (false, [(16, 16)])), (2, .inr (false, [(1, 2147483646)])), (3, .inr (true, [(0, 2147483646)])), (5, .inr (false, [(4, 4)]))], [], mbh186),
  (58, [(0, .inl 81), (1, .inr (false, [(16, 16)])), (2, .inr (false, [(1, 2147483646)])), (3, .inr (true, [(0, 2147483646)])), (5, .inr (false, [(5, 5)]))], [], mbh208),
  (58, [(0, .inl 81), (1, .inr (false, [(16, 16)])), (2, .inr (false, [(1, 2147483646)])), (3, .inr (true, [(0, 2147483646)])), (5, .inr (false, [(6, 6)]))], [], mbh230),
  (58, [(0, .inl 81), (1, .inr (false, [(16, 16)])), (2, .inr (false, [(1, 2147483646)])), (3, .inr (true, [(0, 2147483646)])), (5, .inr (false, [(7, 7)]))], [], mbh252),
  (58, [(0, .inl 81), (1, .inr (false, [(16, 16)])), (2, .inr (false, [(1, 2147483646)])), (3, .inr (true, [(0, 2147483646)])), (5, .inr (false, [(8, 8)]))], [], mbh274),
  (58, [(0, .inl 81), (1, .inr (false, [(16, 16)])), (2, .inr (false, [(1, 2147483646)])), (3, .inr (true, [(0, 2147483646)])), (5, .inr (false, [(9, 9)]))], [], mbh296),
  (58, [(0, .inl 81), (1, .inr (false, [(16, 16)])), (2, .inr (false, [(1, 2147483646)])), (3, .inr (true, [(0, 2147483646)])), (5, .inr (false, [(10, 10)]))], [], mbh318),
  (58, [(0, .inl 81), (1, .inr (false, [(16, 16)])), (2, .inr (false, [(1, 2147483646)])), (3, .inr (true, [(0, 2147483646)])), (5, .inr (false, [(11, 11)]))], [], mbh340),
  (58, [(0, .inl 81), (1, .inr (false, [(16, 16)])), (2, .inr (false, [(1, 2147483646)])), (3, .inr (true, [(0, 2147483646)])), (5, .inr (false, [(12, 12)]))], [], mbh362),
  (58, [(0, .inl 81), (1, .inr (false, [(16, 16)])), (2, .inr (false, [(1, 2147483646)])), (3, .inr (true, [(0, 2147483646)])), (5, .inr (false, [(13, 13)]))], [], mbh384),
  (58, [(0, .inl 81), (1, .inr (false, [(16, 16)])), (2, .inr (false, [(1, 2147483646)])), (3, .inr (true, [(0, 2147483646)])), (5, .inr (false, [(14, 14)]))], [], mbh406),
  (58, [(0, .inl 81), (1, .inr (false, [(16, 16)])), (2, .inr (false, [(1, 2147483646)])), (3, .inr (true, [(0, 2147483646)])), (5, .inr (false, [(15, 15)]))], [], mbh428),
  (58, [(0, .inl 81), (1, .inr (false, [(16, 16)])), (2, .inr (false, [(1, 2147483646)])), (3, .inr (true, [(0, 2147483646)])), (5, .inr (false, [(16, 16)]))], [], mbh450),
  (58, [(0, .inl 81), (1, .inr (false, [(1, 1)])), (2, .inr (false, [(1, 2147483646)])), (3, .inr (true, [(1, 2147483646)])), (5, .inr (false, [(0, 0)]))], [], mbh494),
  (58, [(0, .inl 81), (1, .inr (false, [(1, 1)])), (2, .inr (false, [(1, 2147483646)])), (3, .inr (true, [(0, 2147483646)])), (5, .inr (false, [(1, 1)]))], [], mbh450),
  (58, [(0, .inl 81), (1, .inr (false, [(2, 2)])), (2, .inr (false, [(1, 2147483646)])), (3, .inr (true, [(1, 2147483646)])), (5, .inr (false, [(0, 0)]))], [], mbh495),
  (58, [(0, .inl 81), (1, .inr (false, [(2, 2)])), (2, .inr (false, [(1, 2147483646)])), (3, .inr (true, [(0, 2147483646)])), (5, .inr (false, [(1, 1)]))], [], mbh428),
  (58, [(0, .inl 81), (1, .inr (false, [(2, 2)])), (2, .inr (false, [(1, 2147483646)])), (3, .inr (true, [(0, 2147483646)])), (5, .inr (false, [(2, 2)]))], [], mbh450),
  (58, [(0, .inl 81), (1, .inr (false, [(12, 12)])), (2, .inr (false, [(1, 2147483646)])), (3, .inr (true, [(1, 2147483646)])), (5, .inr (false, [(0, 0)]))], [], mbh496),
  (58, [(0, .inl 81), (1, .inr (false, [(12, 12)])), (2, .inr (false, [(1, 2147483646)])), (3, .inr (true, [(0, 2147483646)])), (5, .inr (false, [(1, 1)]))], [], mbh208),
  (58, [(0, .inl 81), (1, .inr (false, [(12, 12)])), (2, .inr (false, [(1, 2147483646)])), (3, .inr (true, [(0, 2147483646)])), (5, .inr (false, [(2, 2)]))], [], mbh230),
  (58, [(0, .inl 81), (1, .inr (false, [(12, 12)])), (2, .inr (false, [(1, 2147483646)])), (3, .inr (true, [(0, 2147483646)])), (5, .inr (false, [(3, 3)]))], [], mbh252),
  (58, [(0, .inl 81), (1, .inr (false, [(12, 12)])), (2, .inr (false, [(1, 2147483646)])), (3, .inr (true, [(0, 2147483646)])), (5, .inr (false, [(4, 4)]))], [], mbh274),
  (58, [(0, .inl 81), (1, .inr (false, [(12, 12)])), (2, .inr (false, [(1, 2147483646)])), (3, .inr (true, [(0, 2147483646)])), (5, .inr (false, [(5, 5)]))], [], mbh296),
  (58, [(0, .inl 81), (1, .inr (false, [(12, 12)])), (2, .inr (false, [(1, 2147483646)])), (3, .inr (true, [(0, 2147483646)])), (5, .inr (false, [(6, 6)]))], [], mbh318),
  (58, [(0, .inl 81), (1, .inr (false, [(12, 12)])), (2, .inr (false, [(1, 2147483646)])), (3, .inr (true, [(0, 2147483646)])), (5, .inr (false, [(7, 7)]))], [], mbh340),
  (58, [(0, .inl 81), (1, .inr (false, [(12, 12)])), (2, .inr (false, [(1, 2147483646)])), (3, .inr (true, [(0, 2147483646)])), (5, .inr (false, [(8, 8)]))], [], mbh362),
  (58, [(0, .inl 81), (1, .inr (false, [(12, 12)])), (2, .inr (false, [(1, 2147483646)])), (3, .inr (true, [(0, 2147483646)])), (5, .inr (false, [(9, 9)]))], [], mbh384),
  (58, [(0, .inl 81), (1, .inr (false, [(12, 12)])), (2, .inr (false, [(1, 2147483646)])), (3, .inr (true, [(0, 2147483646)])), (5, .inr (false, [(10, 10)]))], [], mbh406),
  (58, [(0, .inl 81), (1, .inr (false, [(12, 12)])), (2, .inr (false, [(1, 2147483646)])), (3, .inr (true, [(0, 2147483646)])), (5, .inr (false, [(11, 11)]))], [], mbh428),
  (58, [(0, .inl 81), (1, .inr (false, [(12, 12)])), (2, .inr (false, [(1, 2147483646)])), (3, .inr (true, [(0, 2147483646)])), (5, .inr (false, [(12, 12)]))], [], mbh450),
  (58, [(0, .inl 81), (1, .inr (false, [(13, 13)])), (2, .inr (false, [(1, 2147483646)])), (3, .inr (true, [(1, 2147483646)])), (5, .inr (false, [(0, 0)]))], [], mbh497),
  (58, [(0, .inl 81), (1, .inr (false, [(13, 13)])), (2, .inr (false, [(1, 2147483646)])), (3, .inr (true, [(0, 2147483646)])), (5, .inr (false, [(1, 1)]))], [], mbh186),
  (58, [(0, .inl 81), (1, .inr (false, [(13, 13)])), (2, .inr (false, [(1, 2147483646)])), (3, .inr (true, [(0, 2147483646)])), (5, .inr (false, [(2, 2)]))], [], mbh208),
  (58, [(0, .inl 81), (1, .inr (false, [(13, 13)])), (2, .inr (false, [(1, 2147483646)])), (3, .inr (true, [(0, 2147483646)])), (5, .inr (false, [(3, 3)]))], [], mbh230),
  (58, [(0, .inl 81), (1, .inr (false, [(13, 13)])), (2, .inr (false, [(1, 2147483646)])), (3, .inr (true, [(0, 2147483646)])), (5, .inr (false, [(4, 4)]))], [], mbh252),
  (58, [(0, .inl 81), (1, .inr (false, [(13, 13)])), (2, .inr (false, [(1, 2147483646)])), (3, .inr (true, [(0, 2147483646)])), (5, .inr (false, [(5, 5)]))], [], mbh274),
  (58, [(0, .inl 81), (1, .inr (false, [(13, 13)])), (2, .inr (false, [(1, 2147483646)])), (3, .inr (true, [(0, 2147483646)])), (5, .inr (false, [(6, 6)]))], [], mbh296),
  (58, [(0, .inl 81), (1, .inr (false, [(13, 13)])), (2, .inr (false, [(1, 2147483646)])), (3, .inr (true, [(0, 2147483646)])), (5, .inr (false, [(7, 7)]))], [], mbh318),
  (58, [(0, .inl 81), (1, .inr (false, [(13, 13)])), (2, .inr (false, [(1, 2147483646)])), (3, .inr (true, [(0, 2147483646)])), (5, .inr (false, [(8, 8)]))], [], mbh340),
  (58, [(0, .inl 81), (1, .inr (false, [(13, 13)])), (2, .inr (false, [(1, 2147483646)])), (3, .inr (true, [(0, 2147483646)])), (5, .inr (false, [(9, 9)]))], [], mbh362),
  (58, [(0, .inl 81), (1, .inr (false, [(13, 13)])), (2, .inr (false, [(1, 2147483646)])), (3, .inr (true, [(0, 2147483646)])), (5, .inr (false, [(10, 10)]))], [], mbh384),
  (58, [(0, .inl 81), (1, .inr (false, [(13, 13)])), (2, .inr (false, [(1, 2147483646)])), (3, .inr (true, [(0, 2147483646)])), (5, .inr (false, [(11, 11)]))], [], mbh406),
  (58, [(0, .inl 81), (1, .inr (false, [(13, 13)])), (2, .inr (false, [(1, 2147483646)])), (3, .inr (true, [(0, 2147483646)])), (5, .inr (false, [(12, 12)]))], [], mbh428),
  (58, [(0, .inl 81), (1, .inr (false, [(13, 13)])), (2, .inr (false, [(1, 2147483646)])), (3, .inr (true, [(0, 2147483646)])), (5, .inr (false, [(13, 13)]))], [], mbh450),
  (58, [(0, .inl 81), (1, .inr (false, [(7, 7)])), (2, .inr (false, [(1, 2147483646)])), (3, .inr (true, [(1, 2147483646)])), (5, .inr (false, [(0, 0)]))], [], mbh498),
  (58, [(0, .inl 81), (1, .inr (false, [(7, 7)])), (2, .inr (false, [(1, 2147483646)])), (3, .inr (true, [(0, 2147483646)])), (5, .inr (false, [(1, 1)]))], [], mbh318),
  (58, [(0, .inl 81), (1, .inr (false, [(7, 7)])), (2, .inr (false, [(1, 2147483646)])), (3, .inr (true, [(0, 2147483646)])), (5, .inr (false, [(2, 2)]))], [], mbh340),
  (58, [(0, .inl 81), (1, .inr (false, [(7, 7)])), (2, .inr (false, [(1, 2147483646)])), (3, .inr (true, [(0, 2147483646)])), (5, .inr (false, [(3, 3)]))], [], mbh362),
  (58, [(0, .inl 81), (1, .inr (false, [(7, 7)])), (2, .inr (false, [(1, 2147483646)])), (3, .inr (true, [(0, 2147483646)])), (5, .inr (false, [(4, 4)]))], [], mbh384),
  (58, [(0, .inl 81), (1, .inr (false, [(7, 7)])), (2, .inr (false, [(1, 2147483646)])), (3, .inr (true, [(0, 2147483646)])), (5, .inr (false, [(5, 5)]))], [], mbh406),
  (58, [(0, .inl 81), (1, .inr (false, [(7, 7)])), (2, .inr (false, [(1, 2147483646)])), (3, .inr (true, [(0, 2147483646)])), (5, .inr (false, [(6, 6)]))], [], mbh428),
  (58, [(0, .inl 81), (1, .inr (false, [(7, 7)])), (2, .inr (false, [(1, 2147483646)])), (3, .inr (true, [(0, 2147483646)])), (5, .inr (false, [(7, 7)]))], [], mbh450)]
def mbb71 : sm_P := (fun pc => sm_ch sm_t188 pc, sm_Kn 3 6 none, fun x => sm_lk sm_ca3 x, some .int)
set_option maxRecDepth 100000 in
theorem mbk71_e : ai_nd2 [mbc2, mbc3, mbc68, mbc70, mbc65, mbc67, mbc62, mbc64, mbc59, mbc61, mbc56, mbc58, mbc53, mbc55, mbc50, mbc52, mbc47, mbc49, mbc44, mbc46, mbc41, mbc43, mbc38, mbc40, mbc35, mbc37, mbc32, mbc34, mbc29, mbc31, mbc26, mbc28, mbc23, mbc25, mbc20, mbc22, mbc17, mbc19, mbc14, mbc16, mbc4, mbc12, mbc13] mbc71 mbb71 [82] 3 [58] [(36, some (2, 82, 0), -1, 42), (37, some (0, 1, 0), 1, 20)] 2000 [(0, ai_lv mbc71.2.1 0, [], mbc71.2.2.1)] (mbn71_0 ++ (mbn71_1 ++ (mbn71_2 ++ []))) = true := by decide +kernel
set_option maxRecDepth 100000 in
theorem mbk71_0 : ai_nd2 [mbc2, mbc3, mbc68, mbc70, mbc65, mbc67, mbc62, mbc64, mbc59, mbc61, mbc56, mbc58, mbc53, mbc55, mbc50, mbc52, mbc47, mbc49, mbc44, mbc46, mbc41, mbc43, mbc38, mbc40, mbc35, mbc37, mbc32, mbc34, mbc29, mbc31, mbc26, mbc28, mbc23, mbc25, mbc20, mbc22, mbc17, mbc19, mbc14, mbc16, mbc4, mbc12, mbc13] mbc71 mbb71 [82] 3 [58] [(36, some (2, 82, 0), -1, 42), (37, some (0, 1, 0), 1, 20)] 2000 mbn71_0 (mbn71_1 ++ (mbn71_2 ++ [])) = true := by decide +kernel
set_option maxRecDepth 100000 in
theorem mbk71_1 : ai_nd2 [mbc2, mbc3, mbc68, mbc70, mbc65, mbc67, mbc62, mbc64, mbc59, mbc61, mbc56, mbc58, mbc53, mbc55, mbc50, mbc52, mbc47, mbc49, mbc44, mbc46, mbc41, mbc43, mbc38, mbc40, mbc35, mbc37, mbc32, mbc34, mbc29, mbc31, mbc26, mbc28, mbc23, mbc25, mbc20, mbc22, mbc17, mbc19, mbc14, mbc16, mbc4, mbc12, mbc13] mbc71 mbb71 [82] 3 [58] [(36, some (2, 82, 0), -1, 42), (37, some (0, 1, 0), 1, 20)] 2000 mbn71_1 (mbn71_2 ++ []) = true := by decide +kernel
set_option maxRecDepth 100000 in
theorem mbk71_2 : ai_nd2 [mbc2, mbc3, mbc68, mbc70, mbc65, mbc67, mbc62, mbc64, mbc59, mbc61, mbc56, mbc58, mbc53, mbc55, mbc50, mbc52, mbc47, mbc49, mbc44, mbc46, mbc41, mbc43, mbc38, mbc40, mbc35, mbc37, mbc32, mbc34, mbc29, mbc31, mbc26, mbc28, mbc23, mbc25, mbc20, mbc22, mbc17, mbc19, mbc14, mbc16, mbc4, mbc12, mbc13] mbc71 mbb71 [82] 3 [58] [(36, some (2, 82, 0), -1, 42), (37, some (0, 1, 0), 1, 20)] 2000 mbn71_2 [] = true := by decide +kernel
set_option maxRecDepth 100000 in
theorem mbk71 : ai_chk [mbc2, mbc3, mbc68, mbc70, mbc65, mbc67, mbc62, mbc64, mbc59, mbc61, mbc56, mbc58, mbc53, mbc55, mbc50, mbc52, mbc47, mbc49, mbc44, mbc46, mbc41, mbc43, mbc38, mbc40, mbc35, mbc37, mbc32, mbc34, mbc29, mbc31, mbc26, mbc28, mbc23, mbc25, mbc20, mbc22, mbc17, mbc19, mbc14, mbc16, mbc4, mbc12, mbc13] mbc71 mbb71 [82] 6 3 [58] [(36, some (2, 82, 0), -1, 42), (37, some (0, 1, 0), 1, 20)] 2000 (mbn71_0 ++ (mbn71_1 ++ (mbn71_2 ++ []))) = true := ai_chk_of (by decide +kernel) (ai_nd2_s (ai_nd2_s (ai_nd2_s (ai_nd2_s rfl mbk71_2) mbk71_1) mbk71_0) mbk71_e)

