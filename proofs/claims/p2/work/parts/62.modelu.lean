/-! Contracts over ranges of the reference, and their checks; printed by a program of mine. -/
/-- MiceRegistersModel.byLot -/
def mbc55 : ak_C := (189, [.inl 81, .inr (true, [(0, 2147483646)])], mbh353, [82], [([], none, mbh350)])
theorem mbk55 : ai_chk [mbc54] mbc55 (fun pc => sm_ch sm_t189 pc, sm_Kn 3 6 none, fun x => sm_lk sm_ca3 x, none) [82] 6 0 [] [] 2000 [] = true := by decide +kernel
def mbh372 : aw_H := [(82, ms_r [(0, [(0, 25)])])]
/-- MiceRegistersModel.keepPast -/
def mbh373 : aw_H := [(81, mbx0), (82, ms_r [(0, [(-1, 24)])])]
def mbc56 : ak_C := (149, [.inl 81], mbh373, [82], [([], none, mbh372)])
def mbh374 : aw_H := [(82, ms_r [(0, [(0, 25)]), (12, ar_t32)])]
/-- MiceRegistersModel.passes -/
def mbh375 : aw_H := [(81, mbx0), (82, ms_r [(0, [(0, 25)])]), (83, .inr (.inl (0, 8, [], []))), (85, .inr (.inl (0, 4, [], []))), (86, .inr (.inl (0, 4, [], [])))]
def mbc57 : ak_C := (150, [.inl 81, .inr (false, [(0, 0)]), .inr (false, ar_t32)], mbh375, [82], [([], some (.inr (false, ar_t32)), mbh374)])
def mbh376 : aw_H := [(81, mbx36), (82, ms_r [(0, [(0, 25)])]), (83, .inr (.inl (0, 8, [], []))), (85, .inr (.inl (0, 4, [], []))), (86, .inr (.inl (0, 4, [], [])))]
def mbh377 : aw_H := [(81, mbx38), (82, ms_r [(0, [(0, 25)])]), (83, .inr (.inl (0, 8, [], []))), (85, .inr (.inl (0, 4, [], []))), (86, .inr (.inl (0, 4, [], [])))]
def mbh378 : aw_H := [(81, mbx40), (82, ms_r [(0, [(0, 25)])]), (83, .inr (.inl (0, 8, [], []))), (85, .inr (.inl (0, 4, [], []))), (86, .inr (.inl (0, 4, [], [])))]
def mbh379 : aw_H := [(81, mbx0), (82, ms_r [(12, ar_t32), (0, [(0, 25)])]), (83, .inr (.inl (0, 8, [], []))), (85, .inr (.inl (0, 4, [], []))), (86, .inr (.inl (0, 4, [], [])))]
def mbx380 : aw_A := ms_r [(13, ar_t32), (12, ar_t32), (0, [(0, 25)])]
def mbh381 : aw_H := [(81, mbx12), (82, mbx380), (83, .inr (.inl (0, 8, [], []))), (85, .inr (.inl (0, 4, [], []))), (86, .inr (.inl (0, 4, [], [])))]
def mbx382 : aw_A := ms_r [(14, ar_t32), (13, ar_t32), (12, ar_t32), (0, [(0, 25)])]
def mbh383 : aw_H := [(81, mbx15), (82, mbx382), (83, .inr (.inl (0, 8, [], []))), (85, .inr (.inl (0, 4, [], []))), (86, .inr (.inl (0, 4, [], [])))]
def mbx384 : aw_A := ms_r [(15, ar_t32), (14, ar_t32), (13, ar_t32), (12, ar_t32), (0, [(0, 25)])]
def mbh385 : aw_H := [(81, mbx18), (82, mbx384), (83, .inr (.inl (0, 8, [], []))), (85, .inr (.inl (0, 4, [], []))), (86, .inr (.inl (0, 4, [], [])))]
def mbx386 : aw_A := ms_r [(16, ar_t32), (15, ar_t32), (14, ar_t32), (13, ar_t32), (12, ar_t32), (0, [(0, 25)])]
def mbh387 : aw_H := [(81, mbx21), (82, mbx386), (83, .inr (.inl (0, 8, [], []))), (85, .inr (.inl (0, 4, [], []))), (86, .inr (.inl (0, 4, [], [])))]
def mbx388 : aw_A := ms_r [(17, ar_t32), (16, ar_t32), (15, ar_t32), (14, ar_t32), (13, ar_t32), (12, ar_t32), (0, [(0, 25)])]
def mbh389 : aw_H := [(81, mbx24), (82, mbx388), (83, .inr (.inl (0, 8, [], []))), (85, .inr (.inl (0, 4, [], []))), (86, .inr (.inl (0, 4, [], [])))]
def mbx390 : aw_A := ms_r [(18, ar_t32), (17, ar_t32), (16, ar_t32), (15, ar_t32), (14, ar_t32), (13, ar_t32), (12, ar_t32), (0, [(0, 25)])]
def mbh391 : aw_H := [(81, mbx27), (82, mbx390), (83, .inr (.inl (0, 8, [], []))), (85, .inr (.inl (0, 4, [], []))), (86, .inr (.inl (0, 4, [], [])))]
def mbx392 : aw_A := ms_r [(19, ar_t32), (18, ar_t32), (17, ar_t32), (16, ar_t32), (15, ar_t32), (14, ar_t32), (13, ar_t32), (12, ar_t32), (0, [(0, 25)])]
def mbh393 : aw_H := [(81, mbx30), (82, mbx392), (83, .inr (.inl (0, 8, [], []))), (85, .inr (.inl (0, 4, [], []))), (86, .inr (.inl (0, 4, [], [])))]
theorem mbk57 : ai_chk [mbc5, mbc9, mbc10] mbc57 (fun pc => sm_ch sm_t150 pc, sm_Kn 3 7 none, fun x => sm_lk sm_ca3 x, some .int) [82] 7 0 [5, 130] [] 2000 [(5, [(0, .inl 81), (1, .inr (false, [(0, 0)])), (2, .inr (false, ar_t32)), (3, .inr (false, [(0, 0)])), (4, .inr (false, [(0, 0)]))], [], mbh375),
  (5, [(0, .inl 81), (1, .inr (false, [(0, 0)])), (2, .inr (false, ar_t32)), (3, .inr (false, ar_t32)), (4, .inr (false, [(1, 1)])), (5, .inr (false, [(-9, -9), (0, 7)]))], [], mbh375),
  (5, [(0, .inl 81), (1, .inr (false, [(0, 0)])), (2, .inr (false, ar_t32)), (3, .inr (false, ar_t32)), (4, .inr (false, [(2, 2)])), (5, .inr (false, [(-9, -9), (0, 7)]))], [], mbh376),
  (5, [(0, .inl 81), (1, .inr (false, [(0, 0)])), (2, .inr (false, ar_t32)), (3, .inr (false, ar_t32)), (4, .inr (false, [(3, 3)])), (5, .inr (false, [(-9, -9), (0, 7)]))], [], mbh377),
  (5, [(0, .inl 81), (1, .inr (false, [(0, 0)])), (2, .inr (false, ar_t32)), (3, .inr (false, ar_t32)), (4, .inr (false, [(4, 4)])), (5, .inr (false, [(-9, -9), (0, 7)]))], [], mbh378),
  (130, [(0, .inl 81), (1, .inr (false, [(0, 0)])), (2, .inr (false, ar_t32)), (3, .inr (false, ar_t32)), (4, .inr (false, [(0, 0)])), (5, .inr (false, [(-9, -9), (0, 7)]))], [], mbh375),
  (130, [(0, .inl 81), (1, .inr (false, [(0, 0)])), (2, .inr (false, ar_t32)), (3, .inr (false, ar_t32)), (4, .inr (false, [(1, 1)])), (5, .inr (false, [(-9, -9), (0, 7)]))], [], mbh379),
  (130, [(0, .inl 81), (1, .inr (false, [(0, 0)])), (2, .inr (false, ar_t32)), (3, .inr (false, ar_t32)), (4, .inr (false, [(2, 2)])), (5, .inr (false, [(-9, -9), (0, 7)]))], [], mbh381),
  (130, [(0, .inl 81), (1, .inr (false, [(0, 0)])), (2, .inr (false, ar_t32)), (3, .inr (false, ar_t32)), (4, .inr (false, [(3, 3)])), (5, .inr (false, [(-9, -9), (0, 7)]))], [], mbh383),
  (130, [(0, .inl 81), (1, .inr (false, [(0, 0)])), (2, .inr (false, ar_t32)), (3, .inr (false, ar_t32)), (4, .inr (false, [(4, 4)])), (5, .inr (false, [(-9, -9), (0, 7)]))], [], mbh385),
  (130, [(0, .inl 81), (1, .inr (false, [(0, 0)])), (2, .inr (false, ar_t32)), (3, .inr (false, ar_t32)), (4, .inr (false, [(5, 5)])), (5, .inr (false, [(-9, -9), (0, 7)]))], [], mbh387),
  (130, [(0, .inl 81), (1, .inr (false, [(0, 0)])), (2, .inr (false, ar_t32)), (3, .inr (false, ar_t32)), (4, .inr (false, [(6, 6)])), (5, .inr (false, [(-9, -9), (0, 7)]))], [], mbh389),
  (130, [(0, .inl 81), (1, .inr (false, [(0, 0)])), (2, .inr (false, ar_t32)), (3, .inr (false, ar_t32)), (4, .inr (false, [(7, 7)])), (5, .inr (false, [(-9, -9), (0, 7)]))], [], mbh391),
  (130, [(0, .inl 81), (1, .inr (false, [(0, 0)])), (2, .inr (false, ar_t32)), (3, .inr (false, ar_t32)), (4, .inr (false, [(8, 8)])), (5, .inr (false, [(-9, -9), (0, 7)]))], [], mbh393)] = true := by decide +kernel
/-- MiceRegistersModel.byLot -/
def mbc58 : ak_C := (189, [.inl 81, .inr (true, [(0, 2147483646)])], mbh375, [82], [([], none, mbh372)])
theorem mbk58 : ai_chk [mbc57] mbc58 (fun pc => sm_ch sm_t189 pc, sm_Kn 3 6 none, fun x => sm_lk sm_ca3 x, none) [82] 6 0 [] [] 2000 [] = true := by decide +kernel
def mbh394 : aw_H := [(82, ms_r [(0, [(0, 24)])])]
/-- MiceRegistersModel.keepPast -/
def mbh395 : aw_H := [(81, mbx0), (82, ms_r [(0, [(-1, 23)])])]
def mbc59 : ak_C := (149, [.inl 81], mbh395, [82], [([], none, mbh394)])
def mbh396 : aw_H := [(82, ms_r [(0, [(0, 24)]), (12, ar_t32)])]
/-- MiceRegistersModel.passes -/
def mbh397 : aw_H := [(81, mbx0), (82, ms_r [(0, [(0, 24)])]), (83, .inr (.inl (0, 8, [], []))), (85, .inr (.inl (0, 4, [], []))), (86, .inr (.inl (0, 4, [], [])))]
def mbc60 : ak_C := (150, [.inl 81, .inr (false, [(0, 0)]), .inr (false, ar_t32)], mbh397, [82], [([], some (.inr (false, ar_t32)), mbh396)])
def mbh398 : aw_H := [(81, mbx36), (82, ms_r [(0, [(0, 24)])]), (83, .inr (.inl (0, 8, [], []))), (85, .inr (.inl (0, 4, [], []))), (86, .inr (.inl (0, 4, [], [])))]
def mbh399 : aw_H := [(81, mbx38), (82, ms_r [(0, [(0, 24)])]), (83, .inr (.inl (0, 8, [], []))), (85, .inr (.inl (0, 4, [], []))), (86, .inr (.inl (0, 4, [], [])))]
def mbh400 : aw_H := [(81, mbx40), (82, ms_r [(0, [(0, 24)])]), (83, .inr (.inl (0, 8, [], []))), (85, .inr (.inl (0, 4, [], []))), (86, .inr (.inl (0, 4, [], [])))]
def mbh401 : aw_H := [(81, mbx0), (82, ms_r [(12, ar_t32), (0, [(0, 24)])]), (83, .inr (.inl (0, 8, [], []))), (85, .inr (.inl (0, 4, [], []))), (86, .inr (.inl (0, 4, [], [])))]
def mbx402 : aw_A := ms_r [(13, ar_t32), (12, ar_t32), (0, [(0, 24)])]
def mbh403 : aw_H := [(81, mbx12), (82, mbx402), (83, .inr (.inl (0, 8, [], []))), (85, .inr (.inl (0, 4, [], []))), (86, .inr (.inl (0, 4, [], [])))]
def mbx404 : aw_A := ms_r [(14, ar_t32), (13, ar_t32), (12, ar_t32), (0, [(0, 24)])]
def mbh405 : aw_H := [(81, mbx15), (82, mbx404), (83, .inr (.inl (0, 8, [], []))), (85, .inr (.inl (0, 4, [], []))), (86, .inr (.inl (0, 4, [], [])))]
def mbx406 : aw_A := ms_r [(15, ar_t32), (14, ar_t32), (13, ar_t32), (12, ar_t32), (0, [(0, 24)])]
def mbh407 : aw_H := [(81, mbx18), (82, mbx406), (83, .inr (.inl (0, 8, [], []))), (85, .inr (.inl (0, 4, [], []))), (86, .inr (.inl (0, 4, [], [])))]
def mbx408 : aw_A := ms_r [(16, ar_t32), (15, ar_t32), (14, ar_t32), (13, ar_t32), (12, ar_t32), (0, [(0, 24)])]
def mbh409 : aw_H := [(81, mbx21), (82, mbx408), (83, .inr (.inl (0, 8, [], []))), (85, .inr (.inl (0, 4, [], []))), (86, .inr (.inl (0, 4, [], [])))]
def mbx410 : aw_A := ms_r [(17, ar_t32), (16, ar_t32), (15, ar_t32), (14, ar_t32), (13, ar_t32), (12, ar_t32), (0, [(0, 24)])]
def mbh411 : aw_H := [(81, mbx24), (82, mbx410), (83, .inr (.inl (0, 8, [], []))), (85, .inr (.inl (0, 4, [], []))), (86, .inr (.inl (0, 4, [], [])))]
def mbx412 : aw_A := ms_r [(18, ar_t32), (17, ar_t32), (16, ar_t32), (15, ar_t32), (14, ar_t32), (13, ar_t32), (12, ar_t32), (0, [(0, 24)])]
def mbh413 : aw_H := [(81, mbx27), (82, mbx412), (83, .inr (.inl (0, 8, [], []))), (85, .inr (.inl (0, 4, [], []))), (86, .inr (.inl (0, 4, [], [])))]
def mbx414 : aw_A := ms_r [(19, ar_t32), (18, ar_t32), (17, ar_t32), (16, ar_t32), (15, ar_t32), (14, ar_t32), (13, ar_t32), (12, ar_t32), (0, [(0, 24)])]
def mbh415 : aw_H := [(81, mbx30), (82, mbx414), (83, .inr (.inl (0, 8, [], []))), (85, .inr (.inl (0, 4, [], []))), (86, .inr (.inl (0, 4, [], [])))]
theorem mbk60 : ai_chk [mbc5, mbc9, mbc10] mbc60 (fun pc => sm_ch sm_t150 pc, sm_Kn 3 7 none, fun x => sm_lk sm_ca3 x, some .int) [82] 7 0 [5, 130] [] 2000 [(5, [(0, .inl 81), (1, .inr (false, [(0, 0)])), (2, .inr (false, ar_t32)), (3, .inr (false, [(0, 0)])), (4, .inr (false, [(0, 0)]))], [], mbh397),
  (5, [(0, .inl 81), (1, .inr (false, [(0, 0)])), (2, .inr (false, ar_t32)), (3, .inr (false, ar_t32)), (4, .inr (false, [(1, 1)])), (5, .inr (false, [(-9, -9), (0, 7)]))], [], mbh397),
  (5, [(0, .inl 81), (1, .inr (false, [(0, 0)])), (2, .inr (false, ar_t32)), (3, .inr (false, ar_t32)), (4, .inr (false, [(2, 2)])), (5, .inr (false, [(-9, -9), (0, 7)]))], [], mbh398),
  (5, [(0, .inl 81), (1, .inr (false, [(0, 0)])), (2, .inr (false, ar_t32)), (3, .inr (false, ar_t32)), (4, .inr (false, [(3, 3)])), (5, .inr (false, [(-9, -9), (0, 7)]))], [], mbh399),
  (5, [(0, .inl 81), (1, .inr (false, [(0, 0)])), (2, .inr (false, ar_t32)), (3, .inr (false, ar_t32)), (4, .inr (false, [(4, 4)])), (5, .inr (false, [(-9, -9), (0, 7)]))], [], mbh400),
  (130, [(0, .inl 81), (1, .inr (false, [(0, 0)])), (2, .inr (false, ar_t32)), (3, .inr (false, ar_t32)), (4, .inr (false, [(0, 0)])), (5, .inr (false, [(-9, -9), (0, 7)]))], [], mbh397),
  (130, [(0, .inl 81), (1, .inr (false, [(0, 0)])), (2, .inr (false, ar_t32)), (3, .inr (false, ar_t32)), (4, .inr (false, [(1, 1)])), (5, .inr (false, [(-9, -9), (0, 7)]))], [], mbh401),
  (130, [(0, .inl 81), (1, .inr (false, [(0, 0)])), (2, .inr (false, ar_t32)), (3, .inr (false, ar_t32)), (4, .inr (false, [(2, 2)])), (5, .inr (false, [(-9, -9), (0, 7)]))], [], mbh403),
  (130, [(0, .inl 81), (1, .inr (false, [(0, 0)])), (2, .inr (false, ar_t32)), (3, .inr (false, ar_t32)), (4, .inr (false, [(3, 3)])), (5, .inr (false, [(-9, -9), (0, 7)]))], [], mbh405),
  (130, [(0, .inl 81), (1, .inr (false, [(0, 0)])), (2, .inr (false, ar_t32)), (3, .inr (false, ar_t32)), (4, .inr (false, [(4, 4)])), (5, .inr (false, [(-9, -9), (0, 7)]))], [], mbh407),
  (130, [(0, .inl 81), (1, .inr (false, [(0, 0)])), (2, .inr (false, ar_t32)), (3, .inr (false, ar_t32)), (4, .inr (false, [(5, 5)])), (5, .inr (false, [(-9, -9), (0, 7)]))], [], mbh409),
  (130, [(0, .inl 81), (1, .inr (false, [(0, 0)])), (2, .inr (false, ar_t32)), (3, .inr (false, ar_t32)), (4, .inr (false, [(6, 6)])), (5, .inr (false, [(-9, -9), (0, 7)]))], [], mbh411),
  (130, [(0, .inl 81), (1, .inr (false, [(0, 0)])), (2, .inr (false, ar_t32)), (3, .inr (false, ar_t32)), (4, .inr (false, [(7, 7)])), (5, .inr (false, [(-9, -9), (0, 7)]))], [], mbh413),
  (130, [(0, .inl 81), (1, .inr (false, [(0, 0)])), (2, .inr (false, ar_t32)), (3, .inr (false, ar_t32)), (4, .inr (false, [(8, 8)])), (5, .inr (false, [(-9, -9), (0, 7)]))], [], mbh415)] = true := by decide +kernel
/-- MiceRegistersModel.byLot -/
def mbc61 : ak_C := (189, [.inl 81, .inr (true, [(0, 2147483646)])], mbh397, [82], [([], none, mbh394)])
theorem mbk61 : ai_chk [mbc60] mbc61 (fun pc => sm_ch sm_t189 pc, sm_Kn 3 6 none, fun x => sm_lk sm_ca3 x, none) [82] 6 0 [] [] 2000 [] = true := by decide +kernel
def mbh416 : aw_H := [(82, ms_r [(0, [(0, 23)])])]
/-- MiceRegistersModel.keepPast -/
def mbh417 : aw_H := [(81, mbx0), (82, ms_r [(0, [(-1, 22)])])]
def mbc62 : ak_C := (149, [.inl 81], mbh417, [82], [([], none, mbh416)])
def mbh418 : aw_H := [(82, ms_r [(0, [(0, 23)]), (12, ar_t32)])]
/-- MiceRegistersModel.passes -/
def mbh419 : aw_H := [(81, mbx0), (82, ms_r [(0, [(0, 23)])]), (83, .inr (.inl (0, 8, [], []))), (85, .inr (.inl (0, 4, [], []))), (86, .inr (.inl (0, 4, [], [])))]
def mbc63 : ak_C := (150, [.inl 81, .inr (false, [(0, 0)]), .inr (false, ar_t32)], mbh419, [82], [([], some (.inr (false, ar_t32)), mbh418)])
def mbh420 : aw_H := [(81, mbx36), (82, ms_r [(0, [(0, 23)])]), (83, .inr (.inl (0, 8, [], []))), (85, .inr (.inl (0, 4, [], []))), (86, .inr (.inl (0, 4, [], [])))]
def mbh421 : aw_H := [(81, mbx38), (82, ms_r [(0, [(0, 23)])]), (83, .inr (.inl (0, 8, [], []))), (85, .inr (.inl (0, 4, [], []))), (86, .inr (.inl (0, 4, [], [])))]
def mbh422 : aw_H := [(81, mbx40), (82, ms_r [(0, [(0, 23)])]), (83, .inr (.inl (0, 8, [], []))), (85, .inr (.inl (0, 4, [], []))), (86, .inr (.inl (0, 4, [], [])))]
def mbh423 : aw_H := [(81, mbx0), (82, ms_r [(12, ar_t32), (0, [(0, 23)])]), (83, .inr (.inl (0, 8, [], []))), (85, .inr (.inl (0, 4, [], []))), (86, .inr (.inl (0, 4, [], [])))]
def mbx424 : aw_A := ms_r [(13, ar_t32), (12, ar_t32), (0, [(0, 23)])]
def mbh425 : aw_H := [(81, mbx12), (82, mbx424), (83, .inr (.inl (0, 8, [], []))), (85, .inr (.inl (0, 4, [], []))), (86, .inr (.inl (0, 4, [], [])))]
def mbx426 : aw_A := ms_r [(14, ar_t32), (13, ar_t32), (12, ar_t32), (0, [(0, 23)])]
def mbh427 : aw_H := [(81, mbx15), (82, mbx426), (83, .inr (.inl (0, 8, [], []))), (85, .inr (.inl (0, 4, [], []))), (86, .inr (.inl (0, 4, [], [])))]
def mbx428 : aw_A := ms_r [(15, ar_t32), (14, ar_t32), (13, ar_t32), (12, ar_t32), (0, [(0, 23)])]
def mbh429 : aw_H := [(81, mbx18), (82, mbx428), (83, .inr (.inl (0, 8, [], []))), (85, .inr (.inl (0, 4, [], []))), (86, .inr (.inl (0, 4, [], [])))]
def mbx430 : aw_A := ms_r [(16, ar_t32), (15, ar_t32), (14, ar_t32), (13, ar_t32), (12, ar_t32), (0, [(0, 23)])]
def mbh431 : aw_H := [(81, mbx21), (82, mbx430), (83, .inr (.inl (0, 8, [], []))), (85, .inr (.inl (0, 4, [], []))), (86, .inr (.inl (0, 4, [], [])))]
def mbx432 : aw_A := ms_r [(17, ar_t32), (16, ar_t32), (15, ar_t32), (14, ar_t32), (13, ar_t32), (12, ar_t32), (0, [(0, 23)])]
def mbh433 : aw_H := [(81, mbx24), (82, mbx432), (83, .inr (.inl (0, 8, [], []))), (85, .inr (.inl (0, 4, [], []))), (86, .inr (.inl (0, 4, [], [])))]
def mbx434 : aw_A := ms_r [(18, ar_t32), (17, ar_t32), (16, ar_t32), (15, ar_t32), (14, ar_t32), (13, ar_t32), (12, ar_t32), (0, [(0, 23)])]
def mbh435 : aw_H := [(81, mbx27), (82, mbx434), (83, .inr (.inl (0, 8, [], []))), (85, .inr (.inl (0, 4, [], []))), (86, .inr (.inl (0, 4, [], [])))]
def mbx436 : aw_A := ms_r [(19, ar_t32), (18, ar_t32), (17, ar_t32), (16, ar_t32), (15, ar_t32), (14, ar_t32), (13, ar_t32), (12, ar_t32), (0, [(0, 23)])]
def mbh437 : aw_H := [(81, mbx30), (82, mbx436), (83, .inr (.inl (0, 8, [], []))), (85, .inr (.inl (0, 4, [], []))), (86, .inr (.inl (0, 4, [], [])))]
theorem mbk63 : ai_chk [mbc5, mbc9, mbc10] mbc63 (fun pc => sm_ch sm_t150 pc, sm_Kn 3 7 none, fun x => sm_lk sm_ca3 x, some .int) [82] 7 0 [5, 130] [] 2000 [(5, [(0, .inl 81), (1, .inr (false, [(0, 0)])), (2, .inr (false, ar_t32)), (3, .inr (false, [(0, 0)])), (4, .inr (false, [(0, 0)]))], [], mbh419),
  (5, [(0, .inl 81), (1, .inr (false, [(0, 0)])), (2, .inr (false, ar_t32)), (3, .inr (false, ar_t32)), (4, .inr (false, [(1, 1)])), (5, .inr (false, [(-9, -9), (0, 7)]))], [], mbh419),
  (5, [(0, .inl 81), (1, .inr (false, [(0, 0)])), (2, .inr (false, ar_t32)), (3, .inr (false, ar_t32)), (4, .inr (false, [(2, 2)])), (5, .inr (false, [(-9, -9), (0, 7)]))], [], mbh420),
  (5, [(0, .inl 81), (1, .inr (false, [(0, 0)])), (2, .inr (false, ar_t32)), (3, .inr (false, ar_t32)), (4, .inr (false, [(3, 3)])), (5, .inr (false, [(-9, -9), (0, 7)]))], [], mbh421),
  (5, [(0, .inl 81), (1, .inr (false, [(0, 0)])), (2, .inr (false, ar_t32)), (3, .inr (false, ar_t32)), (4, .inr (false, [(4, 4)])), (5, .inr (false, [(-9, -9), (0, 7)]))], [], mbh422),
  (130, [(0, .inl 81), (1, .inr (false, [(0, 0)])), (2, .inr (false, ar_t32)), (3, .inr (false, ar_t32)), (4, .inr (false, [(0, 0)])), (5, .inr (false, [(-9, -9), (0, 7)]))], [], mbh419),
  (130, [(0, .inl 81), (1, .inr (false, [(0, 0)])), (2, .inr (false, ar_t32)), (3, .inr (false, ar_t32)), (4, .inr (false, [(1, 1)])), (5, .inr (false, [(-9, -9), (0, 7)]))], [], mbh423),
  (130, [(0, .inl 81), (1, .inr (false, [(0, 0)])), (2, .inr (false, ar_t32)), (3, .inr (false, ar_t32)), (4, .inr (false, [(2, 2)])), (5, .inr (false, [(-9, -9), (0, 7)]))], [], mbh425),
  (130, [(0, .inl 81), (1, .inr (false, [(0, 0)])), (2, .inr (false, ar_t32)), (3, .inr (false, ar_t32)), (4, .inr (false, [(3, 3)])), (5, .inr (false, [(-9, -9), (0, 7)]))], [], mbh427),
  (130, [(0, .inl 81), (1, .inr (false, [(0, 0)])), (2, .inr (false, ar_t32)), (3, .inr (false, ar_t32)), (4, .inr (false, [(4, 4)])), (5, .inr (false, [(-9, -9), (0, 7)]))], [], mbh429),
  (130, [(0, .inl 81), (1, .inr (false, [(0, 0)])), (2, .inr (false, ar_t32)), (3, .inr (false, ar_t32)), (4, .inr (false, [(5, 5)])), (5, .inr (false, [(-9, -9), (0, 7)]))], [], mbh431),
  (130, [(0, .inl 81), (1, .inr (false, [(0, 0)])), (2, .inr (false, ar_t32)), (3, .inr (false, ar_t32)), (4, .inr (false, [(6, 6)])), (5, .inr (false, [(-9, -9), (0, 7)]))], [], mbh433),
  (130, [(0, .inl 81), (1, .inr (false, [(0, 0)])), (2, .inr (false, ar_t32)), (3, .inr (false, ar_t32)), (4, .inr (false, [(7, 7)])), (5, .inr (false, [(-9, -9), (0, 7)]))], [], mbh435),
  (130, [(0, .inl 81), (1, .inr (false, [(0, 0)])), (2, .inr (false, ar_t32)), (3, .inr (false, ar_t32)), (4, .inr (false, [(8, 8)])), (5, .inr (false, [(-9, -9), (0, 7)]))], [], mbh437)] = true := by decide +kernel
/-- MiceRegistersModel.byLot -/
def mbc64 : ak_C := (189, [.inl 81, .inr (true, [(0, 2147483646)])], mbh419, [82], [([], none, mbh416)])
theorem mbk64 : ai_chk [mbc63] mbc64 (fun pc => sm_ch sm_t189 pc, sm_Kn 3 6 none, fun x => sm_lk sm_ca3 x, none) [82] 6 0 [] [] 2000 [] = true := by decide +kernel
def mbh438 : aw_H := [(82, ms_r [(0, [(0, 22)])])]
/-- MiceRegistersModel.keepPast -/
def mbh439 : aw_H := [(81, mbx0), (82, ms_r [(0, [(-1, 21)])])]
def mbc65 : ak_C := (149, [.inl 81], mbh439, [82], [([], none, mbh438)])
def mbh440 : aw_H := [(82, ms_r [(0, [(0, 22)]), (12, ar_t32)])]
/-- MiceRegistersModel.passes -/
def mbh441 : aw_H := [(81, mbx0), (82, ms_r [(0, [(0, 22)])]), (83, .inr (.inl (0, 8, [], []))), (85, .inr (.inl (0, 4, [], []))), (86, .inr (.inl (0, 4, [], [])))]
def mbc66 : ak_C := (150, [.inl 81, .inr (false, [(0, 0)]), .inr (false, ar_t32)], mbh441, [82], [([], some (.inr (false, ar_t32)), mbh440)])
def mbh442 : aw_H := [(81, mbx36), (82, ms_r [(0, [(0, 22)])]), (83, .inr (.inl (0, 8, [], []))), (85, .inr (.inl (0, 4, [], []))), (86, .inr (.inl (0, 4, [], [])))]
def mbh443 : aw_H := [(81, mbx38), (82, ms_r [(0, [(0, 22)])]), (83, .inr (.inl (0, 8, [], []))), (85, .inr (.inl (0, 4, [], []))), (86, .inr (.inl (0, 4, [], [])))]
def mbh444 : aw_H := [(81, mbx40), (82, ms_r [(0, [(0, 22)])]), (83, .inr (.inl (0, 8, [], []))), (85, .inr (.inl (0, 4, [], []))), (86, .inr (.inl (0, 4, [], [])))]
def mbh445 : aw_H := [(81, mbx0), (82, ms_r [(12, ar_t32), (0, [(0, 22)])]), (83, .inr (.inl (0, 8, [], []))), (85, .inr (.inl (0, 4, [], []))), (86, .inr (.inl (0, 4, [], [])))]
def mbx446 : aw_A := ms_r [(13, ar_t32), (12, ar_t32), (0, [(0, 22)])]
def mbh447 : aw_H := [(81, mbx12), (82, mbx446), (83, .inr (.inl (0, 8, [], []))), (85, .inr (.inl (0, 4, [], []))), (86, .inr (.inl (0, 4, [], [])))]
def mbx448 : aw_A := ms_r [(14, ar_t32), (13, ar_t32), (12, ar_t32), (0, [(0, 22)])]
def mbh449 : aw_H := [(81, mbx15), (82, mbx448), (83, .inr (.inl (0, 8, [], []))), (85, .inr (.inl (0, 4, [], []))), (86, .inr (.inl (0, 4, [], [])))]
def mbx450 : aw_A := ms_r [(15, ar_t32), (14, ar_t32), (13, ar_t32), (12, ar_t32), (0, [(0, 22)])]
def mbh451 : aw_H := [(81, mbx18), (82, mbx450), (83, .inr (.inl (0, 8, [], []))), (85, .inr (.inl (0, 4, [], []))), (86, .inr (.inl (0, 4, [], [])))]
def mbx452 : aw_A := ms_r [(16, ar_t32), (15, ar_t32), (14, ar_t32), (13, ar_t32), (12, ar_t32), (0, [(0, 22)])]
def mbh453 : aw_H := [(81, mbx21), (82, mbx452), (83, .inr (.inl (0, 8, [], []))), (85, .inr (.inl (0, 4, [], []))), (86, .inr (.inl (0, 4, [], [])))]
def mbx454 : aw_A := ms_r [(17, ar_t32), (16, ar_t32), (15, ar_t32), (14, ar_t32), (13, ar_t32), (12, ar_t32), (0, [(0, 22)])]
def mbh455 : aw_H := [(81, mbx24), (82, mbx454), (83, .inr (.inl (0, 8, [], []))), (85, .inr (.inl (0, 4, [], []))), (86, .inr (.inl (0, 4, [], [])))]
def mbx456 : aw_A := ms_r [(18, ar_t32), (17, ar_t32), (16, ar_t32), (15, ar_t32), (14, ar_t32), (13, ar_t32), (12, ar_t32), (0, [(0, 22)])]
def mbh457 : aw_H := [(81, mbx27), (82, mbx456), (83, .inr (.inl (0, 8, [], []))), (85, .inr (.inl (0, 4, [], []))), (86, .inr (.inl (0, 4, [], [])))]
def mbx458 : aw_A := ms_r [(19, ar_t32), (18, ar_t32), (17, ar_t32), (16, ar_t32), (15, ar_t32), (14, ar_t32), (13, ar_t32), (12, ar_t32), (0, [(0, 22)])]
def mbh459 : aw_H := [(81, mbx30), (82, mbx458), (83, .inr (.inl (0, 8, [], []))), (85, .inr (.inl (0, 4, [], []))), (86, .inr (.inl (0, 4, [], [])))]
theorem mbk66 : ai_chk [mbc5, mbc9, mbc10] mbc66 (fun pc => sm_ch sm_t150 pc, sm_Kn 3 7 none, fun x => sm_lk sm_ca3 x, some .int) [82] 7 0 [5, 130] [] 2000 [(5, [(0, .inl 81), (1, .inr (false, [(0, 0)])), (2, .inr (false, ar_t32)), (3, .inr (false, [(0, 0)])), (4, .inr (false, [(0, 0)]))], [], mbh441),
  (5, [(0, .inl 81), (1, .inr (false, [(0, 0)])), (2, .inr (false, ar_t32)), (3, .inr (false, ar_t32)), (4, .inr (false, [(1, 1)])), (5, .inr (false, [(-9, -9), (0, 7)]))], [], mbh441),
  (5, [(0, .inl 81), (1, .inr (false, [(0, 0)])), (2, .inr (false, ar_t32)), (3, .inr (false, ar_t32)), (4, .inr (false, [(2, 2)])), (5, .inr (false, [(-9, -9), (0, 7)]))], [], mbh442),
  (5, [(0, .inl 81), (1, .inr (false, [(0, 0)])), (2, .inr (false, ar_t32)), (3, .inr (false, ar_t32)), (4, .inr (false, [(3, 3)])), (5, .inr (false, [(-9, -9), (0, 7)]))], [], mbh443),
  (5, [(0, .inl 81), (1, .inr (false, [(0, 0)])), (2, .inr (false, ar_t32)), (3, .inr (false, ar_t32)), (4, .inr (false, [(4, 4)])), (5, .inr (false, [(-9, -9), (0, 7)]))], [], mbh444),
  (130, [(0, .inl 81), (1, .inr (false, [(0, 0)])), (2, .inr (false, ar_t32)), (3, .inr (false, ar_t32)), (4, .inr (false, [(0, 0)])), (5, .inr (false, [(-9, -9), (0, 7)]))], [], mbh441),
  (130, [(0, .inl 81), (1, .inr (false, [(0, 0)])), (2, .inr (false, ar_t32)), (3, .inr (false, ar_t32)), (4, .inr (false, [(1, 1)])), (5, .inr (false, [(-9, -9), (0, 7)]))], [], mbh445),
  (130, [(0, .inl 81), (1, .inr (false, [(0, 0)])), (2, .inr (false, ar_t32)), (3, .inr (false, ar_t32)), (4, .inr (false, [(2, 2)])), (5, .inr (false, [(-9, -9), (0, 7)]))], [], mbh447),
  (130, [(0, .inl 81), (1, .inr (false, [(0, 0)])), (2, .inr (false, ar_t32)), (3, .inr (false, ar_t32)), (4, .inr (false, [(3, 3)])), (5, .inr (false, [(-9, -9), (0, 7)]))], [], mbh449),
  (130, [(0, .inl 81), (1, .inr (false, [(0, 0)])), (2, .inr (false, ar_t32)), (3, .inr (false, ar_t32)), (4, .inr (false, [(4, 4)])), (5, .inr (false, [(-9, -9), (0, 7)]))], [], mbh451),
  (130, [(0, .inl 81), (1, .inr (false, [(0, 0)])), (2, .inr (false, ar_t32)), (3, .inr (false, ar_t32)), (4, .inr (false, [(5, 5)])), (5, .inr (false, [(-9, -9), (0, 7)]))], [], mbh453),
  (130, [(0, .inl 81), (1, .inr (false, [(0, 0)])), (2, .inr (false, ar_t32)), (3, .inr (false, ar_t32)), (4, .inr (false, [(6, 6)])), (5, .inr (false, [(-9, -9), (0, 7)]))], [], mbh455),
  (130, [(0, .inl 81), (1, .inr (false, [(0, 0)])), (2, .inr (false, ar_t32)), (3, .inr (false, ar_t32)), (4, .inr (false, [(7, 7)])), (5, .inr (false, [(-9, -9), (0, 7)]))], [], mbh457),
  (130, [(0, .inl 81), (1, .inr (false, [(0, 0)])), (2, .inr (false, ar_t32)), (3, .inr (false, ar_t32)), (4, .inr (false, [(8, 8)])), (5, .inr (false, [(-9, -9), (0, 7)]))], [], mbh459)] = true := by decide +kernel
/-- MiceRegistersModel.byLot -/
def mbc67 : ak_C := (189, [.inl 81, .inr (true, [(0, 2147483646)])], mbh441, [82], [([], none, mbh438)])
theorem mbk67 : ai_chk [mbc66] mbc67 (fun pc => sm_ch sm_t189 pc, sm_Kn 3 6 none, fun x => sm_lk sm_ca3 x, none) [82] 6 0 [] [] 2000 [] = true := by decide +kernel
def mbh460 : aw_H := [(82, ms_r [(0, [(0, 21)])])]
/-- MiceRegistersModel.keepPast -/
def mbh461 : aw_H := [(81, mbx0), (82, ms_r [(0, [(-1, 20)])])]
def mbc68 : ak_C := (149, [.inl 81], mbh461, [82], [([], none, mbh460)])
def mbh462 : aw_H := [(82, ms_r [(0, [(0, 21)]), (12, ar_t32)])]
/-- MiceRegistersModel.passes -/
def mbh463 : aw_H := [(81, mbx0), (82, ms_r [(0, [(0, 21)])]), (83, .inr (.inl (0, 8, [], []))), (85, .inr (.inl (0, 4, [], []))), (86, .inr (.inl (0, 4, [], [])))]
def mbc69 : ak_C := (150, [.inl 81, .inr (false, [(0, 0)]), .inr (false, ar_t32)], mbh463, [82], [([], some (.inr (false, ar_t32)), mbh462)])
def mbh464 : aw_H := [(81, mbx36), (82, ms_r [(0, [(0, 21)])]), (83, .inr (.inl (0, 8, [], []))), (85, .inr (.inl (0, 4, [], []))), (86, .inr (.inl (0, 4, [], [])))]
def mbh465 : aw_H := [(81, mbx38), (82, ms_r [(0, [(0, 21)])]), (83, .inr (.inl (0, 8, [], []))), (85, .inr (.inl (0, 4, [], []))), (86, .inr (.inl (0, 4, [], [])))]
def mbh466 : aw_H := [(81, mbx40), (82, ms_r [(0, [(0, 21)])]), (83, .inr (.inl (0, 8, [], []))), (85, .inr (.inl (0, 4, [], []))), (86, .inr (.inl (0, 4, [], [])))]
def mbh467 : aw_H := [(81, mbx0), (82, ms_r [(12, ar_t32), (0, [(0, 21)])]), (83, .inr (.inl (0, 8, [], []))), (85, .inr (.inl (0, 4, [], []))), (86, .inr (.inl (0, 4, [], [])))]
def mbx468 : aw_A := ms_r [(13, ar_t32), (12, ar_t32), (0, [(0, 21)])]
def mbh469 : aw_H := [(81, mbx12), (82, mbx468), (83, .inr (.inl (0, 8, [], []))), (85, .inr (.inl (0, 4, [], []))), (86, .inr (.inl (0, 4, [], [])))]
def mbx470 : aw_A := ms_r [(14, ar_t32), (13, ar_t32), (12, ar_t32), (0, [(0, 21)])]
def mbh471 : aw_H := [(81, mbx15), (82, mbx470), (83, .inr (.inl (0, 8, [], []))), (85, .inr (.inl (0, 4, [], []))), (86, .inr (.inl (0, 4, [], [])))]
def mbx472 : aw_A := ms_r [(15, ar_t32), (14, ar_t32), (13, ar_t32), (12, ar_t32), (0, [(0, 21)])]
def mbh473 : aw_H := [(81, mbx18), (82, mbx472), (83, .inr (.inl (0, 8, [], []))), (85, .inr (.inl (0, 4, [], []))), (86, .inr (.inl (0, 4, [], [])))]
def mbx474 : aw_A := ms_r [(16, ar_t32), (15, ar_t32), (14, ar_t32), (13, ar_t32), (12, ar_t32), (0, [(0, 21)])]
def mbh475 : aw_H := [(81, mbx21), (82, mbx474), (83, .inr (.inl (0, 8, [], []))), (85, .inr (.inl (0, 4, [], []))), (86, .inr (.inl (0, 4, [], [])))]
def mbx476 : aw_A := ms_r [(17, ar_t32), (16, ar_t32), (15, ar_t32), (14, ar_t32), (13, ar_t32), (12, ar_t32), (0, [(0, 21)])]
def mbh477 : aw_H := [(81, mbx24), (82, mbx476), (83, .inr (.inl (0, 8, [], []))), (85, .inr (.inl (0, 4, [], []))), (86, .inr (.inl (0, 4, [], [])))]
def mbx478 : aw_A := ms_r [(18, ar_t32), (17, ar_t32), (16, ar_t32), (15, ar_t32), (14, ar_t32), (13, ar_t32), (12, ar_t32), (0, [(0, 21)])]
def mbh479 : aw_H := [(81, mbx27), (82, mbx478), (83, .inr (.inl (0, 8, [], []))), (85, .inr (.inl (0, 4, [], []))), (86, .inr (.inl (0, 4, [], [])))]
def mbx480 : aw_A := ms_r [(19, ar_t32), (18, ar_t32), (17, ar_t32), (16, ar_t32), (15, ar_t32), (14, ar_t32), (13, ar_t32), (12, ar_t32), (0, [(0, 21)])]
def mbh481 : aw_H := [(81, mbx30), (82, mbx480), (83, .inr (.inl (0, 8, [], []))), (85, .inr (.inl (0, 4, [], []))), (86, .inr (.inl (0, 4, [], [])))]
theorem mbk69 : ai_chk [mbc5, mbc9, mbc10] mbc69 (fun pc => sm_ch sm_t150 pc, sm_Kn 3 7 none, fun x => sm_lk sm_ca3 x, some .int) [82] 7 0 [5, 130] [] 2000 [(5, [(0, .inl 81), (1, .inr (false, [(0, 0)])), (2, .inr (false, ar_t32)), (3, .inr (false, [(0, 0)])), (4, .inr (false, [(0, 0)]))], [], mbh463),
  (5, [(0, .inl 81), (1, .inr (false, [(0, 0)])), (2, .inr (false, ar_t32)), (3, .inr (false, ar_t32)), (4, .inr (false, [(1, 1)])), (5, .inr (false, [(-9, -9), (0, 7)]))], [], mbh463),
  (5, [(0, .inl 81), (1, .inr (false, [(0, 0)])), (2, .inr (false, ar_t32)), (3, .inr (false, ar_t32)), (4, .inr (false, [(2, 2)])), (5, .inr (false, [(-9, -9), (0, 7)]))], [], mbh464),
  (5, [(0, .inl 81), (1, .inr (false, [(0, 0)])), (2, .inr (false, ar_t32)), (3, .inr (false, ar_t32)), (4, .inr (false, [(3, 3)])), (5, .inr (false, [(-9, -9), (0, 7)]))], [], mbh465),
  (5, [(0, .inl 81), (1, .inr (false, [(0, 0)])), (2, .inr (false, ar_t32)), (3, .inr (false, ar_t32)), (4, .inr (false, [(4, 4)])), (5, .inr (false, [(-9, -9), (0, 7)]))], [], mbh466),
  (130, [(0, .inl 81), (1, .inr (false, [(0, 0)])), (2, .inr (false, ar_t32)), (3, .inr (false, ar_t32)), (4, .inr (false, [(0, 0)])), (5, .inr (false, [(-9, -9), (0, 7)]))], [], mbh463),
  (130, [(0, .inl 81), (1, .inr (false, [(0, 0)])), (2, .inr (false, ar_t32)), (3, .inr (false, ar_t32)), (4, .inr (false, [(1, 1)])), (5, .inr (false, [(-9, -9), (0, 7)]))], [], mbh467),
  (130, [(0, .inl 81), (1, .inr (false, [(0, 0)])), (2, .inr (false, ar_t32)), (3, .inr (false, ar_t32)), (4, .inr (false, [(2, 2)])), (5, .inr (false, [(-9, -9), (0, 7)]))], [], mbh469),
  (130, [(0, .inl 81), (1, .inr (false, [(0, 0)])), (2, .inr (false, ar_t32)), (3, .inr (false, ar_t32)), (4, .inr (false, [(3, 3)])), (5, .inr (false, [(-9, -9), (0, 7)]))], [], mbh471),
  (130, [(0, .inl 81), (1, .inr (false, [(0, 0)])), (2, .inr (false, ar_t32)), (3, .inr (false, ar_t32)), (4, .inr (false, [(4, 4)])), (5, .inr (false, [(-9, -9), (0, 7)]))], [], mbh473),
  (130, [(0, .inl 81), (1, .inr (false, [(0, 0)])), (2, .inr (false, ar_t32)), (3, .inr (false, ar_t32)), (4, .inr (false, [(5, 5)])), (5, .inr (false, [(-9, -9), (0, 7)]))], [], mbh475),
  (130, [(0, .inl 81), (1, .inr (false, [(0, 0)])), (2, .inr (false, ar_t32)), (3, .inr (false, ar_t32)), (4, .inr (false, [(6, 6)])), (5, .inr (false, [(-9, -9), (0, 7)]))], [], mbh477),
  (130, [(0, .inl 81), (1, .inr (false, [(0, 0)])), (2, .inr (false, ar_t32)), (3, .inr (false, ar_t32)), (4, .inr (false, [(7, 7)])), (5, .inr (false, [(-9, -9), (0, 7)]))], [], mbh479),
  (130, [(0, .inl 81), (1, .inr (false, [(0, 0)])), (2, .inr (false, ar_t32)), (3, .inr (false, ar_t32)), (4, .inr (false, [(8, 8)])), (5, .inr (false, [(-9, -9), (0, 7)]))], [], mbh481)] = true := by decide +kernel
/-- MiceRegistersModel.byLot -/
def mbc70 : ak_C := (189, [.inl 81, .inr (true, [(0, 2147483646)])], mbh463, [82], [([], none, mbh460)])
theorem mbk70 : ai_chk [mbc69] mbc70 (fun pc => sm_ch sm_t189 pc, sm_Kn 3 6 none, fun x => sm_lk sm_ca3 x, none) [82] 6 0 [] [] 2000 [] = true := by decide +kernel
def mbh482 : aw_H := [(82, ms_r [(0, [(-1, 40)])])]
def mbh483 : aw_H := [(82, ms_r [(0, [(21, 40)])])]
/-- MiceRegistersModel.lots -/
def mbh484 : aw_H := [(81, mbx0), (82, ms_r [(0, [(-1, 40)])]), (83, .inr (.inl (0, 8, [], []))), (85, .inr (.inl (0, 4, [], []))), (86, .inr (.inl (0, 4, [], [])))]
def mbc71 : ak_C := (188, [.inl 81, .inr (false, ar_t32), .inr (false, ar_t32)], mbh484, [82], [([[], [], []], some (.inr (false, [(-1, -1)])), mbh482), ([[], [(1, 20)], [(1, 2147483646)]], some (.inr (false, [(-2, -2)])), mbh483), ([[], [(1, 20)], [(1, 2147483646)]], some (.inr (false, ar_t32)), mbh7)])
def mbh485 : aw_H := [(81, mbx0), (82, ms_r [(0, [(-1, 20)])]), (83, .inr (.inl (0, 8, [], []))), (85, .inr (.inl (0, 4, [], []))), (86, .inr (.inl (0, 4, [], [])))]
def mbh486 : aw_H := [(81, mbx0), (82, ms_r [(0, [(-1, 26)])]), (83, .inr (.inl (0, 8, [], []))), (85, .inr (.inl (0, 4, [], []))), (86, .inr (.inl (0, 4, [], [])))]
def mbh487 : aw_H := [(81, mbx0), (82, ms_r [(0, [(-1, 21)])]), (83, .inr (.inl (0, 8, [], []))), (85, .inr (.inl (0, 4, [], []))), (86, .inr (.inl (0, 4, [], [])))]
def mbh488 : aw_H := [(81, mbx0), (82, ms_r [(0, [(-1, 35)])]), (83, .inr (.inl (0, 8, [], []))), (85, .inr (.inl (0, 4, [], []))), (86, .inr (.inl (0, 4, [], [])))]
def mbh489 : aw_H := [(81, mbx0), (82, ms_r [(0, [(-1, 32)])]), (83, .inr (.inl (0, 8, [], []))), (85, .inr (.inl (0, 4, [], []))), (86, .inr (.inl (0, 4, [], [])))]
def mbh490 : aw_H := [(81, mbx0), (82, ms_r [(0, [(-1, 37)])]), (83, .inr (.inl (0, 8, [], []))), (85, .inr (.inl (0, 4, [], []))), (86, .inr (.inl (0, 4, [], [])))]
def mbh491 : aw_H := [(81, mbx0), (82, ms_r [(0, [(-1, 25)])]), (83, .inr (.inl (0, 8, [], []))), (85, .inr (.inl (0, 4, [], []))), (86, .inr (.inl (0, 4, [], [])))]
def mbh492 : aw_H := [(81, mbx0), (82, ms_r [(0, [(-1, 30)])]), (83, .inr (.inl (0, 8, [], []))), (85, .inr (.inl (0, 4, [], []))), (86, .inr (.inl (0, 4, [], [])))]
def mbh493 : aw_H := [(81, mbx0), (82, ms_r [(0, [(-1, 36)])]), (83, .inr (.inl (0, 8, [], []))), (85, .inr (.inl (0, 4, [], []))), (86, .inr (.inl (0, 4, [], [])))]
def mbh494 : aw_H := [(81, mbx0), (82, ms_r [(0, [(-1, 29)])]), (83, .inr (.inl (0, 8, [], []))), (85, .inr (.inl (0, 4, [], []))), (86, .inr (.inl (0, 4, [], [])))]
def mbh495 : aw_H := [(81, mbx0), (82, ms_r [(0, [(-1, 23)])]), (83, .inr (.inl (0, 8, [], []))), (85, .inr (.inl (0, 4, [], []))), (86, .inr (.inl (0, 4, [], [])))]
def mbh496 : aw_H := [(81, mbx0), (82, ms_r [(0, [(-1, 22)])]), (83, .inr (.inl (0, 8, [], []))), (85, .inr (.inl (0, 4, [], []))), (86, .inr (.inl (0, 4, [], [])))]
def mbh497 : aw_H := [(81, mbx0), (82, ms_r [(0, [(-1, 31)])]), (83, .inr (.inl (0, 8, [], []))), (85, .inr (.inl (0, 4, [], []))), (86, .inr (.inl (0, 4, [], [])))]
def mbh498 : aw_H := [(81, mbx0), (82, ms_r [(0, [(-1, 34)])]), (83, .inr (.inl (0, 8, [], []))), (85, .inr (.inl (0, 4, [], []))), (86, .inr (.inl (0, 4, [], [])))]
def mbh499 : aw_H := [(81, mbx0), (82, ms_r [(0, [(-1, 24)])]), (83, .inr (.inl (0, 8, [], []))), (85, .inr (.inl (0, 4, [], []))), (86, .inr (.inl (0, 4, [], [])))]
def mbh500 : aw_H := [(81, mbx0), (82, ms_r [(0, [(-1, 39)])]), (83, .inr (.inl (0, 8, [], []))), (85, .inr (.inl (0, 4, [], []))), (86, .inr (.inl (0, 4, [], [])))]
def mbh501 : aw_H := [(81, mbx0), (82, ms_r [(0, [(-1, 38)])]), (83, .inr (.inl (0, 8, [], []))), (85, .inr (.inl (0, 4, [], []))), (86, .inr (.inl (0, 4, [], [])))]
def mbh502 : aw_H := [(81, mbx0), (82, ms_r [(0, [(-1, 28)])]), (83, .inr (.inl (0, 8, [], []))), (85, .inr (.inl (0, 4, [], []))), (86, .inr (.inl (0, 4, [], [])))]
def mbh503 : aw_H := [(81, mbx0), (82, ms_r [(0, [(-1, 27)])]), (83, .inr (.inl (0, 8, [], []))), (85, .inr (.inl (0, 4, [], []))), (86, .inr (.inl (0, 4, [], [])))]
def mbh504 : aw_H := [(81, mbx0), (82, ms_r [(0, [(-1, 33)])]), (83, .inr (.inl (0, 8, [], []))), (85, .inr (.inl (0, 4, [], []))), (86, .inr (.inl (0, 4, [], [])))]
def mbn71_0 : List (Nat × aw_S) := [(58, [(0, .inl 81), (1, .inr (false, [(20, 20)])), (2, .inr (false, [(1, 2147483646)])), (3, .inr (true, [(1, 2147483646)])), (5, .inr (false, [(0, 0)]))], [], mbh485)]
def mbn71_1 : List (Nat × aw_S) := [(58, [(0, .inl 81), (1, .inr (false, [(20, 20)])), (2, .inr (false, [(1, 2147483646)])), (3, .inr (true, [(0, 2147483646)])), (5, .inr (false, [(1, 1)]))], [], mbh463),
  (58, [(0, .inl 81), (1, .inr (false, [(20, 20)])), (2, .inr (false, [(1, 2147483646)])), (3, .inr (true, [(0, 2147483646)])), (5, .inr (false, [(2, 2)]))], [], mbh441),
  (58, [(0, .inl 81), (1, .inr (false, [(20, 20)])), (2, .inr (false, [(1, 2147483646)])), (3, .inr (true, [(0, 2147483646)])), (5, .inr (false, [(3, 3)]))], [], mbh419),
  (58, [(0, .inl 81), (1, .inr (false, [(20, 20)])), (2, .inr (false, [(1, 2147483646)])), (3, .inr (true, [(0, 2147483646)])), (5, .inr (false, [(4, 4)]))], [], mbh397),
  (58, [(0, .inl 81), (1, .inr (false, [(20, 20)])), (2, .inr (false, [(1, 2147483646)])), (3, .inr (true, [(0, 2147483646)])), (5, .inr (false, [(5, 5)]))], [], mbh375),
  (58, [(0, .inl 81), (1, .inr (false, [(20, 20)])), (2, .inr (false, [(1, 2147483646)])), (3, .inr (true, [(0, 2147483646)])), (5, .inr (false, [(6, 6)]))], [], mbh353),
  (58, [(0, .inl 81), (1, .inr (false, [(20, 20)])), (2, .inr (false, [(1, 2147483646)])), (3, .inr (true, [(0, 2147483646)])), (5, .inr (false, [(7, 7)]))], [], mbh331),
  (58, [(0, .inl 81), (1, .inr (false, [(20, 20)])), (2, .inr (false, [(1, 2147483646)])), (3, .inr (true, [(0, 2147483646)])), (5, .inr (false, [(8, 8)]))], [], mbh309),
  (58, [(0, .inl 81), (1, .inr (false, [(20, 20)])), (2, .inr (false, [(1, 2147483646)])), (3, .inr (true, [(0, 2147483646)])), (5, .inr (false, [(9, 9)]))], [], mbh287),
  (58, [(0, .inl 81), (1, .inr (false, [(20, 20)])), (2, .inr (false, [(1, 2147483646)])), (3, .inr (true, [(0, 2147483646)])), (5, .inr (false, [(10, 10)]))], [], mbh265),
  (58, [(0, .inl 81), (1, .inr (false, [(20, 20)])), (2, .inr (false, [(1, 2147483646)])), (3, .inr (true, [(0, 2147483646)])), (5, .inr (false, [(11, 11)]))], [], mbh243),
  (58, [(0, .inl 81), (1, .inr (false, [(20, 20)])), (2, .inr (false, [(1, 2147483646)])), (3, .inr (true, [(0, 2147483646)])), (5, .inr (false, [(12, 12)]))], [], mbh221),
  (58, [(0, .inl 81), (1, .inr (false, [(20, 20)])), (2, .inr (false, [(1, 2147483646)])), (3, .inr (true, [(0, 2147483646)])), (5, .inr (false, [(13, 13)]))], [], mbh199),
  (58, [(0, .inl 81), (1, .inr (false, [(20, 20)])), (2, .inr (false, [(1, 2147483646)])), (3, .inr (true, [(0, 2147483646)])), (5, .inr (false, [(14, 14)]))], [], mbh177),
  (58, [(0, .inl 81), (1, .inr (false, [(20, 20)])), (2, .inr (false, [(1, 2147483646)])), (3, .inr (true, [(0, 2147483646)])), (5, .inr (false, [(15, 15)]))], [], mbh155),
  (58, [(0, .inl 81), (1, .inr (false, [(20, 20)])), (2, .inr (false, [(1, 2147483646)])), (3, .inr (true, [(0, 2147483646)])), (5, .inr (false, [(16, 16)]))], [], mbh133),
  (58, [(0, .inl 81), (1, .inr (false, [(20, 20)])), (2, .inr (false, [(1, 2147483646)])), (3, .inr (true, [(0, 2147483646)])), (5, .inr (false, [(17, 17)]))], [], mbh111),
  (58, [(0, .inl 81), (1, .inr (false, [(20, 20)])), (2, .inr (false, [(1, 2147483646)])), (3, .inr (true, [(0, 2147483646)])), (5, .inr (false, [(18, 18)]))], [], mbh89),
  (58, [(0, .inl 81), (1, .inr (false, [(20, 20)])), (2, .inr (false, [(1, 2147483646)])), (3, .inr (true, [(0, 2147483646)])), (5, .inr (false, [(19, 19)]))], [], mbh67),
  (58, [(0, .inl 81), (1, .inr (false, [(20, 20)])), (2, .inr (false, [(1, 2147483646)])), (3, .inr (true, [(0, 2147483646)])), (5, .inr (false, [(20, 20)]))], [], mbh35),
  (58, [(0, .inl 81), (1, .inr (false, [(14, 14)])), (2, .inr (false, [(1, 2147483646)])), (3, .inr (true, [(1, 2147483646)])), (5, .inr (false, [(0, 0)]))], [], mbh486),
  (58, [(0, .inl 81), (1, .inr (false, [(14, 14)])), (2, .inr (false, [(1, 2147483646)])), (3, .inr (true, [(0, 2147483646)])), (5, .inr (false, [(1, 1)]))], [], mbh331),
  (58, [(0, .inl 81), (1, .inr (false, [(14, 14)])), (2, .inr (false, [(1, 2147483646)])), (3, .inr (true, [(0, 2147483646)])), (5, .inr (false, [(2, 2)]))], [], mbh309),
  (58, [(0, .inl 81), (1, .inr (false, [(14, 14)])), (2, .inr (false, [(1, 2147483646)])), (3, .inr (true, [(0, 2147483646)])), (5, .inr (false, [(3, 3)]))], [], mbh287),
  (58, [(0, .inl 81), (1, .inr (false, [(14, 14)])), (2, .inr (false, [(1, 2147483646)])), (3, .inr (true, [(0, 2147483646)])), (5, .inr (false, [(4, 4)]))], [], mbh265),
  (58, [(0, .inl 81), (1, .inr (false, [(14, 14)])), (2, .inr (false, [(1, 2147483646)])), (3, .inr (true, [(0, 2147483646)])), (5, .inr (false, [(5, 5)]))], [], mbh243),
  (58, [(0, .inl 81), (1, .inr (false, [(14, 14)])), (2, .inr (false, [(1, 2147483646)])), (3, .inr (true, [(0, 2147483646)])), (5, .inr (false, [(6, 6)]))], [], mbh221),
  (58, [(0, .inl 81), (1, .inr (false, [(14, 14)])), (2, .inr (false, [(1, 2147483646)])), (3, .inr (true, [(0, 2147483646)])), (5, .inr (false, [(7, 7)]))], [], mbh199),
  (58, [(0, .inl 81), (1, .inr (false, [(14, 14)])), (2, .inr (false, [(1, 2147483646)])), (3, .inr (true, [(0, 2147483646)])), (5, .inr (false, [(8, 8)]))], [], mbh177),
  (58, [(0, .inl 81), (1, .inr (false, [(14, 14)])), (2, .inr (false, [(1, 2147483646)])), (3, .inr (true, [(0, 2147483646)])), (5, .inr (false, [(9, 9)]))], [], mbh155),
  (58, [(0, .inl 81), (1, .inr (false, [(14, 14)])), (2, .inr (false, [(1, 2147483646)])), (3, .inr (true, [(0, 2147483646)])), (5, .inr (false, [(10, 10)]))], [], mbh133),
  (58, [(0, .inl 81), (1, .inr (false, [(14, 14)])), (2, .inr (false, [(1, 2147483646)])), (3, .inr (true, [(0, 2147483646)])), (5, .inr (false, [(11, 11)]))], [], mbh111),
  (58, [(0, .inl 81), (1, .inr (false, [(14, 14)])), (2, .inr (false, [(1, 2147483646)])), (3, .inr (true, [(0, 2147483646)])), (5, .inr (false, [(12, 12)]))], [], mbh89),
  (58, [(0, .inl 81), (1, .inr (false, [(14, 14)])), (2, .inr (false, [(1, 2147483646)])), (3, .inr (true, [(0, 2147483646)])), (5, .inr (false, [(13, 13)]))], [], mbh67),
  (58, [(0, .inl 81), (1, .inr (false, [(14, 14)])), (2, .inr (false, [(1, 2147483646)])), (3, .inr (true, [(0, 2147483646)])), (5, .inr (false, [(14, 14)]))], [], mbh35),
  (58, [(0, .inl 81), (1, .inr (false, [(19, 19)])), (2, .inr (false, [(1, 2147483646)])), (3, .inr (true, [(1, 2147483646)])), (5, .inr (false, [(0, 0)]))], [], mbh487),
  (58, [(0, .inl 81), (1, .inr (false, [(19, 19)])), (2, .inr (false, [(1, 2147483646)])), (3, .inr (true, [(0, 2147483646)])), (5, .inr (false, [(1, 1)]))], [], mbh441),
  (58, [(0, .inl 81), (1, .inr (false, [(19, 19)])), (2, .inr (false, [(1, 2147483646)])), (3, .inr (true, [(0, 2147483646)])), (5, .inr (false, [(2, 2)]))], [], mbh419),
  (58, [(0, .inl 81), (1, .inr (false, [(19, 19)])), (2, .inr (false, [(1, 2147483646)])), (3, .inr (true, [(0, 2147483646)])), (5, .inr (false, [(3, 3)]))], [], mbh397),
  (58, [(0, .inl 81), (1, .inr (false, [(19, 19)])), (2, .inr (false, [(1, 2147483646)])), (3, .inr (true, [(0, 2147483646)])), (5, .inr (false, [(4, 4)]))], [], mbh375),
  (58, [(0, .inl 81), (1, .inr (false, [(19, 19)])), (2, .inr (false, [(1, 2147483646)])), (3, .inr (true, [(0, 2147483646)])), (5, .inr (false, [(5, 5)]))], [], mbh353),
  (58, [(0, .inl 81), (1, .inr (false, [(19, 19)])), (2, .inr (false, [(1, 2147483646)])), (3, .inr (true, [(0, 2147483646)])), (5, .inr (false, [(6, 6)]))], [], mbh331),
  (58, [(0, .inl 81), (1, .inr (false, [(19, 19)])), (2, .inr (false, [(1, 2147483646)])), (3, .inr (true, [(0, 2147483646)])), (5, .inr (false, [(7, 7)]))], [], mbh309),
  (58, [(0, .inl 81), (1, .inr (false, [(19, 19)])), (2, .inr (false, [(1, 2147483646)])), (3, .inr (true, [(0, 2147483646)])), (5, .inr (false, [(8, 8)]))], [], mbh287),
  (58, [(0, .inl 81), (1, .inr (false, [(19, 19)])), (2, .inr (false, [(1, 2147483646)])), (3, .inr (true, [(0, 2147483646)])), (5, .inr (false, [(9, 9)]))], [], mbh265),
  (58, [(0, .inl 81), (1, .inr (false, [(19, 19)])), (2, .inr (false, [(1, 2147483646)])), (3, .inr (true, [(0, 2147483646)])), (5, .inr (false, [(10, 10)]))], [], mbh243),
  (58, [(0, .inl 81), (1, .inr (false, [(19, 19)])), (2, .inr (false, [(1, 2147483646)])), (3, .inr (true, [(0, 2147483646)])), (5, .inr (false, [(11, 11)]))], [], mbh221),
  (58, [(0, .inl 81), (1, .inr (false, [(19, 19)])), (2, .inr (false, [(1, 2147483646)])), (3, .inr (true, [(0, 2147483646)])), (5, .inr (false, [(12, 12)]))], [], mbh199),
  (58, [(0, .inl 81), (1, .inr (false, [(19, 19)])), (2, .inr (false, [(1, 2147483646)])), (3, .inr (true, [(0, 2147483646)])), (5, .inr (false, [(13, 13)]))], [], mbh177),
  (58, [(0, .inl 81), (1, .inr (false, [(19, 19)])), (2, .inr (false, [(1, 2147483646)])), (3, .inr (true, [(0, 2147483646)])), (5, .inr (false, [(14, 14)]))], [], mbh155),
  (58, [(0, .inl 81), (1, .inr (false, [(19, 19)])), (2, .inr (false, [(1, 2147483646)])), (3, .inr (true, [(0, 2147483646)])), (5, .inr (false, [(15, 15)]))], [], mbh133),
  (58, [(0, .inl 81), (1, .inr (false, [(19, 19)])), (2, .inr (false, [(1, 2147483646)])), (3, .inr (true, [(0, 2147483646)])), (5, .inr (false, [(16, 16)]))], [], mbh111),
  (58, [(0, .inl 81), (1, .inr (false, [(19, 19)])), (2, .inr (false, [(1, 2147483646)])), (3, .inr (true, [(0, 2147483646)])), (5, .inr (false, [(17, 17)]))], [], mbh89),
  (58, [(0, .inl 81), (1, .inr (false, [(19, 19)])), (2, .inr (false, [(1, 2147483646)])), (3, .inr (true, [(0, 2147483646)])), (5, .inr (false, [(18, 18)]))], [], mbh67),
  (58, [(0, .inl 81), (1, .inr (false, [(19, 19)])), (2, .inr (false, [(1, 2147483646)])), (3, .inr (true, [(0, 2147483646)])), (5, .inr (false, [(19, 19)]))], [], mbh35),
  (58, [(0, .inl 81), (1, .inr (false, [(5, 5)])), (2, .inr (false, [(1, 2147483646)])), (3, .inr (true, [(1, 2147483646)])), (5, .inr (false, [(0, 0)]))], [], mbh488),
  (58, [(0, .inl 81), (1, .inr (false, [(5, 5)])), (2, .inr (false, [(1, 2147483646)])), (3, .inr (true, [(0, 2147483646)])), (5, .inr (false, [(1, 1)]))], [], mbh133),
  (58, [(0, .inl 81), (1, .inr (false, [(5, 5)])), (2, .inr (false, [(1, 2147483646)])), (3, .inr (true, [(0, 2147483646)])), (5, .inr (false, [(2, 2)]))], [], mbh111),
  (58, [(0, .inl 81), (1, .inr (false, [(5, 5)])), (2, .inr (false, [(1, 2147483646)])), (3, .inr (true, [(0, 2147483646)])), (5, .inr (false, [(3, 3)]))], [], mbh89),
  (58, [(0, .inl 81), (1, .inr (false, [(5, 5)])), (2, .inr (false, [(1, 2147483646)])), (3, .inr (true, [(0, 2147483646)])), (5, .inr (false, [(4, 4)]))], [], mbh67),
  (58, [(0, .inl 81), (1, .inr (false, [(5, 5)])), (2, .inr (false, [(1, 2147483646)])), (3, .inr (true, [(0, 2147483646)])), (5, .inr (false, [(5, 5)]))], [], mbh35),
  (58, [(0, .inl 81), (1, .inr (false, [(8, 8)])), (2, .inr (false, [(1, 2147483646)])), (3, .inr (true, [(1, 2147483646)])), (5, .inr (false, [(0, 0)]))], [], mbh489),
  (58, [(0, .inl 81), (1, .inr (false, [(8, 8)])), (2, .inr (false, [(1, 2147483646)])), (3, .inr (true, [(0, 2147483646)])), (5, .inr (false, [(1, 1)]))], [], mbh199),
  (58, [(0, .inl 81), (1, .inr (false, [(8, 8)])), (2, .inr (false, [(1, 2147483646)])), (3, .inr (true, [(0, 2147483646)])), (5, .inr (false, [(2, 2)]))], [], mbh177),
  (58, [(0, .inl 81), (1, .inr (false, [(8, 8)])), (2, .inr (false, [(1, 2147483646)])), (3, .inr (true, [(0, 2147483646)])), (5, .inr (false, [(3, 3)]))], [], mbh155),
  (58, [(0, .inl 81), (1, .inr (false, [(8, 8)])), (2, .inr (false, [(1, 2147483646)])), (3, .inr (true, [(0, 2147483646)])), (5, .inr (false, [(4, 4)]))], [], mbh133),
  (58, [(0, .inl 81), (1, .inr (false, [(8, 8)])), (2, .inr (false, [(1, 2147483646)])), (3, .inr (true, [(0, 2147483646)])), (5, .inr (false, [(5, 5)]))], [], mbh111),
  (58, [(0, .inl 81), (1, .inr (false, [(8, 8)])), (2, .inr (false, [(1, 2147483646)])), (3, .inr (true, [(0, 2147483646)])), (5, .inr (false, [(6, 6)]))], [], mbh89),
  (58, [(0, .inl 81), (1, .inr (false, [(8, 8)])), (2, .inr (false, [(1, 2147483646)])), (3, .inr (true, [(0, 2147483646)])), (5, .inr (false, [(7, 7)]))], [], mbh67),
  (58, [(0, .inl 81), (1, .inr (false, [(8, 8)])), (2, .inr (false, [(1, 2147483646)])), (3, .inr (true, [(0, 2147483646)])), (5, .inr (false, [(8, 8)]))], [], mbh35),
  (58, [(0, .inl 81), (1, .inr (false, [(3, 3)])), (2, .inr (false, [(1, 2147483646)])), (3, .inr (true, [(1, 2147483646)])), (5, .inr (false, [(0, 0)]))], [], mbh490),
  (58, [(0, .inl 81), (1, .inr (false, [(3, 3)])), (2, .inr (false, [(1, 2147483646)])), (3, .inr (true, [(0, 2147483646)])), (5, .inr (false, [(1, 1)]))], [], mbh89),
  (58, [(0, .inl 81), (1, .inr (false, [(3, 3)])), (2, .inr (false, [(1, 2147483646)])), (3, .inr (true, [(0, 2147483646)])), (5, .inr (false, [(2, 2)]))], [], mbh67),
  (58, [(0, .inl 81), (1, .inr (false, [(3, 3)])), (2, .inr (false, [(1, 2147483646)])), (3, .inr (true, [(0, 2147483646)])), (5, .inr (false, [(3, 3)]))], [], mbh35),
  (58, [(0, .inl 81), (1, .inr (false, [(15, 15)])), (2, .inr (false, [(1, 2147483646)])), (3, .inr (true, [(1, 2147483646)])), (5, .inr (false, [(0, 0)]))], [], mbh491),
  (58, [(0, .inl 81), (1, .inr (false, [(15, 15)])), (2, .inr (false, [(1, 2147483646)])), (3, .inr (true, [(0, 2147483646)])), (5, .inr (false, [(1, 1)]))], [], mbh353),
  (58, [(0, .inl 81), (1, .inr (false, [(15, 15)])), (2, .inr (false, [(1, 2147483646)])), (3, .inr (true, [(0, 2147483646)])), (5, .inr (false, [(2, 2)]))], [], mbh331),
  (58, [(0, .inl 81), (1, .inr (false, [(15, 15)])), (2, .inr (false, [(1, 2147483646)])), (3, .inr (true, [(0, 2147483646)])), (5, .inr (false, [(3, 3)]))], [], mbh309),
  (58, [(0, .inl 81), (1, .inr (false, [(15, 15)])), (2, .inr (false, [(1, 2147483646)])), (3, .inr (true, [(0, 2147483646)])), (5, .inr (false, [(4, 4)]))], [], mbh287),
  (58, [(0, .inl 81), (1, .inr (false, [(15, 15)])), (2, .inr (false, [(1, 2147483646)])), (3, .inr (true, [(0, 2147483646)])), (5, .inr (false, [(5, 5)]))], [], mbh265),
  (58, [(0, .inl 81), (1, .inr (false, [(15, 15)])), (2, .inr (false, [(1, 2147483646)])), (3, .inr (true, [(0, 2147483646)])), (5, .inr (false, [(6, 6)]))], [], mbh243),
  (58, [(0, .inl 81), (1, .inr (false, [(15, 15)])), (2, .inr (false, [(1, 2147483646)])), (3, .inr (true, [(0, 2147483646)])), (5, .inr (false, [(7, 7)]))], [], mbh221),
  (58, [(0, .inl 81), (1, .inr (false, [(15, 15)])), (2, .inr (false, [(1, 2147483646)])), (3, .inr (true, [(0, 2147483646)])), (5, .inr (false, [(8, 8)]))], [], mbh199),
  (58, [(0, .inl 81), (1, .inr (false, [(15, 15)])), (2, .inr (false, [(1, 2147483646)])), (3, .inr (true, [(0, 2147483646)])), (5, .inr (false, [(9, 9)]))], [], mbh177),
  (58, [(0, .inl 81), (1, .inr (false, [(15, 15)])), (2, .inr (false, [(1, 2147483646)])), (3, .inr (true, [(0, 2147483646)])), (5, .inr (false, [(10, 10)]))], [], mbh155),
  (58, [(0, .inl 81), (1, .inr (false, [(15, 15)])), (2, .inr (false, [(1, 2147483646)])), (3, .inr (true, [(0, 2147483646)])), (5, .inr (false, [(11, 11)]))], [], mbh133),
  (58, [(0, .inl 81), (1, .inr (false, [(15, 15)])), (2, .inr (false, [(1, 2147483646)])), (3, .inr (true, [(0, 2147483646)])), (5, .inr (false, [(12, 12)]))], [], mbh111),
  (58, [(0, .inl 81), (1, .inr (false, [(15, 15)])), (2, .inr (false, [(1, 2147483646)])), (3, .inr (true, [(0, 2147483646)])), (5, .inr (false, [(13, 13)]))], [], mbh89),
  (58, [(0, .inl 81), (1, .inr (false, [(15, 15)])), (2, .inr (false, [(1, 2147483646)])), (3, .inr (true, [(0, 2147483646)])), (5, .inr (false, [(14, 14)]))], [], mbh67),
  (58, [(0, .inl 81), (1, .inr (false, [(15, 15)])), (2, .inr (false, [(1, 2147483646)])), (3, .inr (true, [(0, 2147483646)])), (5, .inr (false, [(15, 15)]))], [], mbh35),
  (58, [(0, .inl 81), (1, .inr (false, [(10, 10)])), (2, .inr (false, [(1, 2147483646)])), (3, .inr (true, [(1, 2147483646)])), (5, .inr (false, [(0, 0)]))], [], mbh492),
  (58, [(0, .inl 81), (1, .inr (false, [(10, 10)])), (2, .inr (false, [(1, 2147483646)])), (3, .inr (true, [(0, 2147483646)])), (5, .inr (false, [(1, 1)]))], [], mbh243),
  (58, [(0, .inl 81), (1, .inr (false, [(10, 10)])), (2, .inr (false, [(1, 2147483646)])), (3, .inr (true, [(0, 2147483646)])), (5, .inr (false, [(2, 2)]))], [], mbh221),
  (58, [(0, .inl 81), (1, .inr (false, [(10, 10)])), (2, .inr (false, [(1, 2147483646)])), (3, .inr (true, [(0, 2147483646)])), (5, .inr (false, [(3, 3)]))], [], mbh199),
  (58, [(0, .inl 81), (1, .inr (false, [(10, 10)])), (2, .inr (false, [(1, 2147483646)])), (3, .inr (true, [(0, 2147483646)])), (5, .inr (false, [(4, 4)]))], [], mbh177),
  (58, [(0, .inl 81), (1, .inr (false, [(10, 10)])), (2, .inr (false, [(1, 2147483646)])), (3, .inr (true, [(0, 2147483646)])), (5, .inr (false, [(5, 5)]))], [], mbh155),
  (58, [(0, .inl 81), (1, .inr (false, [(10, 10)])), (2, .inr (false, [(1, 2147483646)])), (3, .inr (true, [(0, 2147483646)])), (5, .inr (false, [(6, 6)]))], [], mbh133),
  (58, [(0, .inl 81), (1, .inr (false, [(10, 10)])), (2, .inr (false, [(1, 2147483646)])), (3, .inr (true, [(0, 2147483646)])), (5, .inr (false, [(7, 7)]))], [], mbh111),
  (58, [(0, .inl 81), (1, .inr (false, [(10, 10)])), (2, .inr (false, [(1, 2147483646)])), (3, .inr (true, [(0, 2147483646)])), (5, .inr (false, [(8, 8)]))], [], mbh89),
  (58, [(0, .inl 81), (1, .inr (false, [(10, 10)])), (2, .inr (false, [(1, 2147483646)])), (3, .inr (true, [(0, 2147483646)])), (5, .inr (false, [(9, 9)]))], [], mbh67),
  (58, [(0, .inl 81), (1, .inr (false, [(10, 10)])), (2, .inr (false, [(1, 2147483646)])), (3, .inr (true, [(0, 2147483646)])), (5, .inr (false, [(10, 10)]))], [], mbh35),
  (58, [(0, .inl 81), (1, .inr (false, [(4, 4)])), (2, .inr (false, [(1, 2147483646)])), (3, .inr (true, [(1, 2147483646)])), (5, .inr (false, [(0, 0)]))], [], mbh493),
  (58, [(0, .inl 81), (1, .inr (false, [(4, 4)])), (2, .inr (false, [(1, 2147483646)])), (3, .inr (true, [(0, 2147483646)])), (5, .inr (false, [(1, 1)]))], [], mbh111),
  (58, [(0, .inl 81), (1, .inr (false, [(4, 4)])), (2, .inr (false, [(1, 2147483646)])), (3, .inr (true, [(0, 2147483646)])), (5, .inr (false, [(2, 2)]))], [], mbh89),
  (58, [(0, .inl 81), (1, .inr (false, [(4, 4)])), (2, .inr (false, [(1, 2147483646)])), (3, .inr (true, [(0, 2147483646)])), (5, .inr (false, [(3, 3)]))], [], mbh67),
  (58, [(0, .inl 81), (1, .inr (false, [(4, 4)])), (2, .inr (false, [(1, 2147483646)])), (3, .inr (true, [(0, 2147483646)])), (5, .inr (false, [(4, 4)]))], [], mbh35),
  (58, [(0, .inl 81), (1, .inr (false, [(11, 11)])), (2, .inr (false, [(1, 2147483646)])), (3, .inr (true, [(1, 2147483646)])), (5, .inr (false, [(0, 0)]))], [], mbh494),
  (58, [(0, .inl 81), (1, .inr (false, [(11, 11)])), (2, .inr (false, [(1, 2147483646)])), (3, .inr (true, [(0, 2147483646)])), (5, .inr (false, [(1, 1)]))], [], mbh265),
  (58, [(0, .inl 81), (1, .inr (false, [(11, 11)])), (2, .inr (false, [(1, 2147483646)])), (3, .inr (true, [(0, 2147483646)])), (5, .inr (false, [(2, 2)]))], [], mbh243),
  (58, [(0, .inl 81), (1, .inr (false, [(11, 11)])), (2, .inr (false, [(1, 2147483646)])), (3, .inr (true, [(0, 2147483646)])), (5, .inr (false, [(3, 3)]))], [], mbh221),
  (58, [(0, .inl 81), (1, .inr (false, [(11, 11)])), (2, .inr (false, [(1, 2147483646)])), (3, .inr (true, [(0, 2147483646)])), (5, .inr (false, [(4, 4)]))], [], mbh199),
  (58, [(0, .inl 81), (1, .inr (false, [(11, 11)])), (2, .inr (false, [(1, 2147483646)])), (3, .inr (true, [(0, 2147483646)])), (5, .inr (false, [(5, 5)]))], [], mbh177),
  (58, [(0, .inl 81), (1, .inr (false, [(11, 11)])), (2, .inr (false, [(1, 2147483646)])), (3, .inr (true, [(0, 2147483646)])), (5, .inr (false, [(6, 6)]))], [], mbh155),
  (58, [(0, .inl 81), (1, .inr (false, [(11, 11)])), (2, .inr (false, [(1, 2147483646)])), (3, .inr (true, [(0, 2147483646)])), (5, .inr (false, [(7, 7)]))], [], mbh133),
  (58, [(0, .inl 81), (1, .inr (false, [(11, 11)])), (2, .inr (false, [(1, 2147483646)])), (3, .inr (true, [(0, 2147483646)])), (5, .inr (false, [(8, 8)]))], [], mbh111),
  (58, [(0, .inl 81), (1, .inr (false, [(11, 11)])), (2, .inr (false, [(1, 2147483646)])), (3, .inr (true, [(0, 2147483646)])), (5, .inr (false, [(9, 9)]))], [], mbh89),
  (58, [(0, .inl 81), (1, .inr (false, [(11, 11)])), (2, .inr (false, [(1, 2147483646)])), (3, .inr (true, [(0, 2147483646)])), (5, .inr (false, [(10, 10)]))], [], mbh67),
  (58, [(0, .inl 81), (1, .inr (false, [(11, 11)])), (2, .inr (false, [(1, 2147483646)])), (3, .inr (true, [(0, 2147483646)])), (5, .inr (false, [(11, 11)]))], [], mbh35),
  (58, [(0, .inl 81), (1, .inr (false, [(17, 17)])), (2, .inr (false, [(1, 2147483646)])), (3, .inr (true, [(1, 2147483646)])), (5, .inr (false, [(0, 0)]))], [], mbh495),
  (58, [(0, .inl 81), (1, .inr (false, [(17, 17)])), (2, .inr (false, [(1, 2147483646)])), (3, .inr (true, [(0, 2147483646)])), (5, .inr (false, [(1, 1)]))], [], mbh397),
  (58, [(0, .inl 81), (1, .inr (false, [(17, 17)])), (2, .inr (false, [(1, 2147483646)])), (3, .inr (true, [(0, 2147483646)])), (5, .inr (false, [(2, 2)]))], [], mbh375),
  (58, [(0, .inl 81), (1, .inr (false, [(17, 17)])), (2, .inr (false, [(1, 2147483646)])), (3, .inr (true, [(0, 2147483646)])), (5, .inr (false, [(3, 3)]))], [], mbh353),
  (58, [(0, .inl 81), (1, .inr (false, [(17, 17)])), (2, .inr (false, [(1, 2147483646)])), (3, .inr (true, [(0, 2147483646)])), (5, .inr (false, [(4, 4)]))], [], mbh331),
  (58, [(0, .inl 81), (1, .inr (false, [(17, 17)])), (2, .inr (false, [(1, 2147483646)])), (3, .inr (true, [(0, 2147483646)])), (5, .inr (false, [(5, 5)]))], [], mbh309),
  (58, [(0, .inl 81), (1, .inr (false, [(17, 17)])), (2, .inr (false, [(1, 2147483646)])), (3, .inr (true, [(0, 2147483646)])), (5, .inr (false, [(6, 6)]))], [], mbh287),
  (58, [(0, .inl 81), (1, .inr (false, [(17, 17)])), (2, .inr (false, [(1, 2147483646)])), (3, .inr (true, [(0, 2147483646)])), (5, .inr (false, [(7, 7)]))], [], mbh265),
  (58, [(0, .inl 81), (1, .inr (false, [(17, 17)])), (2, .inr (false, [(1, 2147483646)])), (3, .inr (true, [(0, 2147483646)])), (5, .inr (false, [(8, 8)]))], [], mbh243),
  (58, [(0, .inl 81), (1, .inr (false, [(17, 17)])), (2, .inr (false, [(1, 2147483646)])), (3, .inr (true, [(0, 2147483646)])), (5, .inr (false, [(9, 9)]))], [], mbh221),
  (58, [(0, .inl 81), (1, .inr (false, [(17, 17)])), (2, .inr (false, [(1, 2147483646)])), (3, .inr (true, [(0, 2147483646)])), (5, .inr (false, [(10, 10)]))], [], mbh199),
  (58, [(0, .inl 81), (1, .inr (false, [(17, 17)])), (2, .inr (false, [(1, 2147483646)])), (3, .inr (true, [(0, 2147483646)])), (5, .inr (false, [(11, 11)]))], [], mbh177),
  (58, [(0, .inl 81), (1, .inr (false, [(17, 17)])), (2, .inr (false, [(1, 2147483646)])), (3, .inr (true, [(0, 2147483646)])), (5, .inr (false, [(12, 12)]))], [], mbh155),
  (58, [(0, .inl 81), (1, .inr (false, [(17, 17)])), (2, .inr (false, [(1, 2147483646)])), (3, .inr (true, [(0, 2147483646)])), (5, .inr (false, [(13, 13)]))], [], mbh133),
  (58, [(0, .inl 81), (1, .inr (false, [(17, 17)])), (2, .inr (false, [(1, 2147483646)])), (3, .inr (true, [(0, 2147483646)])), (5, .inr (false, [(14, 14)]))], [], mbh111),
  (58, [(0, .inl 81), (1, .inr (false, [(17, 17)])), (2, .inr (false, [(1, 2147483646)])), (3, .inr (true, [(0, 2147483646)])), (5, .inr (false, [(15, 15)]))], [], mbh89),
  (58, [(0, .inl 81), (1, .inr (false, [(17, 17)])), (2, .inr (false, [(1, 2147483646)])), (3, .inr (true, [(0, 2147483646)])), (5, .inr (false, [(16, 16)]))], [], mbh67),
  (58, [(0, .inl 81), (1, .inr (false, [(17, 17)])), (2, .inr (false, [(1, 2147483646)])), (3, .inr (true, [(0, 2147483646)])), (5, .inr (false, [(17, 17)]))], [], mbh35),
  (58, [(0, .inl 81), (1, .inr (false, [(18, 18)])), (2, .inr (false, [(1, 2147483646)])), (3, .inr (true, [(1, 2147483646)])), (5, .inr (false, [(0, 0)]))], [], mbh496),
  (58, [(0, .inl 81), (1, .inr (false, [(18, 18)])), (2, .inr (false, [(1, 2147483646)])), (3, .inr (true, [(0, 2147483646)])), (5, .inr (false, [(1, 1)]))], [], mbh419),
  (58, [(0, .inl 81), (1, .inr (false, [(18, 18)])), (2, .inr (false, [(1, 2147483646)])), (3, .inr (true, [(0, 2147483646)])), (5, .inr (false, [(2, 2)]))], [], mbh397),
  (58, [(0, .inl 81), (1, .inr (false, [(18, 18)])), (2, .inr (false, [(1, 2147483646)])), (3, .inr (true, [(0, 2147483646)])), (5, .inr (false, [(3, 3)]))], [], mbh375),
  (58, [(0, .inl 81), (1, .inr (false, [(18, 18)])), (2, .inr (false, [(1, 2147483646)])), (3, .inr (true, [(0, 2147483646)])), (5, .inr (false, [(4, 4)]))], [], mbh353),
  (58, [(0, .inl 81), (1, .inr (false, [(18, 18)])), (2, .inr (false, [(1, 2147483646)])), (3, .inr (true, [(0, 2147483646)])), (5, .inr (false, [(5, 5)]))], [], mbh331),
  (58, [(0, .inl 81), (1, .inr (false, [(18, 18)])), (2, .inr (false, [(1, 2147483646)])), (3, .inr (true, [(0, 2147483646)])), (5, .inr (false, [(6, 6)]))], [], mbh309),
  (58, [(0, .inl 81), (1, .inr (false, [(18, 18)])), (2, .inr (false, [(1, 2147483646)])), (3, .inr (true, [(0, 2147483646)])), (5, .inr (false, [(7, 7)]))], [], mbh287),
  (58, [(0, .inl 81), (1, .inr (false, [(18, 18)])), (2, .inr (false, [(1, 2147483646)])), (3, .inr (true, [(0, 2147483646)])), (5, .inr (false, [(8, 8)]))], [], mbh265),
  (58, [(0, .inl 81), (1, .inr (false, [(18, 18)])), (2, .inr (false, [(1, 2147483646)])), (3, .inr (true, [(0, 2147483646)])), (5, .inr (false, [(9, 9)]))], [], mbh243),
  (58, [(0, .inl 81), (1, .inr (false, [(18, 18)])), (2, .inr (false, [(1, 2147483646)])), (3, .inr (true, [(0, 2147483646)])), (5, .inr (false, [(10, 10)]))], [], mbh221),
  (58, [(0, .inl 81), (1, .inr (false, [(18, 18)])), (2, .inr (false, [(1, 2147483646)])), (3, .inr (true, [(0, 2147483646)])), (5, .inr (false, [(11, 11)]))], [], mbh199),
  (58, [(0, .inl 81), (1, .inr (false, [(18, 18)])), (2, .inr (false, [(1, 2147483646)])), (3, .inr (true, [(0, 2147483646)])), (5, .inr (false, [(12, 12)]))], [], mbh177),
  (58, [(0, .inl 81), (1, .inr (false, [(18, 18)])), (2, .inr (false, [(1, 2147483646)])), (3, .inr (true, [(0, 2147483646)])), (5, .inr (false, [(13, 13)]))], [], mbh155),
  (58, [(0, .inl 81), (1, .inr (false, [(18, 18)])), (2, .inr (false, [(1, 2147483646)])), (3, .inr (true, [(0, 2147483646)])), (5, .inr (false, [(14, 14)]))], [], mbh133),
  (58, [(0, .inl 81), (1, .inr (false, [(18, 18)])), (2, .inr (false, [(1, 2147483646)])), (3, .inr (true, [(0, 2147483646)])), (5, .inr (false, [(15, 15)]))], [], mbh111),
  (58, [(0, .inl 81), (1, .inr (false, [(18, 18)])), (2, .inr (false, [(1, 2147483646)])), (3, .inr (true, [(0, 2147483646)])), (5, .inr (false, [(16, 16)]))], [], mbh89)]
def mbn71_2 : List (Nat × aw_S) := [(58, [(0, .inl 81), (1, .inr (false, [(18, 18)])), (2, .inr (false, [(1, 2147483646)])), (3, .inr (true, [(0, 2147483646)])), (5, .inr (false, [(17, 17)]))], [], mbh67),
  (58, [(0, .inl 81), (1, .inr (false, [(18, 18)])), (2, .inr (false, [(1, 2147483646)])), (3, .inr (true, [(0, 2147483646)])), (5, .inr (false, [(18, 18)]))], [], mbh35),
  (58, [(0, .inl 81), (1, .inr (false, [(9, 9)])), (2, .inr (false, [(1, 2147483646)])), (3, .inr (true, [(1, 2147483646)])), (5, .inr (false, [(0, 0)]))], [], mbh497),
  (58, [(0, .inl 81), (1, .inr (false, [(9, 9)])), (2, .inr (false, [(1, 2147483646)])), (3, .inr (true, [(0, 2147483646)])), (5, .inr (false, [(1, 1)]))], [], mbh221),
  (58, [(0, .inl 81), (1, .inr (false, [(9, 9)])), (2, .inr (false, [(1, 2147483646)])), (3, .inr (true, [(0, 2147483646)])), (5, .inr (false, [(2, 2)]))], [], mbh199),
  (58, [(0, .inl 81), (1, .inr (false, [(9, 9)])), (2, .inr (false, [(1, 2147483646)])), (3, .inr (true, [(0, 2147483646)])), (5, .inr (false, [(3, 3)]))], [], mbh177),
  (58, [(0, .inl 81), (1, .inr (false, [(9, 9)])), (2, .inr (false, [(1, 2147483646)])), (3, .inr (true, [(0, 2147483646)])), (5, .inr (false, [(4, 4)]))], [], mbh155),
  (58, [(0, .inl 81), (1, .inr (false, [(9, 9)])), (2, .inr (false, [(1, 2147483646)])), (3, .inr (true, [(0, 2147483646)])), (5, .inr (false, [(5, 5)]))], [], mbh133),
  (58, [(0, .inl 81), (1, .inr (false, [(9, 9)])), (2, .inr (false, [(1, 2147483646)])), (3, .inr (true, [(0, 2147483646)])), (5, .inr (false, [(6, 6)]))], [], mbh111),
  (58, [(0, .inl 81), (1, .inr (false, [(9, 9)])), (2, .inr (false, [(1, 2147483646)])), (3, .inr (true, [(0, 2147483646)])), (5, .inr (false, [(7, 7)]))], [], mbh89),
  (58, [(0, .inl 81), (1, .inr (false, [(9, 9)])), (2, .inr (false, [(1, 2147483646)])), (3, .inr (true, [(0, 2147483646)])), (5, .inr (false, [(8, 8)]))], [], mbh67),
  (58, [(0, .inl 81), (1, .inr (false, [(9, 9)])), (2, .inr (false, [(1, 2147483646)])), (3, .inr (true, [(0, 2147483646)])), (5, .inr (false, [(9, 9)]))], [], mbh35),
  (58, [(0, .inl 81), (1, .inr (false, [(6, 6)])), (2, .inr (false, [(1, 2147483646)])), (3, .inr (true, [(1, 2147483646)])), (5, .inr (false, [(0, 0)]))], [], mbh498),
  (58, [(0, .inl 81), (1, .inr (false, [(6, 6)])), (2, .inr (false, [(1, 2147483646)])), (3, .inr (true, [(0, 2147483646)])), (5, .inr (false, [(1, 1)]))], [], mbh155),
  (58, [(0, .inl 81), (1, .inr (false, [(6, 6)])), (2, .inr (false, [(1, 2147483646)])), (3, .inr (true, [(0, 2147483646)])), (5, .inr (false, [(2, 2)]))], [], mbh133),
  (58, [(0, .inl 81), (1, .inr (false, [(6, 6)])), (2, .inr (false, [(1, 2147483646)])), (3, .inr (true, [(0, 2147483646)])), (5, .inr (false, [(3, 3)]))], [], mbh111),
  (58, [(0, .inl 81), (1, .inr (false, [(6, 6)])), (2, .inr (false, [(1, 2147483646)])), (3, .inr (true, [(0, 2147483646)])), (5, .inr (false, [(4, 4)]))], [], mbh89),
  (58, [(0, .inl 81), (1, .inr (false, [(6, 6)])), (2, .inr (false, [(1, 2147483646)])), (3, .inr (true, [(0, 2147483646)])), (5, .inr (false, [(5, 5)]))], [], mbh67),
  (58, [(0, .inl 81), (1, .inr (false, [(6, 6)])), (2, .inr (false, [(1, 2147483646)])), (3, .inr (true, [(0, 2147483646)])), (5, .inr (false, [(6, 6)]))], [], mbh35),
  (58, [(0, .inl 81), (1, .inr (false, [(16, 16)])), (2, .inr (false, [(1, 2147483646)])), (3, .inr (true, [(1, 2147483646)])), (5, .inr (false, [(0, 0)]))], [], mbh499),
  (58, [(0, .inl 81), (1, .inr (false, [(16, 16)])), (2, .inr (false, [(1, 2147483646)])), (3, .inr (true, [(0, 2147483646)])), (5, .inr (false, [(1, 1)]))], [], mbh375),
  (58, [(0, .inl 81), (1, .inr (false, [(16, 16)])), (2, .inr (false, [(1, 2147483646)])), (3, .inr (true, [(0, 2147483646)])), (5, .inr (false, [(2, 2)]))], [], mbh353),
  (58, [(0, .inl 81), (1, .inr (false, [(16, 16)])), (2, .inr (false, [(1, 2147483646)])), (3, .inr (true, [(0, 2147483646)])), (5, .inr (false, [(3, 3)]))], [], mbh331),
  (58, [(0, .inl 81), (1, .inr (false, [(16, 16)])), (2, .inr (false, [(1, 2147483646)])), (3, .inr (true, [(0, 2147483646)])), (5, .inr (false, [(4, 4)]))], [], mbh309),
  (58, [(0, .inl 81), (1, .inr (false, [(16, 16)])), (2, .inr (false, [(1, 2147483646)])), (3, .inr (true, [(0, 2147483646)])), (5, .inr (false, [(5, 5)]))], [], mbh287),
  (58, [(0, .inl 81), (1, .inr (false, [(16, 16)])), (2, .inr (false, [(1, 2147483646)])), (3, .inr (true, [(0, 2147483646)])), (5, .inr (false, [(6, 6)]))], [], mbh265),
  (58, [(0, .inl 81), (1, .inr (false, [(16, 16)])), (2, .inr (false, [(1, 2147483646)])), (3, .inr (true, [(0, 2147483646)])), (5, .inr (false, [(7, 7)]))], [], mbh243),
  (58, [(0, .inl 81), (1, .inr (false, [(16, 16)])), (2, .inr (false, [(1, 2147483646)])), (3, .inr (true, [(0, 2147483646)])), (5, .inr (false, [(8, 8)]))], [], mbh221),
  (58, [(0, .inl 81), (1, .inr (false, [(16, 16)])), (2, .inr (false, [(1, 2147483646)])), (3, .inr (true, [(0, 2147483646)])), (5, .inr (false, [(9, 9)]))], [], mbh199),
  (58, [(0, .inl 81), (1, .inr (false, [(16, 16)])), (2, .inr (false, [(1, 2147483646)])), (3, .inr (true, [(0, 2147483646)])), (5, .inr (false, [(10, 10)]))], [], mbh177),
  (58, [(0, .inl 81), (1, .inr (false, [(16, 16)])), (2, .inr (false, [(1, 2147483646)])), (3, .inr (true, [(0, 2147483646)])), (5, .inr (false, [(11, 11)]))], [], mbh155),
  (58, [(0, .inl 81), (1, .inr (false, [(16, 16)])), (2, .inr (false, [(1, 2147483646)])), (3, .inr (true, [(0, 2147483646)])), (5, .inr (false, [(12, 12)]))], [], mbh133),
  (58, [(0, .inl 81), (1, .inr (false, [(16, 16)])), (2, .inr (false, [(1, 2147483646)])), (3, .inr (true, [(0, 2147483646)])), (5, .inr (false, [(13, 13)]))], [], mbh111),
  (58, [(0, .inl 81), (1, .inr (false, [(16, 16)])), (2, .inr (false, [(1, 2147483646)])), (3, .inr (true, [(0, 2147483646)])), (5, .inr (false, [(14, 14)]))], [], mbh89),
  (58, [(0, .inl 81), (1, .inr (false, [(16, 16)])), (2, .inr (false, [(1, 2147483646)])), (3, .inr (true, [(0, 2147483646)])), (5, .inr (false, [(15, 15)]))], [], mbh67),
  (58, [(0, .inl 81), (1, .inr (false, [(16, 16)])), (2, .inr (false, [(1, 2147483646)])), (3, .inr (true, [(0, 2147483646)])), (5, .inr (false, [(16, 16)]))], [], mbh35),
  (58, [(0, .inl 81), (1, .inr (false, [(1, 1)])), (2, .inr (false, [(1, 2147483646)])), (3, .inr (true, [(1, 2147483646)])), (5, .inr (false, [(0, 0)]))], [], mbh500),
  (58, [(0, .inl 81), (1, .inr (false, [(1, 1)])), (2, .inr (false, [(1, 2147483646)])), (3, .inr (true, [(0, 2147483646)])), (5, .inr (false, [(1, 1)]))], [], mbh35),
  (58, [(0, .inl 81), (1, .inr (false, [(2, 2)])), (2, .inr (false, [(1, 2147483646)])), (3, .inr (true, [(1, 2147483646)])), (5, .inr (false, [(0, 0)]))], [], mbh501),
  (58, [(0, .inl 81), (1, .inr (false, [(2, 2)])), (2, .inr (false, [(1, 2147483646)])), (3, .inr (true, [(0, 2147483646)])), (5, .inr (false, [(1, 1)]))], [], mbh67),
  (58, [(0, .inl 81), (1, .inr (false, [(2, 2)])), (2, .inr (false, [(1, 2147483646)])), (3, .inr (true, [(0, 2147483646)])), (5, .inr (false, [(2, 2)]))], [], mbh35),
  (58, [(0, .inl 81), (1, .inr (false, [(12, 12)])), (2, .inr (false, [(1, 2147483646)])), (3, .inr (true, [(1, 2147483646)])), (5, .inr (false, [(0, 0)]))], [], mbh502),
  (58, [(0, .inl 81), (1, .inr (false, [(12, 12)])), (2, .inr (false, [(1, 2147483646)])), (3, .inr (true, [(0, 2147483646)])), (5, .inr (false, [(1, 1)]))], [], mbh287),
  (58, [(0, .inl 81), (1, .inr (false, [(12, 12)])), (2, .inr (false, [(1, 2147483646)])), (3, .inr (true, [(0, 2147483646)])), (5, .inr (false, [(2, 2)]))], [], mbh265),
  (58, [(0, .inl 81), (1, .inr (false, [(12, 12)])), (2, .inr (false, [(1, 2147483646)])), (3, .inr (true, [(0, 2147483646)])), (5, .inr (false, [(3, 3)]))], [], mbh243),
  (58, [(0, .inl 81), (1, .inr (false, [(12, 12)])), (2, .inr (false, [(1, 2147483646)])), (3, .inr (true, [(0, 2147483646)])), (5, .inr (false, [(4, 4)]))], [], mbh221),
  (58, [(0, .inl 81), (1, .inr (false, [(12, 12)])), (2, .inr (false, [(1, 2147483646)])), (3, .inr (true, [(0, 2147483646)])), (5, .inr (false, [(5, 5)]))], [], mbh199),
  (58, [(0, .inl 81), (1, .inr (false, [(12, 12)])), (2, .inr (false, [(1, 2147483646)])), (3, .inr (true, [(0, 2147483646)])), (5, .inr (false, [(6, 6)]))], [], mbh177),
  (58, [(0, .inl 81), (1, .inr (false, [(12, 12)])), (2, .inr (false, [(1, 2147483646)])), (3, .inr (true, [(0, 2147483646)])), (5, .inr (false, [(7, 7)]))], [], mbh155),
  (58, [(0, .inl 81), (1, .inr (false, [(12, 12)])), (2, .inr (false, [(1, 2147483646)])), (3, .inr (true, [(0, 2147483646)])), (5, .inr (false, [(8, 8)]))], [], mbh133),
  (58, [(0, .inl 81), (1, .inr (false, [(12, 12)])), (2, .inr (false, [(1, 2147483646)])), (3, .inr (true, [(0, 2147483646)])), (5, .inr (false, [(9, 9)]))], [], mbh111),
  (58, [(0, .inl 81), (1, .inr (false, [(12, 12)])), (2, .inr (false, [(1, 2147483646)])), (3, .inr (true, [(0, 2147483646)])), (5, .inr (false, [(10, 10)]))], [], mbh89),
  (58, [(0, .inl 81), (1, .inr (false, [(12, 12)])), (2, .inr (false, [(1, 2147483646)])), (3, .inr (true, [(0, 2147483646)])), (5, .inr (false, [(11, 11)]))], [], mbh67),
  (58, [(0, .inl 81), (1, .inr (false, [(12, 12)])), (2, .inr (false, [(1, 2147483646)])), (3, .inr (true, [(0, 2147483646)])), (5, .inr (false, [(12, 12)]))], [], mbh35),
  (58, [(0, .inl 81), (1, .inr (false, [(13, 13)])), (2, .inr (false, [(1, 2147483646)])), (3, .inr (true, [(1, 2147483646)])), (5, .inr (false, [(0, 0)]))], [], mbh503),
  (58, [(0, .inl 81), (1, .inr (false, [(13, 13)])), (2, .inr (false, [(1, 2147483646)])), (3, .inr (true, [(0, 2147483646)])), (5, .inr (false, [(1, 1)]))], [], mbh309),
  (58, [(0, .inl 81), (1, .inr (false, [(13, 13)])), (2, .inr (false, [(1, 2147483646)])), (3, .inr (true, [(0, 2147483646)])), (5, .inr (false, [(2, 2)]))], [], mbh287),
  (58, [(0, .inl 81), (1, .inr (false, [(13, 13)])), (2, .inr (false, [(1, 2147483646)])), (3, .inr (true, [(0, 2147483646)])), (5, .inr (false, [(3, 3)]))], [], mbh265),
  (58, [(0, .inl 81), (1, .inr (false, [(13, 13)])), (2, .inr (false, [(1, 2147483646)])), (3, .inr (true, [(0, 2147483646)])), (5, .inr (false, [(4, 4)]))], [], mbh243),
  (58, [(0, .inl 81), (1, .inr (false, [(13, 13)])), (2, .inr (false, [(1, 2147483646)])), (3, .inr (true, [(0, 2147483646)])), (5, .inr (false, [(5, 5)]))], [], mbh221),
  (58, [(0, .inl 81), (1, .inr (false, [(13, 13)])), (2, .inr (false, [(1, 2147483646)])), (3, .inr (true, [(0, 2147483646)])), (5, .inr (false, [(6, 6)]))], [], mbh199),
  (58, [(0, .inl 81), (1, .inr (false, [(13, 13)])), (2, .inr (false, [(1, 2147483646)])), (3, .inr (true, [(0, 2147483646)])), (5, .inr (false, [(7, 7)]))], [], mbh177),
  (58, [(0, .inl 81), (1, .inr (false, [(13, 13)])), (2, .inr (false, [(1, 2147483646)])), (3, .inr (true, [(0, 2147483646)])), (5, .inr (false, [(8, 8)]))], [], mbh155),
  (58, [(0, .inl 81), (1, .inr (false, [(13, 13)])), (2, .inr (false, [(1, 2147483646)])), (3, .inr (true, [(0, 2147483646)])), (5, .inr (false, [(9, 9)]))], [], mbh133),
  (58, [(0, .inl 81), (1, .inr (false, [(13, 13)])), (2, .inr (false, [(1, 2147483646)])), (3, .inr (true, [(0, 2147483646)])), (5, .inr (false, [(10, 10)]))], [], mbh111),
  (58, [(0, .inl 81), (1, .inr (false, [(13, 13)])), (2, .inr (false, [(1, 2147483646)])), (3, .inr (true, [(0, 2147483646)])), (5, .inr (false, [(11, 11)]))], [], mbh89),
  (58, [(0, .inl 81), (1, .inr (false, [(13, 13)])), (2, .inr (false, [(1, 2147483646)])), (3, .inr (true, [(0, 2147483646)])), (5, .inr (false, [(12, 12)]))], [], mbh67),
  (58, [(0, .inl 81), (1, .inr (false, [(13, 13)])), (2, .inr (false, [(1, 2147483646)])), (3, .inr (true, [(0, 2147483646)])), (5, .inr (false, [(13, 13)]))], [], mbh35),
  (58, [(0, .inl 81), (1, .inr (false, [(7, 7)])), (2, .inr (false, [(1, 2147483646)])), (3, .inr (true, [(1, 2147483646)])), (5, .inr (false, [(0, 0)]))], [], mbh504),
  (58, [(0, .inl 81), (1, .inr (false, [(7, 7)])), (2, .inr (false, [(1, 2147483646)])), (3, .inr (true, [(0, 2147483646)])), (5, .inr (false, [(1, 1)]))], [], mbh177),
  (58, [(0, .inl 81), (1, .inr (false, [(7, 7)])), (2, .inr (false, [(1, 2147483646)])), (3, .inr (true, [(0, 2147483646)])), (5, .inr (false, [(2, 2)]))], [], mbh155),
  (58, [(0, .inl 81), (1, .inr (false, [(7, 7)])), (2, .inr (false, [(1, 2147483646)])), (3, .inr (true, [(0, 2147483646)])), (5, .inr (false, [(3, 3)]))], [], mbh133),
  (58, [(0, .inl 81), (1, .inr (false, [(7, 7)])), (2, .inr (false, [(1, 2147483646)])), (3, .inr (true, [(0, 2147483646)])), (5, .inr (false, [(4, 4)]))], [], mbh111),
  (58, [(0, .inl 81), (1, .inr (false, [(7, 7)])), (2, .inr (false, [(1, 2147483646)])), (3, .inr (true, [(0, 2147483646)])), (5, .inr (false, [(5, 5)]))], [], mbh89),
  (58, [(0, .inl 81), (1, .inr (false, [(7, 7)])), (2, .inr (false, [(1, 2147483646)])), (3, .inr (true, [(0, 2147483646)])), (5, .inr (false, [(6, 6)]))], [], mbh67),
  (58, [(0, .inl 81), (1, .inr (false, [(7, 7)])), (2, .inr (false, [(1, 2147483646)])), (3, .inr (true, [(0, 2147483646)])), (5, .inr (false, [(7, 7)]))], [], mbh35)]
def mbb71 : sm_P := (fun pc => sm_ch sm_t188 pc, sm_Kn 3 6 none, fun x => sm_lk sm_ca3 x, some .int)
set_option maxRecDepth 100000 in
theorem mbk71_e : ai_nd2 [mbc2, mbc3, mbc4, mbc12, mbc13, mbc14, mbc16, mbc17, mbc19, mbc20, mbc22, mbc23, mbc25, mbc26, mbc28, mbc29, mbc31, mbc32, mbc34, mbc35, mbc37, mbc38, mbc40, mbc41, mbc43, mbc44, mbc46, mbc47, mbc49, mbc50, mbc52, mbc53, mbc55, mbc56, mbc58, mbc59, mbc61, mbc62, mbc64, mbc65, mbc67, mbc68, mbc70] mbc71 mbb71 [82] 3 [58] [(36, some (2, 82, 0), -1, 42), (37, some (0, 1, 0), 1, 20)] 2000 [(0, ai_lv mbc71.2.1 0, [], mbc71.2.2.1)] (mbn71_0 ++ (mbn71_1 ++ (mbn71_2 ++ []))) = true := by decide +kernel
set_option maxRecDepth 100000 in
theorem mbk71_0 : ai_nd2 [mbc2, mbc3, mbc4, mbc12, mbc13, mbc14, mbc16, mbc17, mbc19, mbc20, mbc22, mbc23, mbc25, mbc26, mbc28, mbc29, mbc31, mbc32, mbc34, mbc35, mbc37, mbc38, mbc40, mbc41, mbc43, mbc44, mbc46, mbc47, mbc49, mbc50, mbc52, mbc53, mbc55, mbc56, mbc58, mbc59, mbc61, mbc62, mbc64, mbc65, mbc67, mbc68, mbc70] mbc71 mbb71 [82] 3 [58] [(36, some (2, 82, 0), -1, 42), (37, some (0, 1, 0), 1, 20)] 2000 mbn71_0 (mbn71_1 ++ (mbn71_2 ++ [])) = true := by decide +kernel
set_option maxRecDepth 100000 in
theorem mbk71_1 : ai_nd2 [mbc2, mbc3, mbc4, mbc12, mbc13, mbc14, mbc16, mbc17, mbc19, mbc20, mbc22, mbc23, mbc25, mbc26, mbc28, mbc29, mbc31, mbc32, mbc34, mbc35, mbc37, mbc38, mbc40, mbc41, mbc43, mbc44, mbc46, mbc47, mbc49, mbc50, mbc52, mbc53, mbc55, mbc56, mbc58, mbc59, mbc61, mbc62, mbc64, mbc65, mbc67, mbc68, mbc70] mbc71 mbb71 [82] 3 [58] [(36, some (2, 82, 0), -1, 42), (37, some (0, 1, 0), 1, 20)] 2000 mbn71_1 (mbn71_2 ++ []) = true := by decide +kernel
set_option maxRecDepth 100000 in
theorem mbk71_2 : ai_nd2 [mbc2, mbc3, mbc4, mbc12, mbc13, mbc14, mbc16, mbc17, mbc19, mbc20, mbc22, mbc23, mbc25, mbc26, mbc28, mbc29, mbc31, mbc32, mbc34, mbc35, mbc37, mbc38, mbc40, mbc41, mbc43, mbc44, mbc46, mbc47, mbc49, mbc50, mbc52, mbc53, mbc55, mbc56, mbc58, mbc59, mbc61, mbc62, mbc64, mbc65, mbc67, mbc68, mbc70] mbc71 mbb71 [82] 3 [58] [(36, some (2, 82, 0), -1, 42), (37, some (0, 1, 0), 1, 20)] 2000 mbn71_2 [] = true := by decide +kernel
set_option maxRecDepth 100000 in
theorem mbk71 : ai_chk [mbc2, mbc3, mbc4, mbc12, mbc13, mbc14, mbc16, mbc17, mbc19, mbc20, mbc22, mbc23, mbc25, mbc26, mbc28, mbc29, mbc31, mbc32, mbc34, mbc35, mbc37, mbc38, mbc40, mbc41, mbc43, mbc44, mbc46, mbc47, mbc49, mbc50, mbc52, mbc53, mbc55, mbc56, mbc58, mbc59, mbc61, mbc62, mbc64, mbc65, mbc67, mbc68, mbc70] mbc71 mbb71 [82] 6 3 [58] [(36, some (2, 82, 0), -1, 42), (37, some (0, 1, 0), 1, 20)] 2000 (mbn71_0 ++ (mbn71_1 ++ (mbn71_2 ++ []))) = true := ai_chk_of (by decide +kernel) (ai_nd2_s (ai_nd2_s (ai_nd2_s (ai_nd2_s rfl mbk71_2) mbk71_1) mbk71_0) mbk71_e)
