theorem mbk12 : ai_chk [mbc11] mbc12 (fun pc => sm_ch sm_t189 pc, sm_Kn 3 6 none, fun x => sm_lk sm_ca3 x, none) [82] 6 0 [] [] 2000 [] = true := by decide +kernel
/-- MiceRegistersModel.leftIn -/
def mbc13 : ak_C := (168, [.inl 81, .inr (false, [(0, 0)])], mbh3, [], [([], some (.inr (false, ar_t32)), [])])
def mbh469 : aw_H := [(81, mbx6), (82, ms_r [(0, [(-1, 40)])])]
def mbh470 : aw_H := [(81, mbx9), (82, ms_r [(0, [(-1, 40)])])]
def mbh471 : aw_H := [(81, mbx12), (82, ms_r [(0, [(-1, 40)])])]
def mbh472 : aw_H := [(81, mbx15), (82, ms_r [(0, [(-1, 40)])])]
def mbh473 : aw_H := [(81, mbx18), (82, ms_r [(0, [(-1, 40)])])]
def mbh474 : aw_H := [(81, mbx21), (82, ms_r [(0, [(-1, 40)])])]
def mbh475 : aw_H := [(81, mbx24), (82, ms_r [(0, [(-1, 40)])])]
theorem mbk13 : ai_chk [] mbc13 (fun pc => sm_ch sm_t168 pc, sm_Kn 3 4 none, fun x => sm_lk sm_ca3 x, some .int) [] 4 0 [4] [] 2000 [(4, [(0, .inl 81), (1, .inr (false, [(0, 0)])), (2, .inr (false, [(0, 0)])), (3, .inr (false, [(0, 0)]))], [], mbh3),
  (4, [(0, .inl 81), (1, .inr (false, [(0, 0)])), (2, .inr (false, ar_t32)), (3, .inr (false, [(1, 1)]))], [], mbh3),
  (4, [(0, .inl 81), (1, .inr (false, [(0, 0)])), (2, .inr (false, ar_t32)), (3, .inr (false, [(2, 2)]))], [], mbh469),
  (4, [(0, .inl 81), (1, .inr (false, [(0, 0)])), (2, .inr (false, ar_t32)), (3, .inr (false, [(3, 3)]))], [], mbh470),
  (4, [(0, .inl 81), (1, .inr (false, [(0, 0)])), (2, .inr (false, ar_t32)), (3, .inr (false, [(4, 4)]))], [], mbh471),
  (4, [(0, .inl 81), (1, .inr (false, [(0, 0)])), (2, .inr (false, ar_t32)), (3, .inr (false, [(5, 5)]))], [], mbh472),
  (4, [(0, .inl 81), (1, .inr (false, [(0, 0)])), (2, .inr (false, ar_t32)), (3, .inr (false, [(6, 6)]))], [], mbh473),
  (4, [(0, .inl 81), (1, .inr (false, [(0, 0)])), (2, .inr (false, ar_t32)), (3, .inr (false, [(7, 7)]))], [], mbh474),
  (4, [(0, .inl 81), (1, .inr (false, [(0, 0)])), (2, .inr (false, ar_t32)), (3, .inr (false, [(8, 8)]))], [], mbh475)] = true := by decide +kernel
def mbh476 : aw_H := [(82, ms_r [(0, [(-1, 40)])])]
def mbh477 : aw_H := [(82, ms_r [(0, [(21, 40)])])]
/-- MiceRegistersModel.lots -/
def mbh478 : aw_H := [(81, mbx1), (82, ms_r [(0, [(-1, 40)])]), (83, .inr (.inl (0, 8, [], []))), (85, .inr (.inl (0, 4, [], []))), (86, .inr (.inl (0, 4, [], [])))]
def mbc71 : ak_C := (188, [.inl 81, .inr (false, ar_t32), .inr (false, ar_t32)], mbh478, [82], [([[], [], []], some (.inr (false, [(-1, -1)])), mbh476), ([[], [(1, 20)], [(1, 2147483646)]], some (.inr (false, [(-2, -2)])), mbh477), ([[], [(1, 20)], [(1, 2147483646)]], some (.inr (false, ar_t32)), mbh447)])
def mbb71 : sm_P := (fun pc => sm_ch sm_t188 pc, sm_Kn 3 6 none, fun x => sm_lk sm_ca3 x, some .int)
def czmb71x0 : aw_A := ms_o [(1, 8)] [(1, 4)] ar_t32 ar_t32 [(0, 180)] [(0, 60)] [(-1, 60)] [(0, 8)] [(0, 4)]
def czmb71h1 : aw_H := [(81, czmb71x0), (82, ms_r [(0, [(-1, 20)])]), (83, .inr (.inl (0, 8, [], []))), (85, .inr (.inl (0, 4, [], []))), (86, .inr (.inl (0, 4, [], [])))]
def czmb71h2 : aw_H := [(81, czmb71x0), (82, ms_r [(0, [(0, 21)])]), (83, .inr (.inl (0, 8, [], []))), (85, .inr (.inl (0, 4, [], []))), (86, .inr (.inl (0, 4, [], [])))]
def czmb71h3 : aw_H := [(81, czmb71x0), (82, ms_r [(0, [(0, 22)])]), (83, .inr (.inl (0, 8, [], []))), (85, .inr (.inl (0, 4, [], []))), (86, .inr (.inl (0, 4, [], [])))]
def czmb71h4 : aw_H := [(81, czmb71x0), (82, ms_r [(0, [(0, 23)])]), (83, .inr (.inl (0, 8, [], []))), (85, .inr (.inl (0, 4, [], []))), (86, .inr (.inl (0, 4, [], [])))]
def czmb71h5 : aw_H := [(81, czmb71x0), (82, ms_r [(0, [(0, 24)])]), (83, .inr (.inl (0, 8, [], []))), (85, .inr (.inl (0, 4, [], []))), (86, .inr (.inl (0, 4, [], [])))]
def czmb71h6 : aw_H := [(81, czmb71x0), (82, ms_r [(0, [(0, 25)])]), (83, .inr (.inl (0, 8, [], []))), (85, .inr (.inl (0, 4, [], []))), (86, .inr (.inl (0, 4, [], [])))]
def czmb71h7 : aw_H := [(81, czmb71x0), (82, ms_r [(0, [(0, 26)])]), (83, .inr (.inl (0, 8, [], []))), (85, .inr (.inl (0, 4, [], []))), (86, .inr (.inl (0, 4, [], [])))]
def czmb71h8 : aw_H := [(81, czmb71x0), (82, ms_r [(0, [(0, 27)])]), (83, .inr (.inl (0, 8, [], []))), (85, .inr (.inl (0, 4, [], []))), (86, .inr (.inl (0, 4, [], [])))]
def czmb71h9 : aw_H := [(81, czmb71x0), (82, ms_r [(0, [(0, 28)])]), (83, .inr (.inl (0, 8, [], []))), (85, .inr (.inl (0, 4, [], []))), (86, .inr (.inl (0, 4, [], [])))]
def czmb71h10 : aw_H := [(81, czmb71x0), (82, ms_r [(0, [(0, 29)])]), (83, .inr (.inl (0, 8, [], []))), (85, .inr (.inl (0, 4, [], []))), (86, .inr (.inl (0, 4, [], [])))]
def czmb71h11 : aw_H := [(81, czmb71x0), (82, ms_r [(0, [(0, 30)])]), (83, .inr (.inl (0, 8, [], []))), (85, .inr (.inl (0, 4, [], []))), (86, .inr (.inl (0, 4, [], [])))]
def czmb71h12 : aw_H := [(81, czmb71x0), (82, ms_r [(0, [(0, 31)])]), (83, .inr (.inl (0, 8, [], []))), (85, .inr (.inl (0, 4, [], []))), (86, .inr (.inl (0, 4, [], [])))]
def czmb71h13 : aw_H := [(81, czmb71x0), (82, ms_r [(0, [(0, 32)])]), (83, .inr (.inl (0, 8, [], []))), (85, .inr (.inl (0, 4, [], []))), (86, .inr (.inl (0, 4, [], [])))]
def czmb71h14 : aw_H := [(81, czmb71x0), (82, ms_r [(0, [(0, 33)])]), (83, .inr (.inl (0, 8, [], []))), (85, .inr (.inl (0, 4, [], []))), (86, .inr (.inl (0, 4, [], [])))]
def czmb71h15 : aw_H := [(81, czmb71x0), (82, ms_r [(0, [(0, 34)])]), (83, .inr (.inl (0, 8, [], []))), (85, .inr (.inl (0, 4, [], []))), (86, .inr (.inl (0, 4, [], [])))]
def czmb71h16 : aw_H := [(81, czmb71x0), (82, ms_r [(0, [(0, 35)])]), (83, .inr (.inl (0, 8, [], []))), (85, .inr (.inl (0, 4, [], []))), (86, .inr (.inl (0, 4, [], [])))]
def czmb71h17 : aw_H := [(81, czmb71x0), (82, ms_r [(0, [(0, 36)])]), (83, .inr (.inl (0, 8, [], []))), (85, .inr (.inl (0, 4, [], []))), (86, .inr (.inl (0, 4, [], [])))]
def czmb71h18 : aw_H := [(81, czmb71x0), (82, ms_r [(0, [(0, 37)])]), (83, .inr (.inl (0, 8, [], []))), (85, .inr (.inl (0, 4, [], []))), (86, .inr (.inl (0, 4, [], [])))]
def czmb71h19 : aw_H := [(81, czmb71x0), (82, ms_r [(0, [(0, 38)])]), (83, .inr (.inl (0, 8, [], []))), (85, .inr (.inl (0, 4, [], []))), (86, .inr (.inl (0, 4, [], [])))]
def czmb71h20 : aw_H := [(81, czmb71x0), (82, ms_r [(0, [(0, 39)])]), (83, .inr (.inl (0, 8, [], []))), (85, .inr (.inl (0, 4, [], []))), (86, .inr (.inl (0, 4, [], [])))]
def czmb71h21 : aw_H := [(81, czmb71x0), (82, ms_r [(0, [(0, 40)])]), (83, .inr (.inl (0, 8, [], []))), (85, .inr (.inl (0, 4, [], []))), (86, .inr (.inl (0, 4, [], [])))]
def czmb71h22 : aw_H := [(81, czmb71x0), (82, ms_r [(0, [(-1, 21)])]), (83, .inr (.inl (0, 8, [], []))), (85, .inr (.inl (0, 4, [], []))), (86, .inr (.inl (0, 4, [], [])))]
def czmb71h23 : aw_H := [(81, czmb71x0), (82, ms_r [(0, [(-1, 22)])]), (83, .inr (.inl (0, 8, [], []))), (85, .inr (.inl (0, 4, [], []))), (86, .inr (.inl (0, 4, [], [])))]
def czmb71h24 : aw_H := [(81, czmb71x0), (82, ms_r [(0, [(-1, 23)])]), (83, .inr (.inl (0, 8, [], []))), (85, .inr (.inl (0, 4, [], []))), (86, .inr (.inl (0, 4, [], [])))]
def czmb71h25 : aw_H := [(81, czmb71x0), (82, ms_r [(0, [(-1, 24)])]), (83, .inr (.inl (0, 8, [], []))), (85, .inr (.inl (0, 4, [], []))), (86, .inr (.inl (0, 4, [], [])))]
def czmb71h26 : aw_H := [(81, czmb71x0), (82, ms_r [(0, [(-1, 25)])]), (83, .inr (.inl (0, 8, [], []))), (85, .inr (.inl (0, 4, [], []))), (86, .inr (.inl (0, 4, [], [])))]
