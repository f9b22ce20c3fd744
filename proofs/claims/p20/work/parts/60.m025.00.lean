/-! Contracts over ranges of the reference, and their checks; printed by a program of mine. -/
/-- MiceRegistersModel.byLot -/
def mbc25 : ak_C := (189, [.inl 81, .inr (true, [(0, 2147483646)])], mbh362, [82], [([], none, mbh359)])
theorem mbk25 : ai_chk [mbc24] mbc25 (fun pc => sm_ch sm_t189 pc, sm_Kn 3 6 none, fun x => sm_lk sm_ca3 x, none) [82] 6 0 [] [] 2000 [] = true := by decide +kernel
def mbh381 : aw_H := [(82, ms_r [(0, [(0, 37)])])]
/-- MiceRegistersModel.keepPast -/
def mbh382 : aw_H := [(81, mbx1), (82, ms_r [(0, [(-1, 36)])])]
def mbc20 : ak_C := (149, [.inl 81], mbh382, [82], [([], none, mbh381)])
def mbh383 : aw_H := [(82, ms_r [(0, [(0, 37)]), (12, ar_t32)])]
/-- MiceRegistersModel.passes -/
def mbh384 : aw_H := [(81, mbx1), (82, ms_r [(0, [(0, 37)])]), (83, .inr (.inl (0, 8, [], []))), (85, .inr (.inl (0, 4, [], []))), (86, .inr (.inl (0, 4, [], [])))]
def mbc21 : ak_C := (150, [.inl 81, .inr (false, [(0, 0)]), .inr (false, ar_t32)], mbh384, [82], [([], some (.inr (false, ar_t32)), mbh383)])
def czmb21x0 : aw_A := ms_o [(1, 8)] [(1, 4)] ar_t32 ar_t32 [(0, 180)] [(0, 60)] [(-1, 60)] [(0, 8)] [(0, 4)]
def czmb21h1 : aw_H := [(81, czmb21x0), (82, ms_r [(0, [(0, 37)])]), (83, .inr (.inl (0, 8, [], []))), (85, .inr (.inl (0, 4, [], []))), (86, .inr (.inl (0, 4, [], [])))]
set_option maxRecDepth 100000 in
theorem mbk21 : ai_ch2 [mbc5, mbc9, mbc10] mbc21 (fun pc => sm_ch sm_t150 pc, sm_Kn 3 7 none, fun x => sm_lk sm_ca3 x, some .int) [82] 7 0 [5, 130] [] 2000 [.inr (4, false, [((5, [(0, .inl 81), (1, .inr (false, [(0, 0)])), (2, .inr (false, ar_t32)), (3, .inr (false, ar_t32)), (4, .inr (false, [(0, 4)]))], [], czmb21h1), none)]),
  .inr (4, false, [((130, [(0, .inl 81), (1, .inr (false, [(0, 0)])), (2, .inr (false, ar_t32)), (3, .inr (false, ar_t32)), (4, .inr (false, [(0, 8)]))], [], czmb21h1), none)])] = true := by decide +kernel
/-- MiceRegistersModel.byLot -/
def mbc22 : ak_C := (189, [.inl 81, .inr (true, [(0, 2147483646)])], mbh384, [82], [([], none, mbh381)])
theorem mbk22 : ai_chk [mbc21] mbc22 (fun pc => sm_ch sm_t189 pc, sm_Kn 3 6 none, fun x => sm_lk sm_ca3 x, none) [82] 6 0 [] [] 2000 [] = true := by decide +kernel
def mbh403 : aw_H := [(82, ms_r [(0, [(0, 38)])])]
/-- MiceRegistersModel.keepPast -/
def mbh404 : aw_H := [(81, mbx1), (82, ms_r [(0, [(-1, 37)])])]
def mbc17 : ak_C := (149, [.inl 81], mbh404, [82], [([], none, mbh403)])
def mbh405 : aw_H := [(82, ms_r [(0, [(0, 38)]), (12, ar_t32)])]
/-- MiceRegistersModel.passes -/
def mbh406 : aw_H := [(81, mbx1), (82, ms_r [(0, [(0, 38)])]), (83, .inr (.inl (0, 8, [], []))), (85, .inr (.inl (0, 4, [], []))), (86, .inr (.inl (0, 4, [], [])))]
def mbc18 : ak_C := (150, [.inl 81, .inr (false, [(0, 0)]), .inr (false, ar_t32)], mbh406, [82], [([], some (.inr (false, ar_t32)), mbh405)])
def czmb18x0 : aw_A := ms_o [(1, 8)] [(1, 4)] ar_t32 ar_t32 [(0, 180)] [(0, 60)] [(-1, 60)] [(0, 8)] [(0, 4)]
def czmb18h1 : aw_H := [(81, czmb18x0), (82, ms_r [(0, [(0, 38)])]), (83, .inr (.inl (0, 8, [], []))), (85, .inr (.inl (0, 4, [], []))), (86, .inr (.inl (0, 4, [], [])))]
set_option maxRecDepth 100000 in
theorem mbk18 : ai_ch2 [mbc5, mbc9, mbc10] mbc18 (fun pc => sm_ch sm_t150 pc, sm_Kn 3 7 none, fun x => sm_lk sm_ca3 x, some .int) [82] 7 0 [5, 130] [] 2000 [.inr (4, false, [((5, [(0, .inl 81), (1, .inr (false, [(0, 0)])), (2, .inr (false, ar_t32)), (3, .inr (false, ar_t32)), (4, .inr (false, [(0, 4)]))], [], czmb18h1), none)]),
  .inr (4, false, [((130, [(0, .inl 81), (1, .inr (false, [(0, 0)])), (2, .inr (false, ar_t32)), (3, .inr (false, ar_t32)), (4, .inr (false, [(0, 8)]))], [], czmb18h1), none)])] = true := by decide +kernel
/-- MiceRegistersModel.byLot -/
def mbc19 : ak_C := (189, [.inl 81, .inr (true, [(0, 2147483646)])], mbh406, [82], [([], none, mbh403)])
theorem mbk19 : ai_chk [mbc18] mbc19 (fun pc => sm_ch sm_t189 pc, sm_Kn 3 6 none, fun x => sm_lk sm_ca3 x, none) [82] 6 0 [] [] 2000 [] = true := by decide +kernel
def mbh425 : aw_H := [(82, ms_r [(0, [(0, 39)])])]
/-- MiceRegistersModel.keepPast -/
def mbh426 : aw_H := [(81, mbx1), (82, ms_r [(0, [(-1, 38)])])]
def mbc14 : ak_C := (149, [.inl 81], mbh426, [82], [([], none, mbh425)])
def mbh427 : aw_H := [(82, ms_r [(0, [(0, 39)]), (12, ar_t32)])]
/-- MiceRegistersModel.passes -/
def mbh428 : aw_H := [(81, mbx1), (82, ms_r [(0, [(0, 39)])]), (83, .inr (.inl (0, 8, [], []))), (85, .inr (.inl (0, 4, [], []))), (86, .inr (.inl (0, 4, [], [])))]
def mbc15 : ak_C := (150, [.inl 81, .inr (false, [(0, 0)]), .inr (false, ar_t32)], mbh428, [82], [([], some (.inr (false, ar_t32)), mbh427)])
def czmb15x0 : aw_A := ms_o [(1, 8)] [(1, 4)] ar_t32 ar_t32 [(0, 180)] [(0, 60)] [(-1, 60)] [(0, 8)] [(0, 4)]
def czmb15h1 : aw_H := [(81, czmb15x0), (82, ms_r [(0, [(0, 39)])]), (83, .inr (.inl (0, 8, [], []))), (85, .inr (.inl (0, 4, [], []))), (86, .inr (.inl (0, 4, [], [])))]
set_option maxRecDepth 100000 in
theorem mbk15 : ai_ch2 [mbc5, mbc9, mbc10] mbc15 (fun pc => sm_ch sm_t150 pc, sm_Kn 3 7 none, fun x => sm_lk sm_ca3 x, some .int) [82] 7 0 [5, 130] [] 2000 [.inr (4, false, [((5, [(0, .inl 81), (1, .inr (false, [(0, 0)])), (2, .inr (false, ar_t32)), (3, .inr (false, ar_t32)), (4, .inr (false, [(0, 4)]))], [], czmb15h1), none)]),
  .inr (4, false, [((130, [(0, .inl 81), (1, .inr (false, [(0, 0)])), (2, .inr (false, ar_t32)), (3, .inr (false, ar_t32)), (4, .inr (false, [(0, 8)]))], [], czmb15h1), none)])] = true := by decide +kernel
/-- MiceRegistersModel.byLot -/
def mbc16 : ak_C := (189, [.inl 81, .inr (true, [(0, 2147483646)])], mbh428, [82], [([], none, mbh425)])
theorem mbk16 : ai_chk [mbc15] mbc16 (fun pc => sm_ch sm_t189 pc, sm_Kn 3 6 none, fun x => sm_lk sm_ca3 x, none) [82] 6 0 [] [] 2000 [] = true := by decide +kernel
def mbh447 : aw_H := [(82, ms_r [(0, [(0, 40)])])]
/-- MiceRegistersModel.keepPast -/
def mbh448 : aw_H := [(81, mbx1), (82, ms_r [(0, [(-1, 39)])])]
def mbc4 : ak_C := (149, [.inl 81], mbh448, [82], [([], none, mbh447)])
def mbh449 : aw_H := [(82, ms_r [(0, [(0, 40)]), (12, ar_t32)])]
/-- MiceRegistersModel.passes -/
def mbh450 : aw_H := [(81, mbx1), (82, ms_r [(0, [(0, 40)])]), (83, .inr (.inl (0, 8, [], []))), (85, .inr (.inl (0, 4, [], []))), (86, .inr (.inl (0, 4, [], [])))]
def mbc11 : ak_C := (150, [.inl 81, .inr (false, [(0, 0)]), .inr (false, ar_t32)], mbh450, [82], [([], some (.inr (false, ar_t32)), mbh449)])
def czmb11x0 : aw_A := ms_o [(1, 8)] [(1, 4)] ar_t32 ar_t32 [(0, 180)] [(0, 60)] [(-1, 60)] [(0, 8)] [(0, 4)]
def czmb11h1 : aw_H := [(81, czmb11x0), (82, ms_r [(0, [(0, 40)])]), (83, .inr (.inl (0, 8, [], []))), (85, .inr (.inl (0, 4, [], []))), (86, .inr (.inl (0, 4, [], [])))]
set_option maxRecDepth 100000 in
theorem mbk11 : ai_ch2 [mbc5, mbc9, mbc10] mbc11 (fun pc => sm_ch sm_t150 pc, sm_Kn 3 7 none, fun x => sm_lk sm_ca3 x, some .int) [82] 7 0 [5, 130] [] 2000 [.inr (4, false, [((5, [(0, .inl 81), (1, .inr (false, [(0, 0)])), (2, .inr (false, ar_t32)), (3, .inr (false, ar_t32)), (4, .inr (false, [(0, 4)]))], [], czmb11h1), none)]),
  .inr (4, false, [((130, [(0, .inl 81), (1, .inr (false, [(0, 0)])), (2, .inr (false, ar_t32)), (3, .inr (false, ar_t32)), (4, .inr (false, [(0, 8)]))], [], czmb11h1), none)])] = true := by decide +kernel
/-- MiceRegistersModel.byLot -/
def mbc12 : ak_C := (189, [.inl 81, .inr (true, [(0, 2147483646)])], mbh450, [82], [([], none, mbh447)])
