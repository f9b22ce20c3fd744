/-! Contracts over ranges of the reference, and their checks; printed by a program of mine. -/
/-- MiceRegistersModel.byLot -/
def mbc55 : ak_C := (189, [.inl 81, .inr (true, [(0, 2147483646)])], mbh142, [82], [([], none, mbh139)])
theorem mbk55 : ai_chk [mbc54] mbc55 (fun pc => sm_ch sm_t189 pc, sm_Kn 3 6 none, fun x => sm_lk sm_ca3 x, none) [82] 6 0 [] [] 2000 [] = true := by decide +kernel
def mbh161 : aw_H := [(82, ms_r [(0, [(0, 27)])])]
/-- MiceRegistersModel.keepPast -/
def mbh162 : aw_H := [(81, mbx1), (82, ms_r [(0, [(-1, 26)])])]
def mbc50 : ak_C := (149, [.inl 81], mbh162, [82], [([], none, mbh161)])
def mbh163 : aw_H := [(82, ms_r [(0, [(0, 27)]), (12, ar_t32)])]
/-- MiceRegistersModel.passes -/
def mbh164 : aw_H := [(81, mbx1), (82, ms_r [(0, [(0, 27)])]), (83, .inr (.inl (0, 8, [], []))), (85, .inr (.inl (0, 4, [], []))), (86, .inr (.inl (0, 4, [], [])))]
def mbc51 : ak_C := (150, [.inl 81, .inr (false, [(0, 0)]), .inr (false, ar_t32)], mbh164, [82], [([], some (.inr (false, ar_t32)), mbh163)])
def czmb51x0 : aw_A := ms_o [(1, 8)] [(1, 4)] ar_t32 ar_t32 [(0, 180)] [(0, 60)] [(-1, 60)] [(0, 8)] [(0, 4)]
def czmb51h1 : aw_H := [(81, czmb51x0), (82, ms_r [(0, [(0, 27)])]), (83, .inr (.inl (0, 8, [], []))), (85, .inr (.inl (0, 4, [], []))), (86, .inr (.inl (0, 4, [], [])))]
set_option maxRecDepth 100000 in
theorem mbk51 : ai_ch2 [mbc5, mbc9, mbc10] mbc51 (fun pc => sm_ch sm_t150 pc, sm_Kn 3 7 none, fun x => sm_lk sm_ca3 x, some .int) [82] 7 0 [5, 130] [] 2000 [.inr (4, false, [((5, [(0, .inl 81), (1, .inr (false, [(0, 0)])), (2, .inr (false, ar_t32)), (3, .inr (false, ar_t32)), (4, .inr (false, [(0, 4)]))], [], czmb51h1), none)]),
  .inr (4, false, [((130, [(0, .inl 81), (1, .inr (false, [(0, 0)])), (2, .inr (false, ar_t32)), (3, .inr (false, ar_t32)), (4, .inr (false, [(0, 8)]))], [], czmb51h1), none)])] = true := by decide +kernel
/-- MiceRegistersModel.byLot -/
def mbc52 : ak_C := (189, [.inl 81, .inr (true, [(0, 2147483646)])], mbh164, [82], [([], none, mbh161)])
theorem mbk52 : ai_chk [mbc51] mbc52 (fun pc => sm_ch sm_t189 pc, sm_Kn 3 6 none, fun x => sm_lk sm_ca3 x, none) [82] 6 0 [] [] 2000 [] = true := by decide +kernel
def mbh183 : aw_H := [(82, ms_r [(0, [(0, 28)])])]
/-- MiceRegistersModel.keepPast -/
def mbh184 : aw_H := [(81, mbx1), (82, ms_r [(0, [(-1, 27)])])]
def mbc47 : ak_C := (149, [.inl 81], mbh184, [82], [([], none, mbh183)])
def mbh185 : aw_H := [(82, ms_r [(0, [(0, 28)]), (12, ar_t32)])]
/-- MiceRegistersModel.passes -/
def mbh186 : aw_H := [(81, mbx1), (82, ms_r [(0, [(0, 28)])]), (83, .inr (.inl (0, 8, [], []))), (85, .inr (.inl (0, 4, [], []))), (86, .inr (.inl (0, 4, [], [])))]
def mbc48 : ak_C := (150, [.inl 81, .inr (false, [(0, 0)]), .inr (false, ar_t32)], mbh186, [82], [([], some (.inr (false, ar_t32)), mbh185)])
def czmb48x0 : aw_A := ms_o [(1, 8)] [(1, 4)] ar_t32 ar_t32 [(0, 180)] [(0, 60)] [(-1, 60)] [(0, 8)] [(0, 4)]
def czmb48h1 : aw_H := [(81, czmb48x0), (82, ms_r [(0, [(0, 28)])]), (83, .inr (.inl (0, 8, [], []))), (85, .inr (.inl (0, 4, [], []))), (86, .inr (.inl (0, 4, [], [])))]
set_option maxRecDepth 100000 in
theorem mbk48 : ai_ch2 [mbc5, mbc9, mbc10] mbc48 (fun pc => sm_ch sm_t150 pc, sm_Kn 3 7 none, fun x => sm_lk sm_ca3 x, some .int) [82] 7 0 [5, 130] [] 2000 [.inr (4, false, [((5, [(0, .inl 81), (1, .inr (false, [(0, 0)])), (2, .inr (false, ar_t32)), (3, .inr (false, ar_t32)), (4, .inr (false, [(0, 4)]))], [], czmb48h1), none)]),
  .inr (4, false, [((130, [(0, .inl 81), (1, .inr (false, [(0, 0)])), (2, .inr (false, ar_t32)), (3, .inr (false, ar_t32)), (4, .inr (false, [(0, 8)]))], [], czmb48h1), none)])] = true := by decide +kernel
/-- MiceRegistersModel.byLot -/
def mbc49 : ak_C := (189, [.inl 81, .inr (true, [(0, 2147483646)])], mbh186, [82], [([], none, mbh183)])
theorem mbk49 : ai_chk [mbc48] mbc49 (fun pc => sm_ch sm_t189 pc, sm_Kn 3 6 none, fun x => sm_lk sm_ca3 x, none) [82] 6 0 [] [] 2000 [] = true := by decide +kernel
def mbh205 : aw_H := [(82, ms_r [(0, [(0, 29)])])]
/-- MiceRegistersModel.keepPast -/
def mbh206 : aw_H := [(81, mbx1), (82, ms_r [(0, [(-1, 28)])])]
def mbc44 : ak_C := (149, [.inl 81], mbh206, [82], [([], none, mbh205)])
def mbh207 : aw_H := [(82, ms_r [(0, [(0, 29)]), (12, ar_t32)])]
/-- MiceRegistersModel.passes -/
def mbh208 : aw_H := [(81, mbx1), (82, ms_r [(0, [(0, 29)])]), (83, .inr (.inl (0, 8, [], []))), (85, .inr (.inl (0, 4, [], []))), (86, .inr (.inl (0, 4, [], [])))]
def mbc45 : ak_C := (150, [.inl 81, .inr (false, [(0, 0)]), .inr (false, ar_t32)], mbh208, [82], [([], some (.inr (false, ar_t32)), mbh207)])
def czmb45x0 : aw_A := ms_o [(1, 8)] [(1, 4)] ar_t32 ar_t32 [(0, 180)] [(0, 60)] [(-1, 60)] [(0, 8)] [(0, 4)]
def czmb45h1 : aw_H := [(81, czmb45x0), (82, ms_r [(0, [(0, 29)])]), (83, .inr (.inl (0, 8, [], []))), (85, .inr (.inl (0, 4, [], []))), (86, .inr (.inl (0, 4, [], [])))]
set_option maxRecDepth 100000 in
theorem mbk45 : ai_ch2 [mbc5, mbc9, mbc10] mbc45 (fun pc => sm_ch sm_t150 pc, sm_Kn 3 7 none, fun x => sm_lk sm_ca3 x, some .int) [82] 7 0 [5, 130] [] 2000 [.inr (4, false, [((5, [(0, .inl 81), (1, .inr (false, [(0, 0)])), (2, .inr (false, ar_t32)), (3, .inr (false, ar_t32)), (4, .inr (false, [(0, 4)]))], [], czmb45h1), none)]),
  .inr (4, false, [((130, [(0, .inl 81), (1, .inr (false, [(0, 0)])), (2, .inr (false, ar_t32)), (3, .inr (false, ar_t32)), (4, .inr (false, [(0, 8)]))], [], czmb45h1), none)])] = true := by decide +kernel
/-- MiceRegistersModel.byLot -/
def mbc46 : ak_C := (189, [.inl 81, .inr (true, [(0, 2147483646)])], mbh208, [82], [([], none, mbh205)])
theorem mbk46 : ai_chk [mbc45] mbc46 (fun pc => sm_ch sm_t189 pc, sm_Kn 3 6 none, fun x => sm_lk sm_ca3 x, none) [82] 6 0 [] [] 2000 [] = true := by decide +kernel
def mbh227 : aw_H := [(82, ms_r [(0, [(0, 30)])])]
/-- MiceRegistersModel.keepPast -/
def mbh228 : aw_H := [(81, mbx1), (82, ms_r [(0, [(-1, 29)])])]
def mbc41 : ak_C := (149, [.inl 81], mbh228, [82], [([], none, mbh227)])
def mbh229 : aw_H := [(82, ms_r [(0, [(0, 30)]), (12, ar_t32)])]
/-- MiceRegistersModel.passes -/
def mbh230 : aw_H := [(81, mbx1), (82, ms_r [(0, [(0, 30)])]), (83, .inr (.inl (0, 8, [], []))), (85, .inr (.inl (0, 4, [], []))), (86, .inr (.inl (0, 4, [], [])))]
def mbc42 : ak_C := (150, [.inl 81, .inr (false, [(0, 0)]), .inr (false, ar_t32)], mbh230, [82], [([], some (.inr (false, ar_t32)), mbh229)])
def czmb42x0 : aw_A := ms_o [(1, 8)] [(1, 4)] ar_t32 ar_t32 [(0, 180)] [(0, 60)] [(-1, 60)] [(0, 8)] [(0, 4)]
def czmb42h1 : aw_H := [(81, czmb42x0), (82, ms_r [(0, [(0, 30)])]), (83, .inr (.inl (0, 8, [], []))), (85, .inr (.inl (0, 4, [], []))), (86, .inr (.inl (0, 4, [], [])))]
set_option maxRecDepth 100000 in
theorem mbk42 : ai_ch2 [mbc5, mbc9, mbc10] mbc42 (fun pc => sm_ch sm_t150 pc, sm_Kn 3 7 none, fun x => sm_lk sm_ca3 x, some .int) [82] 7 0 [5, 130] [] 2000 [.inr (4, false, [((5, [(0, .inl 81), (1, .inr (false, [(0, 0)])), (2, .inr (false, ar_t32)), (3, .inr (false, ar_t32)), (4, .inr (false, [(0, 4)]))], [], czmb42h1), none)]),
  .inr (4, false, [((130, [(0, .inl 81), (1, .inr (false, [(0, 0)])), (2, .inr (false, ar_t32)), (3, .inr (false, ar_t32)), (4, .inr (false, [(0, 8)]))], [], czmb42h1), none)])] = true := by decide +kernel
/-- MiceRegistersModel.byLot -/
def mbc43 : ak_C := (189, [.inl 81, .inr (true, [(0, 2147483646)])], mbh230, [82], [([], none, mbh227)])
theorem mbk43 : ai_chk [mbc42] mbc43 (fun pc => sm_ch sm_t189 pc, sm_Kn 3 6 none, fun x => sm_lk sm_ca3 x, none) [82] 6 0 [] [] 2000 [] = true := by decide +kernel
def mbh249 : aw_H := [(82, ms_r [(0, [(0, 31)])])]
/-- MiceRegistersModel.keepPast -/
def mbh250 : aw_H := [(81, mbx1), (82, ms_r [(0, [(-1, 30)])])]
def mbc38 : ak_C := (149, [.inl 81], mbh250, [82], [([], none, mbh249)])
def mbh251 : aw_H := [(82, ms_r [(0, [(0, 31)]), (12, ar_t32)])]
/-- MiceRegistersModel.passes -/
def mbh252 : aw_H := [(81, mbx1), (82, ms_r [(0, [(0, 31)])]), (83, .inr (.inl (0, 8, [], []))), (85, .inr (.inl (0, 4, [], []))), (86, .inr (.inl (0, 4, [], [])))]
def mbc39 : ak_C := (150, [.inl 81, .inr (false, [(0, 0)]), .inr (false, ar_t32)], mbh252, [82], [([], some (.inr (false, ar_t32)), mbh251)])
def czmb39x0 : aw_A := ms_o [(1, 8)] [(1, 4)] ar_t32 ar_t32 [(0, 180)] [(0, 60)] [(-1, 60)] [(0, 8)] [(0, 4)]
def czmb39h1 : aw_H := [(81, czmb39x0), (82, ms_r [(0, [(0, 31)])]), (83, .inr (.inl (0, 8, [], []))), (85, .inr (.inl (0, 4, [], []))), (86, .inr (.inl (0, 4, [], [])))]
set_option maxRecDepth 100000 in
theorem mbk39 : ai_ch2 [mbc5, mbc9, mbc10] mbc39 (fun pc => sm_ch sm_t150 pc, sm_Kn 3 7 none, fun x => sm_lk sm_ca3 x, some .int) [82] 7 0 [5, 130] [] 2000 [.inr (4, false, [((5, [(0, .inl 81), (1, .inr (false, [(0, 0)])), (2, .inr (false, ar_t32)), (3, .inr (false, ar_t32)), (4, .inr (false, [(0, 4)]))], [], czmb39h1), none)]),
  .inr (4, false, [((130, [(0, .inl 81), (1, .inr (false, [(0, 0)])), (2, .inr (false, ar_t32)), (3, .inr (false, ar_t32)), (4, .inr (false, [(0, 8)]))], [], czmb39h1), none)])] = true := by decide +kernel
/-- MiceRegistersModel.byLot -/
def mbc40 : ak_C := (189, [.inl 81, .inr (true, [(0, 2147483646)])], mbh252, [82], [([], none, mbh249)])
theorem mbk40 : ai_chk [mbc39] mbc40 (fun pc => sm_ch sm_t189 pc, sm_Kn 3 6 none, fun x => sm_lk sm_ca3 x, none) [82] 6 0 [] [] 2000 [] = true := by decide +kernel
def mbh271 : aw_H := [(82, ms_r [(0, [(0, 32)])])]
/-- MiceRegistersModel.keepPast -/
def mbh272 : aw_H := [(81, mbx1), (82, ms_r [(0, [(-1, 31)])])]
def mbc35 : ak_C := (149, [.inl 81], mbh272, [82], [([], none, mbh271)])
def mbh273 : aw_H := [(82, ms_r [(0, [(0, 32)]), (12, ar_t32)])]
/-- MiceRegistersModel.passes -/
def mbh274 : aw_H := [(81, mbx1), (82, ms_r [(0, [(0, 32)])]), (83, .inr (.inl (0, 8, [], []))), (85, .inr (.inl (0, 4, [], []))), (86, .inr (.inl (0, 4, [], [])))]
def mbc36 : ak_C := (150, [.inl 81, .inr (false, [(0, 0)]), .inr (false, ar_t32)], mbh274, [82], [([], some (.inr (false, ar_t32)), mbh273)])
def czmb36x0 : aw_A := ms_o [(1, 8)] [(1, 4)] ar_t32 ar_t32 [(0, 180)] [(0, 60)] [(-1, 60)] [(0, 8)] [(0, 4)]
def czmb36h1 : aw_H := [(81, czmb36x0), (82, ms_r [(0, [(0, 32)])]), (83, .inr (.inl (0, 8, [], []))), (85, .inr (.inl (0, 4, [], []))), (86, .inr (.inl (0, 4, [], [])))]
set_option maxRecDepth 100000 in
theorem mbk36 : ai_ch2 [mbc5, mbc9, mbc10] mbc36 (fun pc => sm_ch sm_t150 pc, sm_Kn 3 7 none, fun x => sm_lk sm_ca3 x, some .int) [82] 7 0 [5, 130] [] 2000 [.inr (4, false, [((5, [(0, .inl 81), (1, .inr (false, [(0, 0)])), (2, .inr (false, ar_t32)), (3, .inr (false, ar_t32)), (4, .inr (false, [(0, 4)]))], [], czmb36h1), none)]),
  .inr (4, false, [((130, [(0, .inl 81), (1, .inr (false, [(0, 0)])), (2, .inr (false, ar_t32)), (3, .inr (false, ar_t32)), (4, .inr (false, [(0, 8)]))], [], czmb36h1), none)])] = true := by decide +kernel
/-- MiceRegistersModel.byLot -/
def mbc37 : ak_C := (189, [.inl 81, .inr (true, [(0, 2147483646)])], mbh274, [82], [([], none, mbh271)])
theorem mbk37 : ai_chk [mbc36] mbc37 (fun pc => sm_ch sm_t189 pc, sm_Kn 3 6 none, fun x => sm_lk sm_ca3 x, none) [82] 6 0 [] [] 2000 [] = true := by decide +kernel
def mbh293 : aw_H := [(82, ms_r [(0, [(0, 33)])])]
/-- MiceRegistersModel.keepPast -/
def mbh294 : aw_H := [(81, mbx1), (82, ms_r [(0, [(-1, 32)])])]
def mbc32 : ak_C := (149, [.inl 81], mbh294, [82], [([], none, mbh293)])
def mbh295 : aw_H := [(82, ms_r [(0, [(0, 33)]), (12, ar_t32)])]
/-- MiceRegistersModel.passes -/
def mbh296 : aw_H := [(81, mbx1), (82, ms_r [(0, [(0, 33)])]), (83, .inr (.inl (0, 8, [], []))), (85, .inr (.inl (0, 4, [], []))), (86, .inr (.inl (0, 4, [], [])))]
def mbc33 : ak_C := (150, [.inl 81, .inr (false, [(0, 0)]), .inr (false, ar_t32)], mbh296, [82], [([], some (.inr (false, ar_t32)), mbh295)])
def czmb33x0 : aw_A := ms_o [(1, 8)] [(1, 4)] ar_t32 ar_t32 [(0, 180)] [(0, 60)] [(-1, 60)] [(0, 8)] [(0, 4)]
def czmb33h1 : aw_H := [(81, czmb33x0), (82, ms_r [(0, [(0, 33)])]), (83, .inr (.inl (0, 8, [], []))), (85, .inr (.inl (0, 4, [], []))), (86, .inr (.inl (0, 4, [], [])))]
set_option maxRecDepth 100000 in
theorem mbk33 : ai_ch2 [mbc5, mbc9, mbc10] mbc33 (fun pc => sm_ch sm_t150 pc, sm_Kn 3 7 none, fun x => sm_lk sm_ca3 x, some .int) [82] 7 0 [5, 130] [] 2000 [.inr (4, false, [((5, [(0, .inl 81), (1, .inr (false, [(0, 0)])), (2, .inr (false, ar_t32)), (3, .inr (false, ar_t32)), (4, .inr (false, [(0, 4)]))], [], czmb33h1), none)]),
  .inr (4, false, [((130, [(0, .inl 81), (1, .inr (false, [(0, 0)])), (2, .inr (false, ar_t32)), (3, .inr (false, ar_t32)), (4, .inr (false, [(0, 8)]))], [], czmb33h1), none)])] = true := by decide +kernel
/-- MiceRegistersModel.byLot -/
def mbc34 : ak_C := (189, [.inl 81, .inr (true, [(0, 2147483646)])], mbh296, [82], [([], none, mbh293)])
theorem mbk34 : ai_chk [mbc33] mbc34 (fun pc => sm_ch sm_t189 pc, sm_Kn 3 6 none, fun x => sm_lk sm_ca3 x, none) [82] 6 0 [] [] 2000 [] = true := by decide +kernel
def mbh315 : aw_H := [(82, ms_r [(0, [(0, 34)])])]
/-- MiceRegistersModel.keepPast -/
def mbh316 : aw_H := [(81, mbx1), (82, ms_r [(0, [(-1, 33)])])]
def mbc29 : ak_C := (149, [.inl 81], mbh316, [82], [([], none, mbh315)])
def mbh317 : aw_H := [(82, ms_r [(0, [(0, 34)]), (12, ar_t32)])]
/-- MiceRegistersModel.passes -/
def mbh318 : aw_H := [(81, mbx1), (82, ms_r [(0, [(0, 34)])]), (83, .inr (.inl (0, 8, [], []))), (85, .inr (.inl (0, 4, [], []))), (86, .inr (.inl (0, 4, [], [])))]
def mbc30 : ak_C := (150, [.inl 81, .inr (false, [(0, 0)]), .inr (false, ar_t32)], mbh318, [82], [([], some (.inr (false, ar_t32)), mbh317)])
def czmb30x0 : aw_A := ms_o [(1, 8)] [(1, 4)] ar_t32 ar_t32 [(0, 180)] [(0, 60)] [(-1, 60)] [(0, 8)] [(0, 4)]
def czmb30h1 : aw_H := [(81, czmb30x0), (82, ms_r [(0, [(0, 34)])]), (83, .inr (.inl (0, 8, [], []))), (85, .inr (.inl (0, 4, [], []))), (86, .inr (.inl (0, 4, [], [])))]
set_option maxRecDepth 100000 in
theorem mbk30 : ai_ch2 [mbc5, mbc9, mbc10] mbc30 (fun pc => sm_ch sm_t150 pc, sm_Kn 3 7 none, fun x => sm_lk sm_ca3 x, some .int) [82] 7 0 [5, 130] [] 2000 [.inr (4, false, [((5, [(0, .inl 81), (1, .inr (false, [(0, 0)])), (2, .inr (false, ar_t32)), (3, .inr (false, ar_t32)), (4, .inr (false, [(0, 4)]))], [], czmb30h1), none)]),
  .inr (4, false, [((130, [(0, .inl 81), (1, .inr (false, [(0, 0)])), (2, .inr (false, ar_t32)), (3, .inr (false, ar_t32)), (4, .inr (false, [(0, 8)]))], [], czmb30h1), none)])] = true := by decide +kernel
/-- MiceRegistersModel.byLot -/
def mbc31 : ak_C := (189, [.inl 81, .inr (true, [(0, 2147483646)])], mbh318, [82], [([], none, mbh315)])
theorem mbk31 : ai_chk [mbc30] mbc31 (fun pc => sm_ch sm_t189 pc, sm_Kn 3 6 none, fun x => sm_lk sm_ca3 x, none) [82] 6 0 [] [] 2000 [] = true := by decide +kernel
def mbh337 : aw_H := [(82, ms_r [(0, [(0, 35)])])]
/-- MiceRegistersModel.keepPast -/
def mbh338 : aw_H := [(81, mbx1), (82, ms_r [(0, [(-1, 34)])])]
def mbc26 : ak_C := (149, [.inl 81], mbh338, [82], [([], none, mbh337)])
def mbh339 : aw_H := [(82, ms_r [(0, [(0, 35)]), (12, ar_t32)])]
/-- MiceRegistersModel.passes -/
def mbh340 : aw_H := [(81, mbx1), (82, ms_r [(0, [(0, 35)])]), (83, .inr (.inl (0, 8, [], []))), (85, .inr (.inl (0, 4, [], []))), (86, .inr (.inl (0, 4, [], [])))]
def mbc27 : ak_C := (150, [.inl 81, .inr (false, [(0, 0)]), .inr (false, ar_t32)], mbh340, [82], [([], some (.inr (false, ar_t32)), mbh339)])
def czmb27x0 : aw_A := ms_o [(1, 8)] [(1, 4)] ar_t32 ar_t32 [(0, 180)] [(0, 60)] [(-1, 60)] [(0, 8)] [(0, 4)]
def czmb27h1 : aw_H := [(81, czmb27x0), (82, ms_r [(0, [(0, 35)])]), (83, .inr (.inl (0, 8, [], []))), (85, .inr (.inl (0, 4, [], []))), (86, .inr (.inl (0, 4, [], [])))]
set_option maxRecDepth 100000 in
theorem mbk27 : ai_ch2 [mbc5, mbc9, mbc10] mbc27 (fun pc => sm_ch sm_t150 pc, sm_Kn 3 7 none, fun x => sm_lk sm_ca3 x, some .int) [82] 7 0 [5, 130] [] 2000 [.inr (4, false, [((5, [(0, .inl 81), (1, .inr (false, [(0, 0)])), (2, .inr (false, ar_t32)), (3, .inr (false, ar_t32)), (4, .inr (false, [(0, 4)]))], [], czmb27h1), none)]),
  .inr (4, false, [((130, [(0, .inl 81), (1, .inr (false, [(0, 0)])), (2, .inr (false, ar_t32)), (3, .inr (false, ar_t32)), (4, .inr (false, [(0, 8)]))], [], czmb27h1), none)])] = true := by decide +kernel
/-- MiceRegistersModel.byLot -/
def mbc28 : ak_C := (189, [.inl 81, .inr (true, [(0, 2147483646)])], mbh340, [82], [([], none, mbh337)])
theorem mbk28 : ai_chk [mbc27] mbc28 (fun pc => sm_ch sm_t189 pc, sm_Kn 3 6 none, fun x => sm_lk sm_ca3 x, none) [82] 6 0 [] [] 2000 [] = true := by decide +kernel
def mbh359 : aw_H := [(82, ms_r [(0, [(0, 36)])])]
/-- MiceRegistersModel.keepPast -/
def mbh360 : aw_H := [(81, mbx1), (82, ms_r [(0, [(-1, 35)])])]
def mbc23 : ak_C := (149, [.inl 81], mbh360, [82], [([], none, mbh359)])
def mbh361 : aw_H := [(82, ms_r [(0, [(0, 36)]), (12, ar_t32)])]
/-- MiceRegistersModel.passes -/
def mbh362 : aw_H := [(81, mbx1), (82, ms_r [(0, [(0, 36)])]), (83, .inr (.inl (0, 8, [], []))), (85, .inr (.inl (0, 4, [], []))), (86, .inr (.inl (0, 4, [], [])))]
def mbc24 : ak_C := (150, [.inl 81, .inr (false, [(0, 0)]), .inr (false, ar_t32)], mbh362, [82], [([], some (.inr (false, ar_t32)), mbh361)])
def czmb24x0 : aw_A := ms_o [(1, 8)] [(1, 4)] ar_t32 ar_t32 [(0, 180)] [(0, 60)] [(-1, 60)] [(0, 8)] [(0, 4)]
def czmb24h1 : aw_H := [(81, czmb24x0), (82, ms_r [(0, [(0, 36)])]), (83, .inr (.inl (0, 8, [], []))), (85, .inr (.inl (0, 4, [], []))), (86, .inr (.inl (0, 4, [], [])))]
set_option maxRecDepth 100000 in
theorem mbk24 : ai_ch2 [mbc5, mbc9, mbc10] mbc24 (fun pc => sm_ch sm_t150 pc, sm_Kn 3 7 none, fun x => sm_lk sm_ca3 x, some .int) [82] 7 0 [5, 130] [] 2000 [.inr (4, false, [((5, [(0, .inl 81), (1, .inr (false, [(0, 0)])), (2, .inr (false, ar_t32)), (3, .inr (false, ar_t32)), (4, .inr (false, [(0, 4)]))], [], czmb24h1), none)]),
  .inr (4, false, [((130, [(0, .inl 81), (1, .inr (false, [(0, 0)])), (2, .inr (false, ar_t32)), (3, .inr (false, ar_t32)), (4, .inr (false, [(0, 8)]))], [], czmb24h1), none)])] = true := by decide +kernel

