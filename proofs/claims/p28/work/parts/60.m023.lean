/-! Contracts over ranges of the reference, and their checks; printed by a program of mine. -/
/-- MiceRegistersModel.leftIn -/
def m4c122 : ak_C := (168, [.inl 81, .inr (false, [(3776, 3776)])], m4h28, [], [([], some (.inr (false, ar_t32)), [])])
def m4h76 : aw_H := [(81, m4x7), (82, ms_r [(0, [(-1, 40)])])]
def m4h77 : aw_H := [(81, m4x10), (82, ms_r [(0, [(-1, 40)])])]
def m4h78 : aw_H := [(81, m4x13), (82, ms_r [(0, [(-1, 40)])])]
def m4h79 : aw_H := [(81, m4x16), (82, ms_r [(0, [(-1, 40)])])]
def m4h80 : aw_H := [(81, m4x19), (82, ms_r [(0, [(-1, 40)])])]
def m4h81 : aw_H := [(81, m4x22), (82, ms_r [(0, [(-1, 40)])])]
def m4h82 : aw_H := [(81, m4x25), (82, ms_r [(0, [(-1, 40)])])]
theorem m4k122 : ai_chk [] m4c122 (fun pc => sm_ch sm_t168 pc, sm_Kn 3 4 none, fun x => sm_lk sm_ca3 x, some .int) [] 4 0 [4] [] 2000 [(4, [(0, .inl 81), (1, .inr (false, [(3776, 3776)])), (2, .inr (false, [(0, 0)])), (3, .inr (false, [(0, 0)]))], [], m4h28),
  (4, [(0, .inl 81), (1, .inr (false, [(3776, 3776)])), (2, .inr (false, ar_t32)), (3, .inr (false, [(1, 1)]))], [], m4h28),
  (4, [(0, .inl 81), (1, .inr (false, [(3776, 3776)])), (2, .inr (false, ar_t32)), (3, .inr (false, [(2, 2)]))], [], m4h76),
  (4, [(0, .inl 81), (1, .inr (false, [(3776, 3776)])), (2, .inr (false, ar_t32)), (3, .inr (false, [(3, 3)]))], [], m4h77),
  (4, [(0, .inl 81), (1, .inr (false, [(3776, 3776)])), (2, .inr (false, ar_t32)), (3, .inr (false, [(4, 4)]))], [], m4h78),
  (4, [(0, .inl 81), (1, .inr (false, [(3776, 3776)])), (2, .inr (false, ar_t32)), (3, .inr (false, [(5, 5)]))], [], m4h79),
  (4, [(0, .inl 81), (1, .inr (false, [(3776, 3776)])), (2, .inr (false, ar_t32)), (3, .inr (false, [(6, 6)]))], [], m4h80),
  (4, [(0, .inl 81), (1, .inr (false, [(3776, 3776)])), (2, .inr (false, ar_t32)), (3, .inr (false, [(7, 7)]))], [], m4h81),
  (4, [(0, .inl 81), (1, .inr (false, [(3776, 3776)])), (2, .inr (false, ar_t32)), (3, .inr (false, [(8, 8)]))], [], m4h82)] = true := by decide +kernel
/-- MiceRegistersModel.mid -/
def m4c123 : ak_C := (187, [.inl 81, .inr (false, ar_t32)], m4h58, [81, 82], [([[], [(-2147483648, -1), (13, 2147483647)]], some (.inr (false, [(-1, -1)])), m4h28), ([[], [(0, 12)]], some (.inr (false, [(1, 1)])), m4h74)])
def czm4s123x0 : aw_A := ms_o [(1, 8)] [(4, 4)] ar_t32 ar_t32 [(0, 180)] [(0, 60)] [(-1, 60)] [(0, 8)] [(0, 4)]
def czm4s123x1 : aw_A := .inr (.inl (0, 4, [(0, 3, [(1, 9)])], []))
def czm4s123h2 : aw_H := [(81, czm4s123x0), (82, ms_r [(0, [(-1, 40)])]), (83, .inr (.inl (0, 8, [], []))), (85, .inr (.inl (0, 4, [], []))), (86, czm4s123x1)]
set_option maxRecDepth 100000 in
theorem m4k123 : ai_ch2 [m4c17, m4c22, mgc6368, mgc6372, m4c122, m4c33, m4c38, m4c43, m4c48, m4c53, m4c58, m4c63, m4c68, m4c73, m4c78, m4c83, m4c88, m4c93, m4c98, m4c103, m4c104, m4c105, m4c106, m4c107, m4c108, m4c109, m4c110, m4c111, m4c112, m4c113, m4c114, m4c115, m4c116, m4c117, m4c118, m4c119, m4c120] m4c123 (fun pc => sm_ch sm_t187 pc, sm_Kn 3 9 none, fun x => sm_lk sm_ca3 x, some .int) [81, 82] 9 2 [32] [(24, some (0, 1, 0), 12, 1)] 2000 [.inl (32, [(0, .inl 81), (1, .inr (false, [(0, 11)])), (2, .inr (true, [(0, 0)])), (4, .inr (true, [(0, 0)])), (6, .inr (false, [(0, 0)]))], [], czm4s123h2),
  .inl (32, [(0, .inl 81), (1, .inr (false, [(0, 11)])), (2, .inr (true, [(-44530220924928, 44530220904192)])), (4, .inr (true, [(1, 20736)])), (6, .inr (false, [(1, 1)])), (7, .inr (true, [(1, 20736)]))], [], czm4s123h2),
  .inl (32, [(0, .inl 81), (1, .inr (false, [(0, 11)])), (2, .inr (true, [(-85349590106112, 85349590066368)])), (4, .inr (true, [(1, 39744)])), (6, .inr (false, [(2, 2)])), (7, .inr (true, [(0, 19008)]))], [], czm4s123h2),
  .inl (32, [(0, .inl 81), (1, .inr (false, [(0, 11)])), (2, .inr (true, [(-126168959287296, 126168959228544)])), (4, .inr (true, [(1, 58752)])), (6, .inr (false, [(3, 3)])), (7, .inr (true, [(0, 19008)]))], [], czm4s123h2),
  .inl (32, [(0, .inl 81), (1, .inr (false, [(0, 11)])), (2, .inr (true, [(-163586714370048, 163586714293872)])), (4, .inr (true, [(1, 76176)])), (6, .inr (false, [(4, 4)])), (7, .inr (true, [(0, 17424)]))], [], czm4s123h2),
  .inl (32, [(0, .inl 81), (1, .inr (false, [(0, 11)])), (2, .inr (true, [(-204406083551232, 204406083456048)])), (4, .inr (true, [(1, 95184)])), (6, .inr (false, [(5, 5)])), (7, .inr (true, [(0, 19008)]))], [], czm4s123h2),
  .inl (32, [(0, .inl 81), (1, .inr (false, [(0, 11)])), (2, .inr (true, [(-241823838633984, 241823838521376)])), (4, .inr (true, [(1, 112608)])), (6, .inr (false, [(6, 6)])), (7, .inr (true, [(0, 17424)]))], [], czm4s123h2),
  .inl (32, [(0, .inl 81), (1, .inr (false, [(0, 11)])), (2, .inr (true, [(-279241593716736, 279241593586704)])), (4, .inr (true, [(1, 130032)])), (6, .inr (false, [(7, 7)])), (7, .inr (true, [(0, 17424)]))], [], czm4s123h2),
  .inl (32, [(0, .inl 81), (1, .inr (false, [(0, 11)])), (2, .inr (true, [(-313541202542592, 313541202396588)])), (4, .inr (true, [(1, 146004)])), (6, .inr (false, [(8, 8)])), (7, .inr (true, [(0, 15972)]))], [], czm4s123h2),
  .inl (32, [(0, .inl 81), (1, .inr (false, [(0, 11)])), (2, .inr (true, [(-354360571723776, 354360571558764)])), (4, .inr (true, [(1, 165012)])), (6, .inr (false, [(9, 9)])), (7, .inr (true, [(0, 19008)]))], [], czm4s123h2),
  .inl (32, [(0, .inl 81), (1, .inr (false, [(0, 11)])), (2, .inr (true, [(-391778326806528, 391778326624092)])), (4, .inr (true, [(1, 182436)])), (6, .inr (false, [(10, 10)])), (7, .inr (true, [(0, 17424)]))], [], czm4s123h2),
  .inl (32, [(0, .inl 81), (1, .inr (false, [(0, 11)])), (2, .inr (true, [(-429196081889280, 429196081689420)])), (4, .inr (true, [(1, 199860)])), (6, .inr (false, [(11, 11)])), (7, .inr (true, [(0, 17424)]))], [], czm4s123h2),
  .inl (32, [(0, .inl 81), (1, .inr (false, [(0, 11)])), (2, .inr (true, [(-463495690715136, 463495690499304)])), (4, .inr (true, [(1, 215832)])), (6, .inr (false, [(12, 12)])), (7, .inr (true, [(0, 15972)]))], [], czm4s123h2),
  .inl (32, [(0, .inl 81), (1, .inr (false, [(0, 11)])), (2, .inr (true, [(-500913445797888, 500913445564632)])), (4, .inr (true, [(1, 233256)])), (6, .inr (false, [(13, 13)])), (7, .inr (true, [(0, 17424)]))], [], czm4s123h2),
  .inl (32, [(0, .inl 81), (1, .inr (false, [(0, 11)])), (2, .inr (true, [(-535213054623744, 535213054374516)])), (4, .inr (true, [(1, 249228)])), (6, .inr (false, [(14, 14)])), (7, .inr (true, [(0, 15972)]))], [], czm4s123h2),
  .inl (32, [(0, .inl 81), (1, .inr (false, [(0, 11)])), (2, .inr (true, [(-569512663449600, 569512663184400)])), (4, .inr (true, [(1, 265200)])), (6, .inr (false, [(15, 15)])), (7, .inr (true, [(0, 15972)]))], [], czm4s123h2),
  .inl (32, [(0, .inl 81), (1, .inr (false, [(0, 11)])), (2, .inr (true, [(-600953971539968, 600953971260127)])), (4, .inr (true, [(1, 279841)])), (6, .inr (false, [(16, 16)])), (7, .inr (true, [(0, 14641)]))], [], czm4s123h2),
  .inl (32, [(0, .inl 81), (1, .inr (false, [(12, 12)])), (2, .inr (true, [(0, 0)])), (4, .inr (true, [(0, 0)])), (6, .inr (false, [(0, 0)]))], [], czm4s123h2),
  .inl (32, [(0, .inl 81), (1, .inr (false, [(12, 12)])), (2, .inr (true, [(0, 0)])), (4, .inr (true, [(0, 0)])), (6, .inr (false, [(1, 1)])), (7, .inr (true, [(0, 0)]))], [], czm4s123h2),
  .inl (32, [(0, .inl 81), (1, .inr (false, [(12, 12)])), (2, .inr (true, [(0, 0)])), (4, .inr (true, [(0, 0)])), (6, .inr (false, [(2, 2)])), (7, .inr (true, [(0, 0)]))], [], czm4s123h2),
  .inl (32, [(0, .inl 81), (1, .inr (false, [(12, 12)])), (2, .inr (true, [(0, 0)])), (4, .inr (true, [(0, 0)])), (6, .inr (false, [(3, 3)])), (7, .inr (true, [(0, 0)]))], [], czm4s123h2),
  .inl (32, [(0, .inl 81), (1, .inr (false, [(12, 12)])), (2, .inr (true, [(0, 0)])), (4, .inr (true, [(0, 0)])), (6, .inr (false, [(4, 4)])), (7, .inr (true, [(0, 0)]))], [], czm4s123h2),
  .inl (32, [(0, .inl 81), (1, .inr (false, [(12, 12)])), (2, .inr (true, [(0, 0)])), (4, .inr (true, [(0, 0)])), (6, .inr (false, [(5, 5)])), (7, .inr (true, [(0, 0)]))], [], czm4s123h2),
  .inl (32, [(0, .inl 81), (1, .inr (false, [(12, 12)])), (2, .inr (true, [(0, 0)])), (4, .inr (true, [(0, 0)])), (6, .inr (false, [(6, 6)])), (7, .inr (true, [(0, 0)]))], [], czm4s123h2),
  .inl (32, [(0, .inl 81), (1, .inr (false, [(12, 12)])), (2, .inr (true, [(0, 0)])), (4, .inr (true, [(0, 0)])), (6, .inr (false, [(7, 7)])), (7, .inr (true, [(0, 0)]))], [], czm4s123h2),
  .inl (32, [(0, .inl 81), (1, .inr (false, [(12, 12)])), (2, .inr (true, [(0, 0)])), (4, .inr (true, [(0, 0)])), (6, .inr (false, [(8, 8)])), (7, .inr (true, [(0, 0)]))], [], czm4s123h2),
  .inl (32, [(0, .inl 81), (1, .inr (false, [(12, 12)])), (2, .inr (true, [(0, 0)])), (4, .inr (true, [(0, 0)])), (6, .inr (false, [(9, 9)])), (7, .inr (true, [(0, 0)]))], [], czm4s123h2),
  .inl (32, [(0, .inl 81), (1, .inr (false, [(12, 12)])), (2, .inr (true, [(0, 0)])), (4, .inr (true, [(0, 0)])), (6, .inr (false, [(10, 10)])), (7, .inr (true, [(0, 0)]))], [], czm4s123h2),
  .inl (32, [(0, .inl 81), (1, .inr (false, [(12, 12)])), (2, .inr (true, [(0, 0)])), (4, .inr (true, [(0, 0)])), (6, .inr (false, [(11, 11)])), (7, .inr (true, [(0, 0)]))], [], czm4s123h2),
  .inl (32, [(0, .inl 81), (1, .inr (false, [(12, 12)])), (2, .inr (true, [(0, 0)])), (4, .inr (true, [(0, 0)])), (6, .inr (false, [(12, 12)])), (7, .inr (true, [(0, 0)]))], [], czm4s123h2),
  .inl (32, [(0, .inl 81), (1, .inr (false, [(12, 12)])), (2, .inr (true, [(0, 0)])), (4, .inr (true, [(0, 0)])), (6, .inr (false, [(13, 13)])), (7, .inr (true, [(0, 0)]))], [], czm4s123h2),
  .inl (32, [(0, .inl 81), (1, .inr (false, [(12, 12)])), (2, .inr (true, [(0, 0)])), (4, .inr (true, [(0, 0)])), (6, .inr (false, [(14, 14)])), (7, .inr (true, [(0, 0)]))], [], czm4s123h2),
  .inl (32, [(0, .inl 81), (1, .inr (false, [(12, 12)])), (2, .inr (true, [(0, 0)])), (4, .inr (true, [(0, 0)])), (6, .inr (false, [(15, 15)])), (7, .inr (true, [(0, 0)]))], [], czm4s123h2),
  .inl (32, [(0, .inl 81), (1, .inr (false, [(12, 12)])), (2, .inr (true, [(-44530220924928, 44530220904192)])), (4, .inr (true, [(20736, 20736)])), (6, .inr (false, [(16, 16)])), (7, .inr (true, [(20736, 20736)]))], [], czm4s123h2)] = true := by decide +kernel
/-- MiceRegistersModel.in -/
def mac2 : ak_C := (105, [.inr (true, ar_t32), .inr (true, [(1, 1)]), .inr (true, [(20, 20)])], [], [], [([[(1, 20)], [], []], some (.inr (false, [(1, 1)])), []), ([[(-2147483648, 0), (21, 2147483647)], [], []], some (.inr (false, [(0, 0)])), [])])
theorem mak2 : ai_chk [] mac2 (fun pc => sm_ch sm_t105 pc, sm_Kn 3 6 none, fun x => sm_lk sm_ca3 x, some .boolean) [] 6 6 [] [] 2000 [] = true := by decide +kernel
/-- MiceRegistersModel.in -/
def mac3 : ak_C := (105, [.inr (true, ar_t32), .inr (true, [(1, 1)]), .inr (true, [(2147483646, 2147483646)])], [], [], [([[(1, 2147483646)], [], []], some (.inr (false, [(1, 1)])), []), ([[(-2147483648, 0), (2147483647, 2147483647)], [], []], some (.inr (false, [(0, 0)])), [])])
theorem mak3 : ai_chk [] mac3 (fun pc => sm_ch sm_t105 pc, sm_Kn 3 6 none, fun x => sm_lk sm_ca3 x, some .boolean) [] 6 6 [] [] 2000 [] = true := by decide +kernel
/-- MiceRegistersModel.lots -/
def max0 : aw_A := ms_o [(0, 8)] [(0, 0)] ar_t32 ar_t32 [(0, 180)] [(0, 60)] [(-1, 60)] [(0, 8)] [(0, 4)]
def mah1 : aw_H := [(81, max0)]
def mac4 : ak_C := (188, [.inl 81, .inr (false, ar_t32), .inr (false, ar_t32)], mah1, [], [([[], [], []], some (.inr (false, [(-1, -1)])), []), ([[], [(1, 20)], [(1, 2147483646)]], some (.inr (false, [(-4, -4)])), [])])
theorem mak4 : ai_chk [mac2, mac3] mac4 (fun pc => sm_ch sm_t188 pc, sm_Kn 3 6 none, fun x => sm_lk sm_ca3 x, some .int) [] 6 3 [58] [(36, some (2, 82, 0), -1, 42), (37, some (0, 1, 0), 1, 20)] 2000 [] = true := by decide +kernel
/-- MiceRegistersModel.in -/
def mbc2 : ak_C := (105, [.inr (true, ar_t32), .inr (true, [(1, 1)]), .inr (true, [(20, 20)])], [], [], [([[(1, 20)], [], []], some (.inr (false, [(1, 1)])), []), ([[(-2147483648, 0), (21, 2147483647)], [], []], some (.inr (false, [(0, 0)])), [])])
theorem mbk2 : ai_chk [] mbc2 (fun pc => sm_ch sm_t105 pc, sm_Kn 3 6 none, fun x => sm_lk sm_ca3 x, some .boolean) [] 6 6 [] [] 2000 [] = true := by decide +kernel
/-- MiceRegistersModel.in -/
def mbc3 : ak_C := (105, [.inr (true, ar_t32), .inr (true, [(1, 1)]), .inr (true, [(2147483646, 2147483646)])], [], [], [([[(1, 2147483646)], [], []], some (.inr (false, [(1, 1)])), []), ([[(-2147483648, 0), (2147483647, 2147483647)], [], []], some (.inr (false, [(0, 0)])), [])])
theorem mbk3 : ai_chk [] mbc3 (fun pc => sm_ch sm_t105 pc, sm_Kn 3 6 none, fun x => sm_lk sm_ca3 x, some .boolean) [] 6 6 [] [] 2000 [] = true := by decide +kernel
def mbh0 : aw_H := [(82, ms_r [(0, [(0, 21)])])]
/-- MiceRegistersModel.keepPast -/
def mbx1 : aw_A := ms_o [(1, 8)] [(1, 4)] ar_t32 ar_t32 [(0, 180)] [(0, 60)] [(-1, 60)] [(0, 8)] [(0, 4)]
def mbh2 : aw_H := [(81, mbx1), (82, ms_r [(0, [(-1, 20)])])]
def mbc68 : ak_C := (149, [.inl 81], mbh2, [82], [([], none, mbh0)])
/-- MiceRegistersModel.has -/
def mbc5 : ak_C := (135, [.inr (false, ar_t32), .inr (false, ar_t32)], [], [], [([], some (.inr (false, [(1, 1)])), []), ([], some (.inr (false, [(0, 0)])), [])])
theorem mbk5 : ai_chk [] mbc5 (fun pc => sm_ch sm_t135 pc, sm_Kn 3 2 none, fun x => sm_lk sm_ca3 x, some .boolean) [] 2 0 [] [] 2000 [] = true := by decide +kernel
/-- MiceRegistersModel.farOf -/
def mbh3 : aw_H := [(81, mbx1), (82, ms_r [(0, [(-1, 40)])])]
def mbc6 : ak_C := (137, [.inl 81, .inr (false, [(0, 0)]), .inr (false, [(0, 3)]), .inr (false, [(0, 7)])], mbh3, [], [([], some (.inr (false, [(0, 7)])), [])])
theorem mbk6 : ai_chk [] mbc6 (fun pc => sm_ch sm_t137 pc, sm_Kn 3 5 none, fun x => sm_lk sm_ca3 x, some .int) [] 5 0 [] [] 2000 [] = true := by decide +kernel
/-- MiceRegistersModel.likesBy -/
def mbc7 : ak_C := (138, [.inr (false, ar_t32), .inr (false, ar_t32), .inr (false, ar_t32), .inr (false, ar_t32)], [], [], [([], some (.inr (false, ar_t32)), [])])
theorem mbk7 : ai_chk [] mbc7 (fun pc => sm_ch sm_t138 pc, sm_Kn 3 4 none, fun x => sm_lk sm_ca3 x, some .int) [] 4 0 [] [] 2000 [] = true := by decide +kernel
/-- MiceRegistersModel.likesIn -/
def mbh4 : aw_H := [(81, mbx1), (82, ms_r [(0, [(-1, 40)])]), (83, .inr (.inl (0, 8, [], []))), (85, .inr (.inl (0, 4, [], [])))]
def mbc8 : ak_C := (136, [.inl 81, .inr (false, [(0, 0)]), .inr (false, [(0, 3)]), .inr (false, [(0, 7)])], mbh4, [], [([], some (.inr (false, ar_t32)), [])])
theorem mbk8 : ai_chk [mbc6, mbc7] mbc8 (fun pc => sm_ch sm_t136 pc, sm_Kn 3 4 none, fun x => sm_lk sm_ca3 x, some .int) [] 4 0 [] [] 2000 [] = true := by decide +kernel
/-- MiceRegistersModel.wants -/
def mbc9 : ak_C := (134, [.inl 81, .inr (false, [(0, 0)]), .inr (false, [(0, 3)])], mbh4, [], [([], some (.inr (false, [(-9, -9), (0, 7)])), [])])
def mbx6 : aw_A := ms_o [(2, 8)] [(1, 4)] ar_t32 ar_t32 [(0, 180)] [(0, 60)] [(-1, 60)] [(0, 8)] [(0, 4)]
def mbx9 : aw_A := ms_o [(3, 8)] [(1, 4)] ar_t32 ar_t32 [(0, 180)] [(0, 60)] [(-1, 60)] [(0, 8)] [(0, 4)]
def mbx12 : aw_A := ms_o [(4, 8)] [(1, 4)] ar_t32 ar_t32 [(0, 180)] [(0, 60)] [(-1, 60)] [(0, 8)] [(0, 4)]
def mbx15 : aw_A := ms_o [(5, 8)] [(1, 4)] ar_t32 ar_t32 [(0, 180)] [(0, 60)] [(-1, 60)] [(0, 8)] [(0, 4)]
def mbx18 : aw_A := ms_o [(6, 8)] [(1, 4)] ar_t32 ar_t32 [(0, 180)] [(0, 60)] [(-1, 60)] [(0, 8)] [(0, 4)]
def mbx21 : aw_A := ms_o [(7, 8)] [(1, 4)] ar_t32 ar_t32 [(0, 180)] [(0, 60)] [(-1, 60)] [(0, 8)] [(0, 4)]
def mbx24 : aw_A := ms_o [(8, 8)] [(1, 4)] ar_t32 ar_t32 [(0, 180)] [(0, 60)] [(-1, 60)] [(0, 8)] [(0, 4)]
def mbb9 : sm_P := (fun pc => sm_ch sm_t134 pc, sm_Kn 3 9 none, fun x => sm_lk sm_ca3 x, some .int)
def czmb9x0 : aw_A := ms_o [(1, 8)] [(1, 4)] ar_t32 ar_t32 [(0, 180)] [(0, 60)] [(-1, 60)] [(0, 8)] [(0, 4)]
def czmb9h1 : aw_H := [(81, czmb9x0), (82, ms_r [(0, [(-1, 40)])]), (83, .inr (.inl (0, 8, [], []))), (85, .inr (.inl (0, 4, [], [])))]
set_option maxRecDepth 100000 in
theorem mbk9 : ai_ch2 [mbc5, mbc8, mbc6] mbc9 mbb9 [] 9 0 [9] [] 2000 [.inr (5, false, [((9, [(0, .inl 81), (1, .inr (false, [(0, 0)])), (2, .inr (false, [(0, 3)])), (3, .inr (false, [(-9, -9), (0, 7)])), (4, .inr (false, [(0, 2147483647)])), (5, .inr (false, [(0, 8)]))], [], czmb9h1), none)])] = true := by decide +kernel
/-- MiceRegistersModel.eatsOf -/
def mbh27 : aw_H := [(81, mbx1), (85, .inr (.inl (0, 4, [], []))), (86, .inr (.inl (0, 4, [], [])))]
def mbc10 : ak_C := (142, [.inl 81, .inr (false, [(0, 3)])], mbh27, [], [([], some (.inr (false, ar_t32)), [])])
theorem mbk10 : ai_chk [] mbc10 (fun pc => sm_ch sm_t142 pc, sm_Kn 3 2 none, fun x => sm_lk sm_ca3 x, some .int) [] 2 0 [] [] 2000 [] = true := by decide +kernel
def mbh28 : aw_H := [(82, ms_r [(0, [(0, 21)]), (12, ar_t32)])]
/-- MiceRegistersModel.passes -/
def mbh29 : aw_H := [(81, mbx1), (82, ms_r [(0, [(0, 21)])]), (83, .inr (.inl (0, 8, [], []))), (85, .inr (.inl (0, 4, [], []))), (86, .inr (.inl (0, 4, [], [])))]
def mbc69 : ak_C := (150, [.inl 81, .inr (false, [(0, 0)]), .inr (false, ar_t32)], mbh29, [82], [([], some (.inr (false, ar_t32)), mbh28)])
def czmb69x0 : aw_A := ms_o [(1, 8)] [(1, 4)] ar_t32 ar_t32 [(0, 180)] [(0, 60)] [(-1, 60)] [(0, 8)] [(0, 4)]
def czmb69h1 : aw_H := [(81, czmb69x0), (82, ms_r [(0, [(0, 21)])]), (83, .inr (.inl (0, 8, [], []))), (85, .inr (.inl (0, 4, [], []))), (86, .inr (.inl (0, 4, [], [])))]
set_option maxRecDepth 100000 in
theorem mbk69 : ai_ch2 [mbc5, mbc9, mbc10] mbc69 (fun pc => sm_ch sm_t150 pc, sm_Kn 3 7 none, fun x => sm_lk sm_ca3 x, some .int) [82] 7 0 [5, 130] [] 2000 [.inr (4, false, [((5, [(0, .inl 81), (1, .inr (false, [(0, 0)])), (2, .inr (false, ar_t32)), (3, .inr (false, ar_t32)), (4, .inr (false, [(0, 4)]))], [], czmb69h1), none)]),
  .inr (4, false, [((130, [(0, .inl 81), (1, .inr (false, [(0, 0)])), (2, .inr (false, ar_t32)), (3, .inr (false, ar_t32)), (4, .inr (false, [(0, 8)]))], [], czmb69h1), none)])] = true := by decide +kernel
/-- MiceRegistersModel.byLot -/
def mbc70 : ak_C := (189, [.inl 81, .inr (true, [(0, 2147483646)])], mbh29, [82], [([], none, mbh0)])
theorem mbk70 : ai_chk [mbc69] mbc70 (fun pc => sm_ch sm_t189 pc, sm_Kn 3 6 none, fun x => sm_lk sm_ca3 x, none) [82] 6 0 [] [] 2000 [] = true := by decide +kernel
def mbh51 : aw_H := [(82, ms_r [(0, [(0, 22)])])]
/-- MiceRegistersModel.keepPast -/
def mbh52 : aw_H := [(81, mbx1), (82, ms_r [(0, [(-1, 21)])])]
def mbc65 : ak_C := (149, [.inl 81], mbh52, [82], [([], none, mbh51)])
def mbh53 : aw_H := [(82, ms_r [(0, [(0, 22)]), (12, ar_t32)])]
/-- MiceRegistersModel.passes -/
def mbh54 : aw_H := [(81, mbx1), (82, ms_r [(0, [(0, 22)])]), (83, .inr (.inl (0, 8, [], []))), (85, .inr (.inl (0, 4, [], []))), (86, .inr (.inl (0, 4, [], [])))]
def mbc66 : ak_C := (150, [.inl 81, .inr (false, [(0, 0)]), .inr (false, ar_t32)], mbh54, [82], [([], some (.inr (false, ar_t32)), mbh53)])
def czmb66x0 : aw_A := ms_o [(1, 8)] [(1, 4)] ar_t32 ar_t32 [(0, 180)] [(0, 60)] [(-1, 60)] [(0, 8)] [(0, 4)]
def czmb66h1 : aw_H := [(81, czmb66x0), (82, ms_r [(0, [(0, 22)])]), (83, .inr (.inl (0, 8, [], []))), (85, .inr (.inl (0, 4, [], []))), (86, .inr (.inl (0, 4, [], [])))]
set_option maxRecDepth 100000 in
theorem mbk66 : ai_ch2 [mbc5, mbc9, mbc10] mbc66 (fun pc => sm_ch sm_t150 pc, sm_Kn 3 7 none, fun x => sm_lk sm_ca3 x, some .int) [82] 7 0 [5, 130] [] 2000 [.inr (4, false, [((5, [(0, .inl 81), (1, .inr (false, [(0, 0)])), (2, .inr (false, ar_t32)), (3, .inr (false, ar_t32)), (4, .inr (false, [(0, 4)]))], [], czmb66h1), none)]),
  .inr (4, false, [((130, [(0, .inl 81), (1, .inr (false, [(0, 0)])), (2, .inr (false, ar_t32)), (3, .inr (false, ar_t32)), (4, .inr (false, [(0, 8)]))], [], czmb66h1), none)])] = true := by decide +kernel
/-- MiceRegistersModel.byLot -/
def mbc67 : ak_C := (189, [.inl 81, .inr (true, [(0, 2147483646)])], mbh54, [82], [([], none, mbh51)])
theorem mbk67 : ai_chk [mbc66] mbc67 (fun pc => sm_ch sm_t189 pc, sm_Kn 3 6 none, fun x => sm_lk sm_ca3 x, none) [82] 6 0 [] [] 2000 [] = true := by decide +kernel
def mbh73 : aw_H := [(82, ms_r [(0, [(0, 23)])])]
/-- MiceRegistersModel.keepPast -/
def mbh74 : aw_H := [(81, mbx1), (82, ms_r [(0, [(-1, 22)])])]
def mbc62 : ak_C := (149, [.inl 81], mbh74, [82], [([], none, mbh73)])
def mbh75 : aw_H := [(82, ms_r [(0, [(0, 23)]), (12, ar_t32)])]
/-- MiceRegistersModel.passes -/
def mbh76 : aw_H := [(81, mbx1), (82, ms_r [(0, [(0, 23)])]), (83, .inr (.inl (0, 8, [], []))), (85, .inr (.inl (0, 4, [], []))), (86, .inr (.inl (0, 4, [], [])))]
def mbc63 : ak_C := (150, [.inl 81, .inr (false, [(0, 0)]), .inr (false, ar_t32)], mbh76, [82], [([], some (.inr (false, ar_t32)), mbh75)])
def czmb63x0 : aw_A := ms_o [(1, 8)] [(1, 4)] ar_t32 ar_t32 [(0, 180)] [(0, 60)] [(-1, 60)] [(0, 8)] [(0, 4)]
def czmb63h1 : aw_H := [(81, czmb63x0), (82, ms_r [(0, [(0, 23)])]), (83, .inr (.inl (0, 8, [], []))), (85, .inr (.inl (0, 4, [], []))), (86, .inr (.inl (0, 4, [], [])))]
set_option maxRecDepth 100000 in
theorem mbk63 : ai_ch2 [mbc5, mbc9, mbc10] mbc63 (fun pc => sm_ch sm_t150 pc, sm_Kn 3 7 none, fun x => sm_lk sm_ca3 x, some .int) [82] 7 0 [5, 130] [] 2000 [.inr (4, false, [((5, [(0, .inl 81), (1, .inr (false, [(0, 0)])), (2, .inr (false, ar_t32)), (3, .inr (false, ar_t32)), (4, .inr (false, [(0, 4)]))], [], czmb63h1), none)]),
  .inr (4, false, [((130, [(0, .inl 81), (1, .inr (false, [(0, 0)])), (2, .inr (false, ar_t32)), (3, .inr (false, ar_t32)), (4, .inr (false, [(0, 8)]))], [], czmb63h1), none)])] = true := by decide +kernel
/-- MiceRegistersModel.byLot -/
def mbc64 : ak_C := (189, [.inl 81, .inr (true, [(0, 2147483646)])], mbh76, [82], [([], none, mbh73)])
theorem mbk64 : ai_chk [mbc63] mbc64 (fun pc => sm_ch sm_t189 pc, sm_Kn 3 6 none, fun x => sm_lk sm_ca3 x, none) [82] 6 0 [] [] 2000 [] = true := by decide +kernel
def mbh95 : aw_H := [(82, ms_r [(0, [(0, 24)])])]
/-- MiceRegistersModel.keepPast -/
def mbh96 : aw_H := [(81, mbx1), (82, ms_r [(0, [(-1, 23)])])]
def mbc59 : ak_C := (149, [.inl 81], mbh96, [82], [([], none, mbh95)])
def mbh97 : aw_H := [(82, ms_r [(0, [(0, 24)]), (12, ar_t32)])]
/-- MiceRegistersModel.passes -/
def mbh98 : aw_H := [(81, mbx1), (82, ms_r [(0, [(0, 24)])]), (83, .inr (.inl (0, 8, [], []))), (85, .inr (.inl (0, 4, [], []))), (86, .inr (.inl (0, 4, [], [])))]
def mbc60 : ak_C := (150, [.inl 81, .inr (false, [(0, 0)]), .inr (false, ar_t32)], mbh98, [82], [([], some (.inr (false, ar_t32)), mbh97)])
def czmb60x0 : aw_A := ms_o [(1, 8)] [(1, 4)] ar_t32 ar_t32 [(0, 180)] [(0, 60)] [(-1, 60)] [(0, 8)] [(0, 4)]
def czmb60h1 : aw_H := [(81, czmb60x0), (82, ms_r [(0, [(0, 24)])]), (83, .inr (.inl (0, 8, [], []))), (85, .inr (.inl (0, 4, [], []))), (86, .inr (.inl (0, 4, [], [])))]
set_option maxRecDepth 100000 in
theorem mbk60 : ai_ch2 [mbc5, mbc9, mbc10] mbc60 (fun pc => sm_ch sm_t150 pc, sm_Kn 3 7 none, fun x => sm_lk sm_ca3 x, some .int) [82] 7 0 [5, 130] [] 2000 [.inr (4, false, [((5, [(0, .inl 81), (1, .inr (false, [(0, 0)])), (2, .inr (false, ar_t32)), (3, .inr (false, ar_t32)), (4, .inr (false, [(0, 4)]))], [], czmb60h1), none)]),
  .inr (4, false, [((130, [(0, .inl 81), (1, .inr (false, [(0, 0)])), (2, .inr (false, ar_t32)), (3, .inr (false, ar_t32)), (4, .inr (false, [(0, 8)]))], [], czmb60h1), none)])] = true := by decide +kernel
/-- MiceRegistersModel.byLot -/
def mbc61 : ak_C := (189, [.inl 81, .inr (true, [(0, 2147483646)])], mbh98, [82], [([], none, mbh95)])
theorem mbk61 : ai_chk [mbc60] mbc61 (fun pc => sm_ch sm_t189 pc, sm_Kn 3 6 none, fun x => sm_lk sm_ca3 x, none) [82] 6 0 [] [] 2000 [] = true := by decide +kernel
def mbh117 : aw_H := [(82, ms_r [(0, [(0, 25)])])]
/-- MiceRegistersModel.keepPast -/
def mbh118 : aw_H := [(81, mbx1), (82, ms_r [(0, [(-1, 24)])])]
def mbc56 : ak_C := (149, [.inl 81], mbh118, [82], [([], none, mbh117)])
def mbh119 : aw_H := [(82, ms_r [(0, [(0, 25)]), (12, ar_t32)])]
/-- MiceRegistersModel.passes -/
def mbh120 : aw_H := [(81, mbx1), (82, ms_r [(0, [(0, 25)])]), (83, .inr (.inl (0, 8, [], []))), (85, .inr (.inl (0, 4, [], []))), (86, .inr (.inl (0, 4, [], [])))]
def mbc57 : ak_C := (150, [.inl 81, .inr (false, [(0, 0)]), .inr (false, ar_t32)], mbh120, [82], [([], some (.inr (false, ar_t32)), mbh119)])
def czmb57x0 : aw_A := ms_o [(1, 8)] [(1, 4)] ar_t32 ar_t32 [(0, 180)] [(0, 60)] [(-1, 60)] [(0, 8)] [(0, 4)]
def czmb57h1 : aw_H := [(81, czmb57x0), (82, ms_r [(0, [(0, 25)])]), (83, .inr (.inl (0, 8, [], []))), (85, .inr (.inl (0, 4, [], []))), (86, .inr (.inl (0, 4, [], [])))]
set_option maxRecDepth 100000 in
theorem mbk57 : ai_ch2 [mbc5, mbc9, mbc10] mbc57 (fun pc => sm_ch sm_t150 pc, sm_Kn 3 7 none, fun x => sm_lk sm_ca3 x, some .int) [82] 7 0 [5, 130] [] 2000 [.inr (4, false, [((5, [(0, .inl 81), (1, .inr (false, [(0, 0)])), (2, .inr (false, ar_t32)), (3, .inr (false, ar_t32)), (4, .inr (false, [(0, 4)]))], [], czmb57h1), none)]),
  .inr (4, false, [((130, [(0, .inl 81), (1, .inr (false, [(0, 0)])), (2, .inr (false, ar_t32)), (3, .inr (false, ar_t32)), (4, .inr (false, [(0, 8)]))], [], czmb57h1), none)])] = true := by decide +kernel
/-- MiceRegistersModel.byLot -/
def mbc58 : ak_C := (189, [.inl 81, .inr (true, [(0, 2147483646)])], mbh120, [82], [([], none, mbh117)])
theorem mbk58 : ai_chk [mbc57] mbc58 (fun pc => sm_ch sm_t189 pc, sm_Kn 3 6 none, fun x => sm_lk sm_ca3 x, none) [82] 6 0 [] [] 2000 [] = true := by decide +kernel
def mbh139 : aw_H := [(82, ms_r [(0, [(0, 26)])])]
/-- MiceRegistersModel.keepPast -/
def mbh140 : aw_H := [(81, mbx1), (82, ms_r [(0, [(-1, 25)])])]
def mbc53 : ak_C := (149, [.inl 81], mbh140, [82], [([], none, mbh139)])
def mbh141 : aw_H := [(82, ms_r [(0, [(0, 26)]), (12, ar_t32)])]
/-- MiceRegistersModel.passes -/
def mbh142 : aw_H := [(81, mbx1), (82, ms_r [(0, [(0, 26)])]), (83, .inr (.inl (0, 8, [], []))), (85, .inr (.inl (0, 4, [], []))), (86, .inr (.inl (0, 4, [], [])))]
def mbc54 : ak_C := (150, [.inl 81, .inr (false, [(0, 0)]), .inr (false, ar_t32)], mbh142, [82], [([], some (.inr (false, ar_t32)), mbh141)])
def czmb54x0 : aw_A := ms_o [(1, 8)] [(1, 4)] ar_t32 ar_t32 [(0, 180)] [(0, 60)] [(-1, 60)] [(0, 8)] [(0, 4)]
def czmb54h1 : aw_H := [(81, czmb54x0), (82, ms_r [(0, [(0, 26)])]), (83, .inr (.inl (0, 8, [], []))), (85, .inr (.inl (0, 4, [], []))), (86, .inr (.inl (0, 4, [], [])))]
set_option maxRecDepth 100000 in
theorem mbk54 : ai_ch2 [mbc5, mbc9, mbc10] mbc54 (fun pc => sm_ch sm_t150 pc, sm_Kn 3 7 none, fun x => sm_lk sm_ca3 x, some .int) [82] 7 0 [5, 130] [] 2000 [.inr (4, false, [((5, [(0, .inl 81), (1, .inr (false, [(0, 0)])), (2, .inr (false, ar_t32)), (3, .inr (false, ar_t32)), (4, .inr (false, [(0, 4)]))], [], czmb54h1), none)]),
  .inr (4, false, [((130, [(0, .inl 81), (1, .inr (false, [(0, 0)])), (2, .inr (false, ar_t32)), (3, .inr (false, ar_t32)), (4, .inr (false, [(0, 8)]))], [], czmb54h1), none)])] = true := by decide +kernel

