/-! Contracts over ranges of the reference, and their checks; printed by a program of mine. -/
/-- MiceRegistersModel.leftIn -/
def m4c122 : ak_C := (168, [.inl 81, .inr (false, [(3776, 3776)])], m4h34, [], [([], some (.inr (false, ar_t32)), [])])
def m4h82 : aw_H := [(81, m4x13), (82, ms_r [(0, [(-1, 40)])])]
def m4h83 : aw_H := [(81, m4x16), (82, ms_r [(0, [(-1, 40)])])]
def m4h84 : aw_H := [(81, m4x19), (82, ms_r [(0, [(-1, 40)])])]
def m4h85 : aw_H := [(81, m4x22), (82, ms_r [(0, [(-1, 40)])])]
def m4h86 : aw_H := [(81, m4x25), (82, ms_r [(0, [(-1, 40)])])]
def m4h87 : aw_H := [(81, m4x28), (82, ms_r [(0, [(-1, 40)])])]
def m4h88 : aw_H := [(81, m4x31), (82, ms_r [(0, [(-1, 40)])])]
theorem m4k122 : ai_chk [] m4c122 (fun pc => sm_ch sm_t168 pc, sm_Kn 3 4 none, fun x => sm_lk sm_ca3 x, some .int) [] 4 0 [4] [] 2000 [(4, [(0, .inl 81), (1, .inr (false, [(3776, 3776)])), (2, .inr (false, [(0, 0)])), (3, .inr (false, [(0, 0)]))], [], m4h34),
  (4, [(0, .inl 81), (1, .inr (false, [(3776, 3776)])), (2, .inr (false, ar_t32)), (3, .inr (false, [(1, 1)]))], [], m4h34),
  (4, [(0, .inl 81), (1, .inr (false, [(3776, 3776)])), (2, .inr (false, ar_t32)), (3, .inr (false, [(2, 2)]))], [], m4h82),
  (4, [(0, .inl 81), (1, .inr (false, [(3776, 3776)])), (2, .inr (false, ar_t32)), (3, .inr (false, [(3, 3)]))], [], m4h83),
  (4, [(0, .inl 81), (1, .inr (false, [(3776, 3776)])), (2, .inr (false, ar_t32)), (3, .inr (false, [(4, 4)]))], [], m4h84),
  (4, [(0, .inl 81), (1, .inr (false, [(3776, 3776)])), (2, .inr (false, ar_t32)), (3, .inr (false, [(5, 5)]))], [], m4h85),
  (4, [(0, .inl 81), (1, .inr (false, [(3776, 3776)])), (2, .inr (false, ar_t32)), (3, .inr (false, [(6, 6)]))], [], m4h86),
  (4, [(0, .inl 81), (1, .inr (false, [(3776, 3776)])), (2, .inr (false, ar_t32)), (3, .inr (false, [(7, 7)]))], [], m4h87),
  (4, [(0, .inl 81), (1, .inr (false, [(3776, 3776)])), (2, .inr (false, ar_t32)), (3, .inr (false, [(8, 8)]))], [], m4h88)] = true := by decide +kernel
/-- MiceRegistersModel.mid -/
def m4c123 : ak_C := (187, [.inl 81, .inr (false, ar_t32)], m4h64, [81, 82], [([[], [(-2147483648, -1), (13, 2147483647)]], some (.inr (false, [(-1, -1)])), m4h34), ([[], [(0, 12)]], some (.inr (false, [(1, 1)])), m4h80)])
set_option maxRecDepth 100000 in
theorem m4k123 : ai_chk [m4c17, m4c22, m4c23, m4c28, m4c122, m4c33, m4c38, m4c43, m4c48, m4c53, m4c58, m4c63, m4c68, m4c73, m4c78, m4c83, m4c88, m4c93, m4c98, m4c103, m4c104, m4c105, m4c106, m4c107, m4c108, m4c109, m4c110, m4c111, m4c112, m4c113, m4c114, m4c115, m4c116, m4c117, m4c118, m4c119, m4c120] m4c123 (fun pc => sm_ch sm_t187 pc, sm_Kn 3 9 none, fun x => sm_lk sm_ca3 x, some .int) [81, 82] 9 2 [32] [(24, some (0, 1, 0), 12, 1)] 2000 [(32, [(0, .inl 81), (1, .inr (false, [(12, 12)])), (2, .inr (true, [(0, 0)])), (4, .inr (true, [(0, 0)])), (6, .inr (false, [(0, 0)]))], [], m4h64),
  (32, [(0, .inl 81), (1, .inr (false, [(12, 12)])), (2, .inr (true, [(0, 0)])), (4, .inr (true, [(0, 0)])), (6, .inr (false, [(1, 1)])), (7, .inr (true, [(0, 0)]))], [], m4h81),
  (32, [(0, .inl 81), (1, .inr (false, [(12, 12)])), (2, .inr (true, [(0, 0)])), (4, .inr (true, [(0, 0)])), (6, .inr (false, [(2, 2)])), (7, .inr (true, [(0, 0)]))], [], m4h81),
  (32, [(0, .inl 81), (1, .inr (false, [(12, 12)])), (2, .inr (true, [(0, 0)])), (4, .inr (true, [(0, 0)])), (6, .inr (false, [(3, 3)])), (7, .inr (true, [(0, 0)]))], [], m4h81),
  (32, [(0, .inl 81), (1, .inr (false, [(12, 12)])), (2, .inr (true, [(0, 0)])), (4, .inr (true, [(0, 0)])), (6, .inr (false, [(4, 4)])), (7, .inr (true, [(0, 0)]))], [], m4h81),
  (32, [(0, .inl 81), (1, .inr (false, [(12, 12)])), (2, .inr (true, [(0, 0)])), (4, .inr (true, [(0, 0)])), (6, .inr (false, [(5, 5)])), (7, .inr (true, [(0, 0)]))], [], m4h81),
  (32, [(0, .inl 81), (1, .inr (false, [(12, 12)])), (2, .inr (true, [(0, 0)])), (4, .inr (true, [(0, 0)])), (6, .inr (false, [(6, 6)])), (7, .inr (true, [(0, 0)]))], [], m4h81),
  (32, [(0, .inl 81), (1, .inr (false, [(12, 12)])), (2, .inr (true, [(0, 0)])), (4, .inr (true, [(0, 0)])), (6, .inr (false, [(7, 7)])), (7, .inr (true, [(0, 0)]))], [], m4h81),
  (32, [(0, .inl 81), (1, .inr (false, [(12, 12)])), (2, .inr (true, [(0, 0)])), (4, .inr (true, [(0, 0)])), (6, .inr (false, [(8, 8)])), (7, .inr (true, [(0, 0)]))], [], m4h81),
  (32, [(0, .inl 81), (1, .inr (false, [(12, 12)])), (2, .inr (true, [(0, 0)])), (4, .inr (true, [(0, 0)])), (6, .inr (false, [(9, 9)])), (7, .inr (true, [(0, 0)]))], [], m4h81),
  (32, [(0, .inl 81), (1, .inr (false, [(12, 12)])), (2, .inr (true, [(0, 0)])), (4, .inr (true, [(0, 0)])), (6, .inr (false, [(10, 10)])), (7, .inr (true, [(0, 0)]))], [], m4h81),
  (32, [(0, .inl 81), (1, .inr (false, [(12, 12)])), (2, .inr (true, [(0, 0)])), (4, .inr (true, [(0, 0)])), (6, .inr (false, [(11, 11)])), (7, .inr (true, [(0, 0)]))], [], m4h81),
  (32, [(0, .inl 81), (1, .inr (false, [(12, 12)])), (2, .inr (true, [(0, 0)])), (4, .inr (true, [(0, 0)])), (6, .inr (false, [(12, 12)])), (7, .inr (true, [(0, 0)]))], [], m4h81),
  (32, [(0, .inl 81), (1, .inr (false, [(12, 12)])), (2, .inr (true, [(0, 0)])), (4, .inr (true, [(0, 0)])), (6, .inr (false, [(13, 13)])), (7, .inr (true, [(0, 0)]))], [], m4h81),
  (32, [(0, .inl 81), (1, .inr (false, [(12, 12)])), (2, .inr (true, [(0, 0)])), (4, .inr (true, [(0, 0)])), (6, .inr (false, [(14, 14)])), (7, .inr (true, [(0, 0)]))], [], m4h81),
  (32, [(0, .inl 81), (1, .inr (false, [(12, 12)])), (2, .inr (true, [(0, 0)])), (4, .inr (true, [(0, 0)])), (6, .inr (false, [(15, 15)])), (7, .inr (true, [(0, 0)]))], [], m4h81),
  (32, [(0, .inl 81), (1, .inr (false, [(12, 12)])), (2, .inr (true, [(-44530220924928, 44530220904192)])), (4, .inr (true, [(20736, 20736)])), (6, .inr (false, [(16, 16)])), (7, .inr (true, [(20736, 20736)]))], [], m4h81),
  (32, [(0, .inl 81), (1, .inr (false, [(0, 11)])), (2, .inr (true, [(0, 0)])), (4, .inr (true, [(0, 0)])), (6, .inr (false, [(0, 0)]))], [], m4h64),
  (32, [(0, .inl 81), (1, .inr (false, [(0, 11)])), (2, .inr (true, [(-44530220924928, 44530220904192)])), (4, .inr (true, [(1, 20736)])), (6, .inr (false, [(1, 1)])), (7, .inr (true, [(1, 20736)]))], [], m4h81),
  (32, [(0, .inl 81), (1, .inr (false, [(0, 11)])), (2, .inr (true, [(-85349590106112, 85349590066368)])), (4, .inr (true, [(1, 39744)])), (6, .inr (false, [(2, 2)])), (7, .inr (true, [(0, 19008)]))], [], m4h81),
  (32, [(0, .inl 81), (1, .inr (false, [(0, 11)])), (2, .inr (true, [(-126168959287296, 126168959228544)])), (4, .inr (true, [(1, 58752)])), (6, .inr (false, [(3, 3)])), (7, .inr (true, [(0, 19008)]))], [], m4h81),
  (32, [(0, .inl 81), (1, .inr (false, [(0, 11)])), (2, .inr (true, [(-163586714370048, 163586714293872)])), (4, .inr (true, [(1, 76176)])), (6, .inr (false, [(4, 4)])), (7, .inr (true, [(0, 17424)]))], [], m4h81),
  (32, [(0, .inl 81), (1, .inr (false, [(0, 11)])), (2, .inr (true, [(-204406083551232, 204406083456048)])), (4, .inr (true, [(1, 95184)])), (6, .inr (false, [(5, 5)])), (7, .inr (true, [(0, 19008)]))], [], m4h81),
  (32, [(0, .inl 81), (1, .inr (false, [(0, 11)])), (2, .inr (true, [(-241823838633984, 241823838521376)])), (4, .inr (true, [(1, 112608)])), (6, .inr (false, [(6, 6)])), (7, .inr (true, [(0, 17424)]))], [], m4h81),
  (32, [(0, .inl 81), (1, .inr (false, [(0, 11)])), (2, .inr (true, [(-279241593716736, 279241593586704)])), (4, .inr (true, [(1, 130032)])), (6, .inr (false, [(7, 7)])), (7, .inr (true, [(0, 17424)]))], [], m4h81),
  (32, [(0, .inl 81), (1, .inr (false, [(0, 11)])), (2, .inr (true, [(-313541202542592, 313541202396588)])), (4, .inr (true, [(1, 146004)])), (6, .inr (false, [(8, 8)])), (7, .inr (true, [(0, 15972)]))], [], m4h81),
  (32, [(0, .inl 81), (1, .inr (false, [(0, 11)])), (2, .inr (true, [(-354360571723776, 354360571558764)])), (4, .inr (true, [(1, 165012)])), (6, .inr (false, [(9, 9)])), (7, .inr (true, [(0, 19008)]))], [], m4h81),
  (32, [(0, .inl 81), (1, .inr (false, [(0, 11)])), (2, .inr (true, [(-391778326806528, 391778326624092)])), (4, .inr (true, [(1, 182436)])), (6, .inr (false, [(10, 10)])), (7, .inr (true, [(0, 17424)]))], [], m4h81),
  (32, [(0, .inl 81), (1, .inr (false, [(0, 11)])), (2, .inr (true, [(-429196081889280, 429196081689420)])), (4, .inr (true, [(1, 199860)])), (6, .inr (false, [(11, 11)])), (7, .inr (true, [(0, 17424)]))], [], m4h81),
  (32, [(0, .inl 81), (1, .inr (false, [(0, 11)])), (2, .inr (true, [(-463495690715136, 463495690499304)])), (4, .inr (true, [(1, 215832)])), (6, .inr (false, [(12, 12)])), (7, .inr (true, [(0, 15972)]))], [], m4h81),
  (32, [(0, .inl 81), (1, .inr (false, [(0, 11)])), (2, .inr (true, [(-500913445797888, 500913445564632)])), (4, .inr (true, [(1, 233256)])), (6, .inr (false, [(13, 13)])), (7, .inr (true, [(0, 17424)]))], [], m4h81),
  (32, [(0, .inl 81), (1, .inr (false, [(0, 11)])), (2, .inr (true, [(-535213054623744, 535213054374516)])), (4, .inr (true, [(1, 249228)])), (6, .inr (false, [(14, 14)])), (7, .inr (true, [(0, 15972)]))], [], m4h81),
  (32, [(0, .inl 81), (1, .inr (false, [(0, 11)])), (2, .inr (true, [(-569512663449600, 569512663184400)])), (4, .inr (true, [(1, 265200)])), (6, .inr (false, [(15, 15)])), (7, .inr (true, [(0, 15972)]))], [], m4h81),
  (32, [(0, .inl 81), (1, .inr (false, [(0, 11)])), (2, .inr (true, [(-600953971539968, 600953971260127)])), (4, .inr (true, [(1, 279841)])), (6, .inr (false, [(16, 16)])), (7, .inr (true, [(0, 14641)]))], [], m4h81)] = true := by decide +kernel
def max0 : aw_A := ms_o [(0, 8)] [(0, 0)] ar_t32 ar_t32 [(0, 180)] [(0, 60)] [(-1, 60)] [(0, 8)] [(0, 4)]
def mah1 : aw_H := [(81, max0), (88, .inr (.inl (0, 240, [], []))), (91, .inr (.inl (0, 6, [], [])))]
/-- MiceRegistersModel.copy -/
def max2 : aw_A := .inr (.inl (0, 6, [(0, 5, [(-1, 40)])], []))
def mah3 : aw_H := [(81, max0), (87, max2), (88, .inr (.inl (0, 240, [], []))), (91, .inr (.inl (0, 6, [], [])))]
def mac0 : ak_C := (113, [.inl 81, .inr (false, ar_t32), .inr (false, ar_t32), .inr (false, ar_t32), .inr (false, ar_t32), .inr (false, ar_t32)], mah3, [81, 88, 91], [([], some (.inr (false, [(-1, -1)])), mah1), ([], some (.inr (false, [(-3, -3)])), mah1), ([], some (.inr (false, [(1, 1)])), mah1)])
def max4 : aw_A := .inr (.inl (0, 4, [(0, 3, [(0, 9)])], []))
def mah5 : aw_H := [(81, max0), (82, ms_r [(0, [(-1, 40)])]), (96, max4), (97, .inr (.inl (0, 5, [], [])))]
/-- MiceRegistersModel.duel -/
def mah6 : aw_H := [(81, max0), (82, ms_r [(0, [(-1, 40)])]), (83, .inr (.inl (0, 8, [], []))), (85, .inr (.inl (0, 4, [], []))), (86, .inr (.inl (0, 4, [], []))), (96, max4), (97, .inr (.inl (0, 5, [], [])))]
def mac1 : ak_C := (180, [.inl 81, .inr (false, ar_t32), .inr (false, ar_t32), .inr (false, ar_t32)], mah6, [81, 82, 96, 97], [([], some (.inr (false, [(-1, -1)])), mah5), ([], some (.inr (false, [(1, 1)])), mah5)])
/-- MiceRegistersModel.in -/
def mac2 : ak_C := (105, [.inr (true, ar_t32), .inr (true, [(1, 1)]), .inr (true, [(20, 20)])], [], [], [([[(1, 20)], [], []], some (.inr (false, [(1, 1)])), []), ([[(-2147483648, 0), (21, 2147483647)], [], []], some (.inr (false, [(0, 0)])), [])])
theorem mak2 : ai_chk [] mac2 (fun pc => sm_ch sm_t105 pc, sm_Kn 3 6 none, fun x => sm_lk sm_ca3 x, some .boolean) [] 6 6 [] [] 2000 [] = true := by decide +kernel
/-- MiceRegistersModel.in -/
def mac3 : ak_C := (105, [.inr (true, ar_t32), .inr (true, [(1, 1)]), .inr (true, [(2147483646, 2147483646)])], [], [], [([[(1, 2147483646)], [], []], some (.inr (false, [(1, 1)])), []), ([[(-2147483648, 0), (2147483647, 2147483647)], [], []], some (.inr (false, [(0, 0)])), [])])
theorem mak3 : ai_chk [] mac3 (fun pc => sm_ch sm_t105 pc, sm_Kn 3 6 none, fun x => sm_lk sm_ca3 x, some .boolean) [] 6 6 [] [] 2000 [] = true := by decide +kernel
/-- MiceRegistersModel.lots -/
def mah7 : aw_H := [(81, max0)]
def mac4 : ak_C := (188, [.inl 81, .inr (false, ar_t32), .inr (false, ar_t32)], mah7, [], [([[], [], []], some (.inr (false, [(-1, -1)])), []), ([[], [(1, 20)], [(1, 2147483646)]], some (.inr (false, [(-4, -4)])), [])])
theorem mak4 : ai_chk [mac2, mac3] mac4 (fun pc => sm_ch sm_t188 pc, sm_Kn 3 6 none, fun x => sm_lk sm_ca3 x, some .int) [] 6 3 [58] [(36, some (2, 82, 0), -1, 42), (37, some (0, 1, 0), 1, 20)] 2000 [] = true := by decide +kernel
def mbx0 : aw_A := ms_o [(1, 8)] [(1, 4)] ar_t32 ar_t32 [(0, 180)] [(0, 60)] [(-1, 60)] [(0, 8)] [(0, 4)]
def mbh1 : aw_H := [(81, mbx0), (88, .inr (.inl (0, 240, [], []))), (91, .inr (.inl (0, 6, [], [])))]
/-- MiceRegistersModel.copy -/
def mbx2 : aw_A := .inr (.inl (0, 6, [(0, 5, [(-1, 40)])], []))
def mbh3 : aw_H := [(81, mbx0), (87, mbx2), (88, .inr (.inl (0, 240, [], []))), (91, .inr (.inl (0, 6, [], [])))]
def mbc0 : ak_C := (113, [.inl 81, .inr (false, ar_t32), .inr (false, ar_t32), .inr (false, ar_t32), .inr (false, ar_t32), .inr (false, ar_t32)], mbh3, [81, 88, 91], [([], some (.inr (false, [(-1, -1)])), mbh1), ([], some (.inr (false, [(-3, -3)])), mbh1), ([], some (.inr (false, [(1, 1)])), mbh1)])
def mbx4 : aw_A := .inr (.inl (0, 4, [(0, 3, [(0, 9)])], []))
def mbh5 : aw_H := [(81, mbx0), (82, ms_r [(0, [(-1, 40)])]), (96, mbx4), (97, .inr (.inl (0, 5, [], [])))]
/-- MiceRegistersModel.duel -/
def mbh6 : aw_H := [(81, mbx0), (82, ms_r [(0, [(-1, 40)])]), (83, .inr (.inl (0, 8, [], []))), (85, .inr (.inl (0, 4, [], []))), (86, .inr (.inl (0, 4, [], []))), (96, mbx4), (97, .inr (.inl (0, 5, [], [])))]
def mbc1 : ak_C := (180, [.inl 81, .inr (false, ar_t32), .inr (false, ar_t32), .inr (false, ar_t32)], mbh6, [81, 82, 96, 97], [([], some (.inr (false, [(-1, -1)])), mbh5), ([], some (.inr (false, [(1, 1)])), mbh5)])
/-- MiceRegistersModel.in -/
def mbc2 : ak_C := (105, [.inr (true, ar_t32), .inr (true, [(1, 1)]), .inr (true, [(20, 20)])], [], [], [([[(1, 20)], [], []], some (.inr (false, [(1, 1)])), []), ([[(-2147483648, 0), (21, 2147483647)], [], []], some (.inr (false, [(0, 0)])), [])])
theorem mbk2 : ai_chk [] mbc2 (fun pc => sm_ch sm_t105 pc, sm_Kn 3 6 none, fun x => sm_lk sm_ca3 x, some .boolean) [] 6 6 [] [] 2000 [] = true := by decide +kernel
/-- MiceRegistersModel.in -/
def mbc3 : ak_C := (105, [.inr (true, ar_t32), .inr (true, [(1, 1)]), .inr (true, [(2147483646, 2147483646)])], [], [], [([[(1, 2147483646)], [], []], some (.inr (false, [(1, 1)])), []), ([[(-2147483648, 0), (2147483647, 2147483647)], [], []], some (.inr (false, [(0, 0)])), [])])
theorem mbk3 : ai_chk [] mbc3 (fun pc => sm_ch sm_t105 pc, sm_Kn 3 6 none, fun x => sm_lk sm_ca3 x, some .boolean) [] 6 6 [] [] 2000 [] = true := by decide +kernel
def mbh7 : aw_H := [(82, ms_r [(0, [(0, 40)])])]
/-- MiceRegistersModel.keepPast -/
def mbh8 : aw_H := [(81, mbx0), (82, ms_r [(0, [(-1, 39)])])]
def mbc4 : ak_C := (149, [.inl 81], mbh8, [82], [([], none, mbh7)])
/-- MiceRegistersModel.has -/
def mbc5 : ak_C := (135, [.inr (false, ar_t32), .inr (false, ar_t32)], [], [], [([], some (.inr (false, [(1, 1)])), []), ([], some (.inr (false, [(0, 0)])), [])])
theorem mbk5 : ai_chk [] mbc5 (fun pc => sm_ch sm_t135 pc, sm_Kn 3 2 none, fun x => sm_lk sm_ca3 x, some .boolean) [] 2 0 [] [] 2000 [] = true := by decide +kernel
/-- MiceRegistersModel.farOf -/
def mbh9 : aw_H := [(81, mbx0), (82, ms_r [(0, [(-1, 40)])])]
def mbc6 : ak_C := (137, [.inl 81, .inr (false, [(0, 0)]), .inr (false, [(0, 3)]), .inr (false, [(0, 7)])], mbh9, [], [([], some (.inr (false, [(0, 7)])), [])])
theorem mbk6 : ai_chk [] mbc6 (fun pc => sm_ch sm_t137 pc, sm_Kn 3 5 none, fun x => sm_lk sm_ca3 x, some .int) [] 5 0 [] [] 2000 [] = true := by decide +kernel
/-- MiceRegistersModel.likesBy -/
def mbc7 : ak_C := (138, [.inr (false, ar_t32), .inr (false, ar_t32), .inr (false, ar_t32), .inr (false, ar_t32)], [], [], [([], some (.inr (false, ar_t32)), [])])
theorem mbk7 : ai_chk [] mbc7 (fun pc => sm_ch sm_t138 pc, sm_Kn 3 4 none, fun x => sm_lk sm_ca3 x, some .int) [] 4 0 [] [] 2000 [] = true := by decide +kernel
/-- MiceRegistersModel.likesIn -/
def mbh10 : aw_H := [(81, mbx0), (82, ms_r [(0, [(-1, 40)])]), (83, .inr (.inl (0, 8, [], []))), (85, .inr (.inl (0, 4, [], [])))]
def mbc8 : ak_C := (136, [.inl 81, .inr (false, [(0, 0)]), .inr (false, [(0, 3)]), .inr (false, [(0, 7)])], mbh10, [], [([], some (.inr (false, ar_t32)), [])])
theorem mbk8 : ai_chk [mbc6, mbc7] mbc8 (fun pc => sm_ch sm_t136 pc, sm_Kn 3 4 none, fun x => sm_lk sm_ca3 x, some .int) [] 4 0 [] [] 2000 [] = true := by decide +kernel
/-- MiceRegistersModel.wants -/
def mbc9 : ak_C := (134, [.inl 81, .inr (false, [(0, 0)]), .inr (false, [(0, 3)])], mbh10, [], [([], some (.inr (false, [(-9, -9), (0, 7)])), [])])
def mbh11 : aw_H := [(81, mbx0), (82, ms_r [(0, [(-1, 40)]), (4, ar_t32)]), (83, .inr (.inl (0, 8, [], []))), (85, .inr (.inl (0, 4, [], [])))]
def mbx12 : aw_A := ms_o [(2, 8)] [(1, 4)] ar_t32 ar_t32 [(0, 180)] [(0, 60)] [(-1, 60)] [(0, 8)] [(0, 4)]
def mbx13 : aw_A := ms_r [(0, [(-1, 40)]), (4, ar_t32), (5, ar_t32)]
def mbh14 : aw_H := [(81, mbx12), (82, mbx13), (83, .inr (.inl (0, 8, [], []))), (85, .inr (.inl (0, 4, [], [])))]
def mbx15 : aw_A := ms_o [(3, 8)] [(1, 4)] ar_t32 ar_t32 [(0, 180)] [(0, 60)] [(-1, 60)] [(0, 8)] [(0, 4)]
def mbx16 : aw_A := ms_r [(0, [(-1, 40)]), (4, ar_t32), (5, ar_t32), (6, ar_t32)]
def mbh17 : aw_H := [(81, mbx15), (82, mbx16), (83, .inr (.inl (0, 8, [], []))), (85, .inr (.inl (0, 4, [], [])))]
def mbx18 : aw_A := ms_o [(4, 8)] [(1, 4)] ar_t32 ar_t32 [(0, 180)] [(0, 60)] [(-1, 60)] [(0, 8)] [(0, 4)]
def mbx19 : aw_A := ms_r [(0, [(-1, 40)]), (4, ar_t32), (5, ar_t32), (6, ar_t32), (7, ar_t32)]
def mbh20 : aw_H := [(81, mbx18), (82, mbx19), (83, .inr (.inl (0, 8, [], []))), (85, .inr (.inl (0, 4, [], [])))]
def mbx21 : aw_A := ms_o [(5, 8)] [(1, 4)] ar_t32 ar_t32 [(0, 180)] [(0, 60)] [(-1, 60)] [(0, 8)] [(0, 4)]
def mbx22 : aw_A := ms_r [(0, [(-1, 40)]), (4, ar_t32), (5, ar_t32), (6, ar_t32), (7, ar_t32), (8, ar_t32)]
def mbh23 : aw_H := [(81, mbx21), (82, mbx22), (83, .inr (.inl (0, 8, [], []))), (85, .inr (.inl (0, 4, [], [])))]
def mbx24 : aw_A := ms_o [(6, 8)] [(1, 4)] ar_t32 ar_t32 [(0, 180)] [(0, 60)] [(-1, 60)] [(0, 8)] [(0, 4)]
def mbx25 : aw_A := ms_r [(0, [(-1, 40)]), (4, ar_t32), (5, ar_t32), (6, ar_t32), (7, ar_t32), (8, ar_t32), (9, ar_t32)]
def mbh26 : aw_H := [(81, mbx24), (82, mbx25), (83, .inr (.inl (0, 8, [], []))), (85, .inr (.inl (0, 4, [], [])))]
def mbx27 : aw_A := ms_o [(7, 8)] [(1, 4)] ar_t32 ar_t32 [(0, 180)] [(0, 60)] [(-1, 60)] [(0, 8)] [(0, 4)]
def mbx28 : aw_A := ms_r [(0, [(-1, 40)]), (4, ar_t32), (5, ar_t32), (6, ar_t32), (7, ar_t32), (8, ar_t32), (9, ar_t32), (10, ar_t32)]
def mbh29 : aw_H := [(81, mbx27), (82, mbx28), (83, .inr (.inl (0, 8, [], []))), (85, .inr (.inl (0, 4, [], [])))]
def mbx30 : aw_A := ms_o [(8, 8)] [(1, 4)] ar_t32 ar_t32 [(0, 180)] [(0, 60)] [(-1, 60)] [(0, 8)] [(0, 4)]
def mbx31 : aw_A := ms_r [(0, [(-1, 40)]), (4, ar_t32), (5, ar_t32), (6, ar_t32), (7, ar_t32), (8, ar_t32), (9, ar_t32), (10, ar_t32), (11, ar_t32)]
def mbh32 : aw_H := [(81, mbx30), (82, mbx31), (83, .inr (.inl (0, 8, [], []))), (85, .inr (.inl (0, 4, [], [])))]
def mbn9_0 : List (Nat × aw_S) := [(9, [(0, .inl 81), (1, .inr (false, [(0, 0)])), (2, .inr (false, [(0, 3)])), (3, .inr (false, [(-9, -9)])), (4, .inr (false, [(0, 0)])), (5, .inr (false, [(0, 0)]))], [], mbh10),
  (9, [(0, .inl 81), (1, .inr (false, [(0, 0)])), (2, .inr (false, [(0, 3)])), (3, .inr (false, [(-9, -9), (0, 0)])), (4, .inr (false, [(0, 2147483647)])), (5, .inr (false, [(1, 1)])), (6, .inr (false, [(0, 1)])), (7, .inr (false, ar_t32)), (8, .inr (false, [(0, 1)]))], [], mbh11),
  (9, [(0, .inl 81), (1, .inr (false, [(0, 0)])), (2, .inr (false, [(0, 3)])), (3, .inr (false, [(-9, -9), (0, 1)])), (4, .inr (false, [(0, 2147483647)])), (5, .inr (false, [(2, 2)])), (6, .inr (false, [(0, 1)])), (7, .inr (false, ar_t32)), (8, .inr (false, [(0, 1)]))], [], mbh14),
  (9, [(0, .inl 81), (1, .inr (false, [(0, 0)])), (2, .inr (false, [(0, 3)])), (3, .inr (false, [(-9, -9), (0, 2)])), (4, .inr (false, [(0, 2147483647)])), (5, .inr (false, [(3, 3)])), (6, .inr (false, [(0, 1)])), (7, .inr (false, ar_t32)), (8, .inr (false, [(0, 1)]))], [], mbh17),
  (9, [(0, .inl 81), (1, .inr (false, [(0, 0)])), (2, .inr (false, [(0, 3)])), (3, .inr (false, [(-9, -9), (0, 3)])), (4, .inr (false, [(0, 2147483647)])), (5, .inr (false, [(4, 4)])), (6, .inr (false, [(0, 1)])), (7, .inr (false, ar_t32)), (8, .inr (false, [(0, 1)]))], [], mbh20),
  (9, [(0, .inl 81), (1, .inr (false, [(0, 0)])), (2, .inr (false, [(0, 3)])), (3, .inr (false, [(-9, -9), (0, 4)])), (4, .inr (false, [(0, 2147483647)])), (5, .inr (false, [(5, 5)])), (6, .inr (false, [(0, 1)])), (7, .inr (false, ar_t32)), (8, .inr (false, [(0, 1)]))], [], mbh23),
  (9, [(0, .inl 81), (1, .inr (false, [(0, 0)])), (2, .inr (false, [(0, 3)])), (3, .inr (false, [(-9, -9), (0, 5)])), (4, .inr (false, [(0, 2147483647)])), (5, .inr (false, [(6, 6)])), (6, .inr (false, [(0, 1)])), (7, .inr (false, ar_t32)), (8, .inr (false, [(0, 1)]))], [], mbh26)]
def mbn9_1 : List (Nat × aw_S) := [(9, [(0, .inl 81), (1, .inr (false, [(0, 0)])), (2, .inr (false, [(0, 3)])), (3, .inr (false, [(-9, -9), (0, 6)])), (4, .inr (false, [(0, 2147483647)])), (5, .inr (false, [(7, 7)])), (6, .inr (false, [(0, 1)])), (7, .inr (false, ar_t32)), (8, .inr (false, [(0, 1)]))], [], mbh29),
  (9, [(0, .inl 81), (1, .inr (false, [(0, 0)])), (2, .inr (false, [(0, 3)])), (3, .inr (false, [(-9, -9), (0, 7)])), (4, .inr (false, [(0, 2147483647)])), (5, .inr (false, [(8, 8)])), (6, .inr (false, [(0, 1)])), (7, .inr (false, ar_t32)), (8, .inr (false, [(0, 1)]))], [], mbh32)]
def mbb9 : sm_P := (fun pc => sm_ch sm_t134 pc, sm_Kn 3 9 none, fun x => sm_lk sm_ca3 x, some .int)
set_option maxRecDepth 100000 in
theorem mbk9_e : ai_nd2 [mbc5, mbc8, mbc6] mbc9 mbb9 [] 0 [9] [] 2000 [(0, ai_lv mbc9.2.1 0, [], mbc9.2.2.1)] (mbn9_0 ++ (mbn9_1 ++ [])) = true := by decide +kernel
set_option maxRecDepth 100000 in
theorem mbk9_0 : ai_nd2 [mbc5, mbc8, mbc6] mbc9 mbb9 [] 0 [9] [] 2000 mbn9_0 (mbn9_1 ++ []) = true := by decide +kernel
set_option maxRecDepth 100000 in
theorem mbk9_1 : ai_nd2 [mbc5, mbc8, mbc6] mbc9 mbb9 [] 0 [9] [] 2000 mbn9_1 [] = true := by decide +kernel
set_option maxRecDepth 100000 in
theorem mbk9 : ai_chk [mbc5, mbc8, mbc6] mbc9 mbb9 [] 9 0 [9] [] 2000 (mbn9_0 ++ (mbn9_1 ++ [])) = true := ai_chk_of (by decide +kernel) (ai_nd2_s (ai_nd2_s (ai_nd2_s rfl mbk9_1) mbk9_0) mbk9_e)
/-- MiceRegistersModel.eatsOf -/
def mbh33 : aw_H := [(81, mbx0), (85, .inr (.inl (0, 4, [], []))), (86, .inr (.inl (0, 4, [], [])))]
def mbc10 : ak_C := (142, [.inl 81, .inr (false, [(0, 3)])], mbh33, [], [([], some (.inr (false, ar_t32)), [])])
theorem mbk10 : ai_chk [] mbc10 (fun pc => sm_ch sm_t142 pc, sm_Kn 3 2 none, fun x => sm_lk sm_ca3 x, some .int) [] 2 0 [] [] 2000 [] = true := by decide +kernel
def mbh34 : aw_H := [(82, ms_r [(0, [(0, 40)]), (12, ar_t32)])]
/-- MiceRegistersModel.passes -/
def mbh35 : aw_H := [(81, mbx0), (82, ms_r [(0, [(0, 40)])]), (83, .inr (.inl (0, 8, [], []))), (85, .inr (.inl (0, 4, [], []))), (86, .inr (.inl (0, 4, [], [])))]
def mbc11 : ak_C := (150, [.inl 81, .inr (false, [(0, 0)]), .inr (false, ar_t32)], mbh35, [82], [([], some (.inr (false, ar_t32)), mbh34)])
def mbx36 : aw_A := ms_o [(1, 8)] [(2, 4)] ar_t32 ar_t32 [(0, 180)] [(0, 60)] [(-1, 60)] [(0, 8)] [(0, 4)]
def mbh37 : aw_H := [(81, mbx36), (82, ms_r [(0, [(0, 40)])]), (83, .inr (.inl (0, 8, [], []))), (85, .inr (.inl (0, 4, [], []))), (86, .inr (.inl (0, 4, [], [])))]
def mbx38 : aw_A := ms_o [(1, 8)] [(3, 4)] ar_t32 ar_t32 [(0, 180)] [(0, 60)] [(-1, 60)] [(0, 8)] [(0, 4)]
def mbh39 : aw_H := [(81, mbx38), (82, ms_r [(0, [(0, 40)])]), (83, .inr (.inl (0, 8, [], []))), (85, .inr (.inl (0, 4, [], []))), (86, .inr (.inl (0, 4, [], [])))]
def mbx40 : aw_A := ms_o [(1, 8)] [(4, 4)] ar_t32 ar_t32 [(0, 180)] [(0, 60)] [(-1, 60)] [(0, 8)] [(0, 4)]
def mbh41 : aw_H := [(81, mbx40), (82, ms_r [(0, [(0, 40)])]), (83, .inr (.inl (0, 8, [], []))), (85, .inr (.inl (0, 4, [], []))), (86, .inr (.inl (0, 4, [], [])))]
def mbh42 : aw_H := [(81, mbx0), (82, ms_r [(12, ar_t32), (0, [(0, 40)])]), (83, .inr (.inl (0, 8, [], []))), (85, .inr (.inl (0, 4, [], []))), (86, .inr (.inl (0, 4, [], [])))]
def mbx43 : aw_A := ms_r [(13, ar_t32), (12, ar_t32), (0, [(0, 40)])]
def mbh44 : aw_H := [(81, mbx12), (82, mbx43), (83, .inr (.inl (0, 8, [], []))), (85, .inr (.inl (0, 4, [], []))), (86, .inr (.inl (0, 4, [], [])))]
def mbx45 : aw_A := ms_r [(14, ar_t32), (13, ar_t32), (12, ar_t32), (0, [(0, 40)])]
def mbh46 : aw_H := [(81, mbx15), (82, mbx45), (83, .inr (.inl (0, 8, [], []))), (85, .inr (.inl (0, 4, [], []))), (86, .inr (.inl (0, 4, [], [])))]
def mbx47 : aw_A := ms_r [(15, ar_t32), (14, ar_t32), (13, ar_t32), (12, ar_t32), (0, [(0, 40)])]
def mbh48 : aw_H := [(81, mbx18), (82, mbx47), (83, .inr (.inl (0, 8, [], []))), (85, .inr (.inl (0, 4, [], []))), (86, .inr (.inl (0, 4, [], [])))]
def mbx49 : aw_A := ms_r [(16, ar_t32), (15, ar_t32), (14, ar_t32), (13, ar_t32), (12, ar_t32), (0, [(0, 40)])]
def mbh50 : aw_H := [(81, mbx21), (82, mbx49), (83, .inr (.inl (0, 8, [], []))), (85, .inr (.inl (0, 4, [], []))), (86, .inr (.inl (0, 4, [], [])))]
def mbx51 : aw_A := ms_r [(17, ar_t32), (16, ar_t32), (15, ar_t32), (14, ar_t32), (13, ar_t32), (12, ar_t32), (0, [(0, 40)])]
def mbh52 : aw_H := [(81, mbx24), (82, mbx51), (83, .inr (.inl (0, 8, [], []))), (85, .inr (.inl (0, 4, [], []))), (86, .inr (.inl (0, 4, [], [])))]
def mbx53 : aw_A := ms_r [(18, ar_t32), (17, ar_t32), (16, ar_t32), (15, ar_t32), (14, ar_t32), (13, ar_t32), (12, ar_t32), (0, [(0, 40)])]
def mbh54 : aw_H := [(81, mbx27), (82, mbx53), (83, .inr (.inl (0, 8, [], []))), (85, .inr (.inl (0, 4, [], []))), (86, .inr (.inl (0, 4, [], [])))]
def mbx55 : aw_A := ms_r [(19, ar_t32), (18, ar_t32), (17, ar_t32), (16, ar_t32), (15, ar_t32), (14, ar_t32), (13, ar_t32), (12, ar_t32), (0, [(0, 40)])]
def mbh56 : aw_H := [(81, mbx30), (82, mbx55), (83, .inr (.inl (0, 8, [], []))), (85, .inr (.inl (0, 4, [], []))), (86, .inr (.inl (0, 4, [], [])))]
theorem mbk11 : ai_chk [mbc5, mbc9, mbc10] mbc11 (fun pc => sm_ch sm_t150 pc, sm_Kn 3 7 none, fun x => sm_lk sm_ca3 x, some .int) [82] 7 0 [5, 130] [] 2000 [(5, [(0, .inl 81), (1, .inr (false, [(0, 0)])), (2, .inr (false, ar_t32)), (3, .inr (false, [(0, 0)])), (4, .inr (false, [(0, 0)]))], [], mbh35),
  (5, [(0, .inl 81), (1, .inr (false, [(0, 0)])), (2, .inr (false, ar_t32)), (3, .inr (false, ar_t32)), (4, .inr (false, [(1, 1)])), (5, .inr (false, [(-9, -9), (0, 7)]))], [], mbh35),
  (5, [(0, .inl 81), (1, .inr (false, [(0, 0)])), (2, .inr (false, ar_t32)), (3, .inr (false, ar_t32)), (4, .inr (false, [(2, 2)])), (5, .inr (false, [(-9, -9), (0, 7)]))], [], mbh37),
  (5, [(0, .inl 81), (1, .inr (false, [(0, 0)])), (2, .inr (false, ar_t32)), (3, .inr (false, ar_t32)), (4, .inr (false, [(3, 3)])), (5, .inr (false, [(-9, -9), (0, 7)]))], [], mbh39),
  (5, [(0, .inl 81), (1, .inr (false, [(0, 0)])), (2, .inr (false, ar_t32)), (3, .inr (false, ar_t32)), (4, .inr (false, [(4, 4)])), (5, .inr (false, [(-9, -9), (0, 7)]))], [], mbh41),
  (130, [(0, .inl 81), (1, .inr (false, [(0, 0)])), (2, .inr (false, ar_t32)), (3, .inr (false, ar_t32)), (4, .inr (false, [(0, 0)])), (5, .inr (false, [(-9, -9), (0, 7)]))], [], mbh35),
  (130, [(0, .inl 81), (1, .inr (false, [(0, 0)])), (2, .inr (false, ar_t32)), (3, .inr (false, ar_t32)), (4, .inr (false, [(1, 1)])), (5, .inr (false, [(-9, -9), (0, 7)]))], [], mbh42),
  (130, [(0, .inl 81), (1, .inr (false, [(0, 0)])), (2, .inr (false, ar_t32)), (3, .inr (false, ar_t32)), (4, .inr (false, [(2, 2)])), (5, .inr (false, [(-9, -9), (0, 7)]))], [], mbh44),
  (130, [(0, .inl 81), (1, .inr (false, [(0, 0)])), (2, .inr (false, ar_t32)), (3, .inr (false, ar_t32)), (4, .inr (false, [(3, 3)])), (5, .inr (false, [(-9, -9), (0, 7)]))], [], mbh46),
  (130, [(0, .inl 81), (1, .inr (false, [(0, 0)])), (2, .inr (false, ar_t32)), (3, .inr (false, ar_t32)), (4, .inr (false, [(4, 4)])), (5, .inr (false, [(-9, -9), (0, 7)]))], [], mbh48),
  (130, [(0, .inl 81), (1, .inr (false, [(0, 0)])), (2, .inr (false, ar_t32)), (3, .inr (false, ar_t32)), (4, .inr (false, [(5, 5)])), (5, .inr (false, [(-9, -9), (0, 7)]))], [], mbh50),
  (130, [(0, .inl 81), (1, .inr (false, [(0, 0)])), (2, .inr (false, ar_t32)), (3, .inr (false, ar_t32)), (4, .inr (false, [(6, 6)])), (5, .inr (false, [(-9, -9), (0, 7)]))], [], mbh52),
  (130, [(0, .inl 81), (1, .inr (false, [(0, 0)])), (2, .inr (false, ar_t32)), (3, .inr (false, ar_t32)), (4, .inr (false, [(7, 7)])), (5, .inr (false, [(-9, -9), (0, 7)]))], [], mbh54),
  (130, [(0, .inl 81), (1, .inr (false, [(0, 0)])), (2, .inr (false, ar_t32)), (3, .inr (false, ar_t32)), (4, .inr (false, [(8, 8)])), (5, .inr (false, [(-9, -9), (0, 7)]))], [], mbh56)] = true := by decide +kernel
/-- MiceRegistersModel.byLot -/
def mbc12 : ak_C := (189, [.inl 81, .inr (true, [(0, 2147483646)])], mbh35, [82], [([], none, mbh7)])
theorem mbk12 : ai_chk [mbc11] mbc12 (fun pc => sm_ch sm_t189 pc, sm_Kn 3 6 none, fun x => sm_lk sm_ca3 x, none) [82] 6 0 [] [] 2000 [] = true := by decide +kernel
/-- MiceRegistersModel.leftIn -/
def mbc13 : ak_C := (168, [.inl 81, .inr (false, [(0, 0)])], mbh9, [], [([], some (.inr (false, ar_t32)), [])])
def mbh57 : aw_H := [(81, mbx12), (82, ms_r [(0, [(-1, 40)])])]
def mbh58 : aw_H := [(81, mbx15), (82, ms_r [(0, [(-1, 40)])])]
def mbh59 : aw_H := [(81, mbx18), (82, ms_r [(0, [(-1, 40)])])]
def mbh60 : aw_H := [(81, mbx21), (82, ms_r [(0, [(-1, 40)])])]
def mbh61 : aw_H := [(81, mbx24), (82, ms_r [(0, [(-1, 40)])])]
def mbh62 : aw_H := [(81, mbx27), (82, ms_r [(0, [(-1, 40)])])]
def mbh63 : aw_H := [(81, mbx30), (82, ms_r [(0, [(-1, 40)])])]
theorem mbk13 : ai_chk [] mbc13 (fun pc => sm_ch sm_t168 pc, sm_Kn 3 4 none, fun x => sm_lk sm_ca3 x, some .int) [] 4 0 [4] [] 2000 [(4, [(0, .inl 81), (1, .inr (false, [(0, 0)])), (2, .inr (false, [(0, 0)])), (3, .inr (false, [(0, 0)]))], [], mbh9),
  (4, [(0, .inl 81), (1, .inr (false, [(0, 0)])), (2, .inr (false, ar_t32)), (3, .inr (false, [(1, 1)]))], [], mbh9),
  (4, [(0, .inl 81), (1, .inr (false, [(0, 0)])), (2, .inr (false, ar_t32)), (3, .inr (false, [(2, 2)]))], [], mbh57),
  (4, [(0, .inl 81), (1, .inr (false, [(0, 0)])), (2, .inr (false, ar_t32)), (3, .inr (false, [(3, 3)]))], [], mbh58),
  (4, [(0, .inl 81), (1, .inr (false, [(0, 0)])), (2, .inr (false, ar_t32)), (3, .inr (false, [(4, 4)]))], [], mbh59),
  (4, [(0, .inl 81), (1, .inr (false, [(0, 0)])), (2, .inr (false, ar_t32)), (3, .inr (false, [(5, 5)]))], [], mbh60),
  (4, [(0, .inl 81), (1, .inr (false, [(0, 0)])), (2, .inr (false, ar_t32)), (3, .inr (false, [(6, 6)]))], [], mbh61),
  (4, [(0, .inl 81), (1, .inr (false, [(0, 0)])), (2, .inr (false, ar_t32)), (3, .inr (false, [(7, 7)]))], [], mbh62),
  (4, [(0, .inl 81), (1, .inr (false, [(0, 0)])), (2, .inr (false, ar_t32)), (3, .inr (false, [(8, 8)]))], [], mbh63)] = true := by decide +kernel
def mbh64 : aw_H := [(82, ms_r [(0, [(0, 39)])])]
/-- MiceRegistersModel.keepPast -/
def mbh65 : aw_H := [(81, mbx0), (82, ms_r [(0, [(-1, 38)])])]
def mbc14 : ak_C := (149, [.inl 81], mbh65, [82], [([], none, mbh64)])
def mbh66 : aw_H := [(82, ms_r [(0, [(0, 39)]), (12, ar_t32)])]
/-- MiceRegistersModel.passes -/
def mbh67 : aw_H := [(81, mbx0), (82, ms_r [(0, [(0, 39)])]), (83, .inr (.inl (0, 8, [], []))), (85, .inr (.inl (0, 4, [], []))), (86, .inr (.inl (0, 4, [], [])))]
def mbc15 : ak_C := (150, [.inl 81, .inr (false, [(0, 0)]), .inr (false, ar_t32)], mbh67, [82], [([], some (.inr (false, ar_t32)), mbh66)])
def mbh68 : aw_H := [(81, mbx36), (82, ms_r [(0, [(0, 39)])]), (83, .inr (.inl (0, 8, [], []))), (85, .inr (.inl (0, 4, [], []))), (86, .inr (.inl (0, 4, [], [])))]
def mbh69 : aw_H := [(81, mbx38), (82, ms_r [(0, [(0, 39)])]), (83, .inr (.inl (0, 8, [], []))), (85, .inr (.inl (0, 4, [], []))), (86, .inr (.inl (0, 4, [], [])))]
def mbh70 : aw_H := [(81, mbx40), (82, ms_r [(0, [(0, 39)])]), (83, .inr (.inl (0, 8, [], []))), (85, .inr (.inl (0, 4, [], []))), (86, .inr (.inl (0, 4, [], [])))]
def mbh71 : aw_H := [(81, mbx0), (82, ms_r [(12, ar_t32), (0, [(0, 39)])]), (83, .inr (.inl (0, 8, [], []))), (85, .inr (.inl (0, 4, [], []))), (86, .inr (.inl (0, 4, [], [])))]
def mbx72 : aw_A := ms_r [(13, ar_t32), (12, ar_t32), (0, [(0, 39)])]
def mbh73 : aw_H := [(81, mbx12), (82, mbx72), (83, .inr (.inl (0, 8, [], []))), (85, .inr (.inl (0, 4, [], []))), (86, .inr (.inl (0, 4, [], [])))]
def mbx74 : aw_A := ms_r [(14, ar_t32), (13, ar_t32), (12, ar_t32), (0, [(0, 39)])]
def mbh75 : aw_H := [(81, mbx15), (82, mbx74), (83, .inr (.inl (0, 8, [], []))), (85, .inr (.inl (0, 4, [], []))), (86, .inr (.inl (0, 4, [], [])))]
def mbx76 : aw_A := ms_r [(15, ar_t32), (14, ar_t32), (13, ar_t32), (12, ar_t32), (0, [(0, 39)])]
def mbh77 : aw_H := [(81, mbx18), (82, mbx76), (83, .inr (.inl (0, 8, [], []))), (85, .inr (.inl (0, 4, [], []))), (86, .inr (.inl (0, 4, [], [])))]
def mbx78 : aw_A := ms_r [(16, ar_t32), (15, ar_t32), (14, ar_t32), (13, ar_t32), (12, ar_t32), (0, [(0, 39)])]
def mbh79 : aw_H := [(81, mbx21), (82, mbx78), (83, .inr (.inl (0, 8, [], []))), (85, .inr (.inl (0, 4, [], []))), (86, .inr (.inl (0, 4, [], [])))]
def mbx80 : aw_A := ms_r [(17, ar_t32), (16, ar_t32), (15, ar_t32), (14, ar_t32), (13, ar_t32), (12, ar_t32), (0, [(0, 39)])]
def mbh81 : aw_H := [(81, mbx24), (82, mbx80), (83, .inr (.inl (0, 8, [], []))), (85, .inr (.inl (0, 4, [], []))), (86, .inr (.inl (0, 4, [], [])))]
def mbx82 : aw_A := ms_r [(18, ar_t32), (17, ar_t32), (16, ar_t32), (15, ar_t32), (14, ar_t32), (13, ar_t32), (12, ar_t32), (0, [(0, 39)])]
def mbh83 : aw_H := [(81, mbx27), (82, mbx82), (83, .inr (.inl (0, 8, [], []))), (85, .inr (.inl (0, 4, [], []))), (86, .inr (.inl (0, 4, [], [])))]
def mbx84 : aw_A := ms_r [(19, ar_t32), (18, ar_t32), (17, ar_t32), (16, ar_t32), (15, ar_t32), (14, ar_t32), (13, ar_t32), (12, ar_t32), (0, [(0, 39)])]
def mbh85 : aw_H := [(81, mbx30), (82, mbx84), (83, .inr (.inl (0, 8, [], []))), (85, .inr (.inl (0, 4, [], []))), (86, .inr (.inl (0, 4, [], [])))]
theorem mbk15 : ai_chk [mbc5, mbc9, mbc10] mbc15 (fun pc => sm_ch sm_t150 pc, sm_Kn 3 7 none, fun x => sm_lk sm_ca3 x, some .int) [82] 7 0 [5, 130] [] 2000 [(5, [(0, .inl 81), (1, .inr (false, [(0, 0)])), (2, .inr (false, ar_t32)), (3, .inr (false, [(0, 0)])), (4, .inr (false, [(0, 0)]))], [], mbh67),
  (5, [(0, .inl 81), (1, .inr (false, [(0, 0)])), (2, .inr (false, ar_t32)), (3, .inr (false, ar_t32)), (4, .inr (false, [(1, 1)])), (5, .inr (false, [(-9, -9), (0, 7)]))], [], mbh67),
  (5, [(0, .inl 81), (1, .inr (false, [(0, 0)])), (2, .inr (false, ar_t32)), (3, .inr (false, ar_t32)), (4, .inr (false, [(2, 2)])), (5, .inr (false, [(-9, -9), (0, 7)]))], [], mbh68),
  (5, [(0, .inl 81), (1, .inr (false, [(0, 0)])), (2, .inr (false, ar_t32)), (3, .inr (false, ar_t32)), (4, .inr (false, [(3, 3)])), (5, .inr (false, [(-9, -9), (0, 7)]))], [], mbh69),
  (5, [(0, .inl 81), (1, .inr (false, [(0, 0)])), (2, .inr (false, ar_t32)), (3, .inr (false, ar_t32)), (4, .inr (false, [(4, 4)])), (5, .inr (false, [(-9, -9), (0, 7)]))], [], mbh70),
  (130, [(0, .inl 81), (1, .inr (false, [(0, 0)])), (2, .inr (false, ar_t32)), (3, .inr (false, ar_t32)), (4, .inr (false, [(0, 0)])), (5, .inr (false, [(-9, -9), (0, 7)]))], [], mbh67),
  (130, [(0, .inl 81), (1, .inr (false, [(0, 0)])), (2, .inr (false, ar_t32)), (3, .inr (false, ar_t32)), (4, .inr (false, [(1, 1)])), (5, .inr (false, [(-9, -9), (0, 7)]))], [], mbh71),
  (130, [(0, .inl 81), (1, .inr (false, [(0, 0)])), (2, .inr (false, ar_t32)), (3, .inr (false, ar_t32)), (4, .inr (false, [(2, 2)])), (5, .inr (false, [(-9, -9), (0, 7)]))], [], mbh73),
  (130, [(0, .inl 81), (1, .inr (false, [(0, 0)])), (2, .inr (false, ar_t32)), (3, .inr (false, ar_t32)), (4, .inr (false, [(3, 3)])), (5, .inr (false, [(-9, -9), (0, 7)]))], [], mbh75),
  (130, [(0, .inl 81), (1, .inr (false, [(0, 0)])), (2, .inr (false, ar_t32)), (3, .inr (false, ar_t32)), (4, .inr (false, [(4, 4)])), (5, .inr (false, [(-9, -9), (0, 7)]))], [], mbh77),
  (130, [(0, .inl 81), (1, .inr (false, [(0, 0)])), (2, .inr (false, ar_t32)), (3, .inr (false, ar_t32)), (4, .inr (false, [(5, 5)])), (5, .inr (false, [(-9, -9), (0, 7)]))], [], mbh79),
  (130, [(0, .inl 81), (1, .inr (false, [(0, 0)])), (2, .inr (false, ar_t32)), (3, .inr (false, ar_t32)), (4, .inr (false, [(6, 6)])), (5, .inr (false, [(-9, -9), (0, 7)]))], [], mbh81),
  (130, [(0, .inl 81), (1, .inr (false, [(0, 0)])), (2, .inr (false, ar_t32)), (3, .inr (false, ar_t32)), (4, .inr (false, [(7, 7)])), (5, .inr (false, [(-9, -9), (0, 7)]))], [], mbh83),
  (130, [(0, .inl 81), (1, .inr (false, [(0, 0)])), (2, .inr (false, ar_t32)), (3, .inr (false, ar_t32)), (4, .inr (false, [(8, 8)])), (5, .inr (false, [(-9, -9), (0, 7)]))], [], mbh85)] = true := by decide +kernel
/-- MiceRegistersModel.byLot -/
def mbc16 : ak_C := (189, [.inl 81, .inr (true, [(0, 2147483646)])], mbh67, [82], [([], none, mbh64)])
theorem mbk16 : ai_chk [mbc15] mbc16 (fun pc => sm_ch sm_t189 pc, sm_Kn 3 6 none, fun x => sm_lk sm_ca3 x, none) [82] 6 0 [] [] 2000 [] = true := by decide +kernel
def mbh86 : aw_H := [(82, ms_r [(0, [(0, 38)])])]
/-- MiceRegistersModel.keepPast -/
def mbh87 : aw_H := [(81, mbx0), (82, ms_r [(0, [(-1, 37)])])]
def mbc17 : ak_C := (149, [.inl 81], mbh87, [82], [([], none, mbh86)])
def mbh88 : aw_H := [(82, ms_r [(0, [(0, 38)]), (12, ar_t32)])]
/-- MiceRegistersModel.passes -/
def mbh89 : aw_H := [(81, mbx0), (82, ms_r [(0, [(0, 38)])]), (83, .inr (.inl (0, 8, [], []))), (85, .inr (.inl (0, 4, [], []))), (86, .inr (.inl (0, 4, [], [])))]
def mbc18 : ak_C := (150, [.inl 81, .inr (false, [(0, 0)]), .inr (false, ar_t32)], mbh89, [82], [([], some (.inr (false, ar_t32)), mbh88)])
def mbh90 : aw_H := [(81, mbx36), (82, ms_r [(0, [(0, 38)])]), (83, .inr (.inl (0, 8, [], []))), (85, .inr (.inl (0, 4, [], []))), (86, .inr (.inl (0, 4, [], [])))]
def mbh91 : aw_H := [(81, mbx38), (82, ms_r [(0, [(0, 38)])]), (83, .inr (.inl (0, 8, [], []))), (85, .inr (.inl (0, 4, [], []))), (86, .inr (.inl (0, 4, [], [])))]
def mbh92 : aw_H := [(81, mbx40), (82, ms_r [(0, [(0, 38)])]), (83, .inr (.inl (0, 8, [], []))), (85, .inr (.inl (0, 4, [], []))), (86, .inr (.inl (0, 4, [], [])))]
def mbh93 : aw_H := [(81, mbx0), (82, ms_r [(12, ar_t32), (0, [(0, 38)])]), (83, .inr (.inl (0, 8, [], []))), (85, .inr (.inl (0, 4, [], []))), (86, .inr (.inl (0, 4, [], [])))]
def mbx94 : aw_A := ms_r [(13, ar_t32), (12, ar_t32), (0, [(0, 38)])]
def mbh95 : aw_H := [(81, mbx12), (82, mbx94), (83, .inr (.inl (0, 8, [], []))), (85, .inr (.inl (0, 4, [], []))), (86, .inr (.inl (0, 4, [], [])))]
def mbx96 : aw_A := ms_r [(14, ar_t32), (13, ar_t32), (12, ar_t32), (0, [(0, 38)])]
def mbh97 : aw_H := [(81, mbx15), (82, mbx96), (83, .inr (.inl (0, 8, [], []))), (85, .inr (.inl (0, 4, [], []))), (86, .inr (.inl (0, 4, [], [])))]
def mbx98 : aw_A := ms_r [(15, ar_t32), (14, ar_t32), (13, ar_t32), (12, ar_t32), (0, [(0, 38)])]
def mbh99 : aw_H := [(81, mbx18), (82, mbx98), (83, .inr (.inl (0, 8, [], []))), (85, .inr (.inl (0, 4, [], []))), (86, .inr (.inl (0, 4, [], [])))]
def mbx100 : aw_A := ms_r [(16, ar_t32), (15, ar_t32), (14, ar_t32), (13, ar_t32), (12, ar_t32), (0, [(0, 38)])]
def mbh101 : aw_H := [(81, mbx21), (82, mbx100), (83, .inr (.inl (0, 8, [], []))), (85, .inr (.inl (0, 4, [], []))), (86, .inr (.inl (0, 4, [], [])))]
def mbx102 : aw_A := ms_r [(17, ar_t32), (16, ar_t32), (15, ar_t32), (14, ar_t32), (13, ar_t32), (12, ar_t32), (0, [(0, 38)])]
def mbh103 : aw_H := [(81, mbx24), (82, mbx102), (83, .inr (.inl (0, 8, [], []))), (85, .inr (.inl (0, 4, [], []))), (86, .inr (.inl (0, 4, [], [])))]
def mbx104 : aw_A := ms_r [(18, ar_t32), (17, ar_t32), (16, ar_t32), (15, ar_t32), (14, ar_t32), (13, ar_t32), (12, ar_t32), (0, [(0, 38)])]
def mbh105 : aw_H := [(81, mbx27), (82, mbx104), (83, .inr (.inl (0, 8, [], []))), (85, .inr (.inl (0, 4, [], []))), (86, .inr (.inl (0, 4, [], [])))]
def mbx106 : aw_A := ms_r [(19, ar_t32), (18, ar_t32), (17, ar_t32), (16, ar_t32), (15, ar_t32), (14, ar_t32), (13, ar_t32), (12, ar_t32), (0, [(0, 38)])]
def mbh107 : aw_H := [(81, mbx30), (82, mbx106), (83, .inr (.inl (0, 8, [], []))), (85, .inr (.inl (0, 4, [], []))), (86, .inr (.inl (0, 4, [], [])))]
theorem mbk18 : ai_chk [mbc5, mbc9, mbc10] mbc18 (fun pc => sm_ch sm_t150 pc, sm_Kn 3 7 none, fun x => sm_lk sm_ca3 x, some .int) [82] 7 0 [5, 130] [] 2000 [(5, [(0, .inl 81), (1, .inr (false, [(0, 0)])), (2, .inr (false, ar_t32)), (3, .inr (false, [(0, 0)])), (4, .inr (false, [(0, 0)]))], [], mbh89),
  (5, [(0, .inl 81), (1, .inr (false, [(0, 0)])), (2, .inr (false, ar_t32)), (3, .inr (false, ar_t32)), (4, .inr (false, [(1, 1)])), (5, .inr (false, [(-9, -9), (0, 7)]))], [], mbh89),
  (5, [(0, .inl 81), (1, .inr (false, [(0, 0)])), (2, .inr (false, ar_t32)), (3, .inr (false, ar_t32)), (4, .inr (false, [(2, 2)])), (5, .inr (false, [(-9, -9), (0, 7)]))], [], mbh90),
  (5, [(0, .inl 81), (1, .inr (false, [(0, 0)])), (2, .inr (false, ar_t32)), (3, .inr (false, ar_t32)), (4, .inr (false, [(3, 3)])), (5, .inr (false, [(-9, -9), (0, 7)]))], [], mbh91),
  (5, [(0, .inl 81), (1, .inr (false, [(0, 0)])), (2, .inr (false, ar_t32)), (3, .inr (false, ar_t32)), (4, .inr (false, [(4, 4)])), (5, .inr (false, [(-9, -9), (0, 7)]))], [], mbh92),
  (130, [(0, .inl 81), (1, .inr (false, [(0, 0)])), (2, .inr (false, ar_t32)), (3, .inr (false, ar_t32)), (4, .inr (false, [(0, 0)])), (5, .inr (false, [(-9, -9), (0, 7)]))], [], mbh89),
  (130, [(0, .inl 81), (1, .inr (false, [(0, 0)])), (2, .inr (false, ar_t32)), (3, .inr (false, ar_t32)), (4, .inr (false, [(1, 1)])), (5, .inr (false, [(-9, -9), (0, 7)]))], [], mbh93),
  (130, [(0, .inl 81), (1, .inr (false, [(0, 0)])), (2, .inr (false, ar_t32)), (3, .inr (false, ar_t32)), (4, .inr (false, [(2, 2)])), (5, .inr (false, [(-9, -9), (0, 7)]))], [], mbh95),
  (130, [(0, .inl 81), (1, .inr (false, [(0, 0)])), (2, .inr (false, ar_t32)), (3, .inr (false, ar_t32)), (4, .inr (false, [(3, 3)])), (5, .inr (false, [(-9, -9), (0, 7)]))], [], mbh97),
  (130, [(0, .inl 81), (1, .inr (false, [(0, 0)])), (2, .inr (false, ar_t32)), (3, .inr (false, ar_t32)), (4, .inr (false, [(4, 4)])), (5, .inr (false, [(-9, -9), (0, 7)]))], [], mbh99),
  (130, [(0, .inl 81), (1, .inr (false, [(0, 0)])), (2, .inr (false, ar_t32)), (3, .inr (false, ar_t32)), (4, .inr (false, [(5, 5)])), (5, .inr (false, [(-9, -9), (0, 7)]))], [], mbh101),
  (130, [(0, .inl 81), (1, .inr (false, [(0, 0)])), (2, .inr (false, ar_t32)), (3, .inr (false, ar_t32)), (4, .inr (false, [(6, 6)])), (5, .inr (false, [(-9, -9), (0, 7)]))], [], mbh103),
  (130, [(0, .inl 81), (1, .inr (false, [(0, 0)])), (2, .inr (false, ar_t32)), (3, .inr (false, ar_t32)), (4, .inr (false, [(7, 7)])), (5, .inr (false, [(-9, -9), (0, 7)]))], [], mbh105),
  (130, [(0, .inl 81), (1, .inr (false, [(0, 0)])), (2, .inr (false, ar_t32)), (3, .inr (false, ar_t32)), (4, .inr (false, [(8, 8)])), (5, .inr (false, [(-9, -9), (0, 7)]))], [], mbh107)] = true := by decide +kernel
/-- MiceRegistersModel.byLot -/
def mbc19 : ak_C := (189, [.inl 81, .inr (true, [(0, 2147483646)])], mbh89, [82], [([], none, mbh86)])
theorem mbk19 : ai_chk [mbc18] mbc19 (fun pc => sm_ch sm_t189 pc, sm_Kn 3 6 none, fun x => sm_lk sm_ca3 x, none) [82] 6 0 [] [] 2000 [] = true := by decide +kernel
def mbh108 : aw_H := [(82, ms_r [(0, [(0, 37)])])]
/-- MiceRegistersModel.keepPast -/
def mbh109 : aw_H := [(81, mbx0), (82, ms_r [(0, [(-1, 36)])])]
def mbc20 : ak_C := (149, [.inl 81], mbh109, [82], [([], none, mbh108)])
def mbh110 : aw_H := [(82, ms_r [(0, [(0, 37)]), (12, ar_t32)])]
/-- MiceRegistersModel.passes -/
def mbh111 : aw_H := [(81, mbx0), (82, ms_r [(0, [(0, 37)])]), (83, .inr (.inl (0, 8, [], []))), (85, .inr (.inl (0, 4, [], []))), (86, .inr (.inl (0, 4, [], [])))]
def mbc21 : ak_C := (150, [.inl 81, .inr (false, [(0, 0)]), .inr (false, ar_t32)], mbh111, [82], [([], some (.inr (false, ar_t32)), mbh110)])
def mbh112 : aw_H := [(81, mbx36), (82, ms_r [(0, [(0, 37)])]), (83, .inr (.inl (0, 8, [], []))), (85, .inr (.inl (0, 4, [], []))), (86, .inr (.inl (0, 4, [], [])))]
def mbh113 : aw_H := [(81, mbx38), (82, ms_r [(0, [(0, 37)])]), (83, .inr (.inl (0, 8, [], []))), (85, .inr (.inl (0, 4, [], []))), (86, .inr (.inl (0, 4, [], [])))]
def mbh114 : aw_H := [(81, mbx40), (82, ms_r [(0, [(0, 37)])]), (83, .inr (.inl (0, 8, [], []))), (85, .inr (.inl (0, 4, [], []))), (86, .inr (.inl (0, 4, [], [])))]
def mbh115 : aw_H := [(81, mbx0), (82, ms_r [(12, ar_t32), (0, [(0, 37)])]), (83, .inr (.inl (0, 8, [], []))), (85, .inr (.inl (0, 4, [], []))), (86, .inr (.inl (0, 4, [], [])))]
def mbx116 : aw_A := ms_r [(13, ar_t32), (12, ar_t32), (0, [(0, 37)])]
def mbh117 : aw_H := [(81, mbx12), (82, mbx116), (83, .inr (.inl (0, 8, [], []))), (85, .inr (.inl (0, 4, [], []))), (86, .inr (.inl (0, 4, [], [])))]
def mbx118 : aw_A := ms_r [(14, ar_t32), (13, ar_t32), (12, ar_t32), (0, [(0, 37)])]
def mbh119 : aw_H := [(81, mbx15), (82, mbx118), (83, .inr (.inl (0, 8, [], []))), (85, .inr (.inl (0, 4, [], []))), (86, .inr (.inl (0, 4, [], [])))]
def mbx120 : aw_A := ms_r [(15, ar_t32), (14, ar_t32), (13, ar_t32), (12, ar_t32), (0, [(0, 37)])]
def mbh121 : aw_H := [(81, mbx18), (82, mbx120), (83, .inr (.inl (0, 8, [], []))), (85, .inr (.inl (0, 4, [], []))), (86, .inr (.inl (0, 4, [], [])))]
def mbx122 : aw_A := ms_r [(16, ar_t32), (15, ar_t32), (14, ar_t32), (13, ar_t32), (12, ar_t32), (0, [(0, 37)])]
def mbh123 : aw_H := [(81, mbx21), (82, mbx122), (83, .inr (.inl (0, 8, [], []))), (85, .inr (.inl (0, 4, [], []))), (86, .inr (.inl (0, 4, [], [])))]
def mbx124 : aw_A := ms_r [(17, ar_t32), (16, ar_t32), (15, ar_t32), (14, ar_t32), (13, ar_t32), (12, ar_t32), (0, [(0, 37)])]
def mbh125 : aw_H := [(81, mbx24), (82, mbx124), (83, .inr (.inl (0, 8, [], []))), (85, .inr (.inl (0, 4, [], []))), (86, .inr (.inl (0, 4, [], [])))]
def mbx126 : aw_A := ms_r [(18, ar_t32), (17, ar_t32), (16, ar_t32), (15, ar_t32), (14, ar_t32), (13, ar_t32), (12, ar_t32), (0, [(0, 37)])]
def mbh127 : aw_H := [(81, mbx27), (82, mbx126), (83, .inr (.inl (0, 8, [], []))), (85, .inr (.inl (0, 4, [], []))), (86, .inr (.inl (0, 4, [], [])))]
def mbx128 : aw_A := ms_r [(19, ar_t32), (18, ar_t32), (17, ar_t32), (16, ar_t32), (15, ar_t32), (14, ar_t32), (13, ar_t32), (12, ar_t32), (0, [(0, 37)])]
def mbh129 : aw_H := [(81, mbx30), (82, mbx128), (83, .inr (.inl (0, 8, [], []))), (85, .inr (.inl (0, 4, [], []))), (86, .inr (.inl (0, 4, [], [])))]
theorem mbk21 : ai_chk [mbc5, mbc9, mbc10] mbc21 (fun pc => sm_ch sm_t150 pc, sm_Kn 3 7 none, fun x => sm_lk sm_ca3 x, some .int) [82] 7 0 [5, 130] [] 2000 [(5, [(0, .inl 81), (1, .inr (false, [(0, 0)])), (2, .inr (false, ar_t32)), (3, .inr (false, [(0, 0)])), (4, .inr (false, [(0, 0)]))], [], mbh111),
  (5, [(0, .inl 81), (1, .inr (false, [(0, 0)])), (2, .inr (false, ar_t32)), (3, .inr (false, ar_t32)), (4, .inr (false, [(1, 1)])), (5, .inr (false, [(-9, -9), (0, 7)]))], [], mbh111),
  (5, [(0, .inl 81), (1, .inr (false, [(0, 0)])), (2, .inr (false, ar_t32)), (3, .inr (false, ar_t32)), (4, .inr (false, [(2, 2)])), (5, .inr (false, [(-9, -9), (0, 7)]))], [], mbh112),
  (5, [(0, .inl 81), (1, .inr (false, [(0, 0)])), (2, .inr (false, ar_t32)), (3, .inr (false, ar_t32)), (4, .inr (false, [(3, 3)])), (5, .inr (false, [(-9, -9), (0, 7)]))], [], mbh113),
  (5, [(0, .inl 81), (1, .inr (false, [(0, 0)])), (2, .inr (false, ar_t32)), (3, .inr (false, ar_t32)), (4, .inr (false, [(4, 4)])), (5, .inr (false, [(-9, -9), (0, 7)]))], [], mbh114),
  (130, [(0, .inl 81), (1, .inr (false, [(0, 0)])), (2, .inr (false, ar_t32)), (3, .inr (false, ar_t32)), (4, .inr (false, [(0, 0)])), (5, .inr (false, [(-9, -9), (0, 7)]))], [], mbh111),
  (130, [(0, .inl 81), (1, .inr (false, [(0, 0)])), (2, .inr (false, ar_t32)), (3, .inr (false, ar_t32)), (4, .inr (false, [(1, 1)])), (5, .inr (false, [(-9, -9), (0, 7)]))], [], mbh115),
  (130, [(0, .inl 81), (1, .inr (false, [(0, 0)])), (2, .inr (false, ar_t32)), (3, .inr (false, ar_t32)), (4, .inr (false, [(2, 2)])), (5, .inr (false, [(-9, -9), (0, 7)]))], [], mbh117),
  (130, [(0, .inl 81), (1, .inr (false, [(0, 0)])), (2, .inr (false, ar_t32)), (3, .inr (false, ar_t32)), (4, .inr (false, [(3, 3)])), (5, .inr (false, [(-9, -9), (0, 7)]))], [], mbh119),
  (130, [(0, .inl 81), (1, .inr (false, [(0, 0)])), (2, .inr (false, ar_t32)), (3, .inr (false, ar_t32)), (4, .inr (false, [(4, 4)])), (5, .inr (false, [(-9, -9), (0, 7)]))], [], mbh121),
  (130, [(0, .inl 81), (1, .inr (false, [(0, 0)])), (2, .inr (false, ar_t32)), (3, .inr (false, ar_t32)), (4, .inr (false, [(5, 5)])), (5, .inr (false, [(-9, -9), (0, 7)]))], [], mbh123),
  (130, [(0, .inl 81), (1, .inr (false, [(0, 0)])), (2, .inr (false, ar_t32)), (3, .inr (false, ar_t32)), (4, .inr (false, [(6, 6)])), (5, .inr (false, [(-9, -9), (0, 7)]))], [], mbh125),
  (130, [(0, .inl 81), (1, .inr (false, [(0, 0)])), (2, .inr (false, ar_t32)), (3, .inr (false, ar_t32)), (4, .inr (false, [(7, 7)])), (5, .inr (false, [(-9, -9), (0, 7)]))], [], mbh127),
  (130, [(0, .inl 81), (1, .inr (false, [(0, 0)])), (2, .inr (false, ar_t32)), (3, .inr (false, ar_t32)), (4, .inr (false, [(8, 8)])), (5, .inr (false, [(-9, -9), (0, 7)]))], [], mbh129)] = true := by decide +kernel
/-- MiceRegistersModel.byLot -/
def mbc22 : ak_C := (189, [.inl 81, .inr (true, [(0, 2147483646)])], mbh111, [82], [([], none, mbh108)])
theorem mbk22 : ai_chk [mbc21] mbc22 (fun pc => sm_ch sm_t189 pc, sm_Kn 3 6 none, fun x => sm_lk sm_ca3 x, none) [82] 6 0 [] [] 2000 [] = true := by decide +kernel
def mbh130 : aw_H := [(82, ms_r [(0, [(0, 36)])])]
/-- MiceRegistersModel.keepPast -/
def mbh131 : aw_H := [(81, mbx0), (82, ms_r [(0, [(-1, 35)])])]
def mbc23 : ak_C := (149, [.inl 81], mbh131, [82], [([], none, mbh130)])
def mbh132 : aw_H := [(82, ms_r [(0, [(0, 36)]), (12, ar_t32)])]
/-- MiceRegistersModel.passes -/
def mbh133 : aw_H := [(81, mbx0), (82, ms_r [(0, [(0, 36)])]), (83, .inr (.inl (0, 8, [], []))), (85, .inr (.inl (0, 4, [], []))), (86, .inr (.inl (0, 4, [], [])))]
def mbc24 : ak_C := (150, [.inl 81, .inr (false, [(0, 0)]), .inr (false, ar_t32)], mbh133, [82], [([], some (.inr (false, ar_t32)), mbh132)])
def mbh134 : aw_H := [(81, mbx36), (82, ms_r [(0, [(0, 36)])]), (83, .inr (.inl (0, 8, [], []))), (85, .inr (.inl (0, 4, [], []))), (86, .inr (.inl (0, 4, [], [])))]
def mbh135 : aw_H := [(81, mbx38), (82, ms_r [(0, [(0, 36)])]), (83, .inr (.inl (0, 8, [], []))), (85, .inr (.inl (0, 4, [], []))), (86, .inr (.inl (0, 4, [], [])))]
def mbh136 : aw_H := [(81, mbx40), (82, ms_r [(0, [(0, 36)])]), (83, .inr (.inl (0, 8, [], []))), (85, .inr (.inl (0, 4, [], []))), (86, .inr (.inl (0, 4, [], [])))]
def mbh137 : aw_H := [(81, mbx0), (82, ms_r [(12, ar_t32), (0, [(0, 36)])]), (83, .inr (.inl (0, 8, [], []))), (85, .inr (.inl (0, 4, [], []))), (86, .inr (.inl (0, 4, [], [])))]
def mbx138 : aw_A := ms_r [(13, ar_t32), (12, ar_t32), (0, [(0, 36)])]
def mbh139 : aw_H := [(81, mbx12), (82, mbx138), (83, .inr (.inl (0, 8, [], []))), (85, .inr (.inl (0, 4, [], []))), (86, .inr (.inl (0, 4, [], [])))]
def mbx140 : aw_A := ms_r [(14, ar_t32), (13, ar_t32), (12, ar_t32), (0, [(0, 36)])]
def mbh141 : aw_H := [(81, mbx15), (82, mbx140), (83, .inr (.inl (0, 8, [], []))), (85, .inr (.inl (0, 4, [], []))), (86, .inr (.inl (0, 4, [], [])))]
def mbx142 : aw_A := ms_r [(15, ar_t32), (14, ar_t32), (13, ar_t32), (12, ar_t32), (0, [(0, 36)])]
def mbh143 : aw_H := [(81, mbx18), (82, mbx142), (83, .inr (.inl (0, 8, [], []))), (85, .inr (.inl (0, 4, [], []))), (86, .inr (.inl (0, 4, [], [])))]
def mbx144 : aw_A := ms_r [(16, ar_t32), (15, ar_t32), (14, ar_t32), (13, ar_t32), (12, ar_t32), (0, [(0, 36)])]
def mbh145 : aw_H := [(81, mbx21), (82, mbx144), (83, .inr (.inl (0, 8, [], []))), (85, .inr (.inl (0, 4, [], []))), (86, .inr (.inl (0, 4, [], [])))]
def mbx146 : aw_A := ms_r [(17, ar_t32), (16, ar_t32), (15, ar_t32), (14, ar_t32), (13, ar_t32), (12, ar_t32), (0, [(0, 36)])]
def mbh147 : aw_H := [(81, mbx24), (82, mbx146), (83, .inr (.inl (0, 8, [], []))), (85, .inr (.inl (0, 4, [], []))), (86, .inr (.inl (0, 4, [], [])))]
def mbx148 : aw_A := ms_r [(18, ar_t32), (17, ar_t32), (16, ar_t32), (15, ar_t32), (14, ar_t32), (13, ar_t32), (12, ar_t32), (0, [(0, 36)])]
def mbh149 : aw_H := [(81, mbx27), (82, mbx148), (83, .inr (.inl (0, 8, [], []))), (85, .inr (.inl (0, 4, [], []))), (86, .inr (.inl (0, 4, [], [])))]
def mbx150 : aw_A := ms_r [(19, ar_t32), (18, ar_t32), (17, ar_t32), (16, ar_t32), (15, ar_t32), (14, ar_t32), (13, ar_t32), (12, ar_t32), (0, [(0, 36)])]
def mbh151 : aw_H := [(81, mbx30), (82, mbx150), (83, .inr (.inl (0, 8, [], []))), (85, .inr (.inl (0, 4, [], []))), (86, .inr (.inl (0, 4, [], [])))]
theorem mbk24 : ai_chk [mbc5, mbc9, mbc10] mbc24 (fun pc => sm_ch sm_t150 pc, sm_Kn 3 7 none, fun x => sm_lk sm_ca3 x, some .int) [82] 7 0 [5, 130] [] 2000 [(5, [(0, .inl 81), (1, .inr (false, [(0, 0)])), (2, .inr (false, ar_t32)), (3, .inr (false, [(0, 0)])), (4, .inr (false, [(0, 0)]))], [], mbh133),
  (5, [(0, .inl 81), (1, .inr (false, [(0, 0)])), (2, .inr (false, ar_t32)), (3, .inr (false, ar_t32)), (4, .inr (false, [(1, 1)])), (5, .inr (false, [(-9, -9), (0, 7)]))], [], mbh133),
  (5, [(0, .inl 81), (1, .inr (false, [(0, 0)])), (2, .inr (false, ar_t32)), (3, .inr (false, ar_t32)), (4, .inr (false, [(2, 2)])), (5, .inr (false, [(-9, -9), (0, 7)]))], [], mbh134),
  (5, [(0, .inl 81), (1, .inr (false, [(0, 0)])), (2, .inr (false, ar_t32)), (3, .inr (false, ar_t32)), (4, .inr (false, [(3, 3)])), (5, .inr (false, [(-9, -9), (0, 7)]))], [], mbh135),
  (5, [(0, .inl 81), (1, .inr (false, [(0, 0)])), (2, .inr (false, ar_t32)), (3, .inr (false, ar_t32)), (4, .inr (false, [(4, 4)])), (5, .inr (false, [(-9, -9), (0, 7)]))], [], mbh136),
  (130, [(0, .inl 81), (1, .inr (false, [(0, 0)])), (2, .inr (false, ar_t32)), (3, .inr (false, ar_t32)), (4, .inr (false, [(0, 0)])), (5, .inr (false, [(-9, -9), (0, 7)]))], [], mbh133),
  (130, [(0, .inl 81), (1, .inr (false, [(0, 0)])), (2, .inr (false, ar_t32)), (3, .inr (false, ar_t32)), (4, .inr (false, [(1, 1)])), (5, .inr (false, [(-9, -9), (0, 7)]))], [], mbh137),
  (130, [(0, .inl 81), (1, .inr (false, [(0, 0)])), (2, .inr (false, ar_t32)), (3, .inr (false, ar_t32)), (4, .inr (false, [(2, 2)])), (5, .inr (false, [(-9, -9), (0, 7)]))], [], mbh139),
  (130, [(0, .inl 81), (1, .inr (false, [(0, 0)])), (2, .inr (false, ar_t32)), (3, .inr (false, ar_t32)), (4, .inr (false, [(3, 3)])), (5, .inr (false, [(-9, -9), (0, 7)]))], [], mbh141),
  (130, [(0, .inl 81), (1, .inr (false, [(0, 0)])), (2, .inr (false, ar_t32)), (3, .inr (false, ar_t32)), (4, .inr (false, [(4, 4)])), (5, .inr (false, [(-9, -9), (0, 7)]))], [], mbh143),
  (130, [(0, .inl 81), (1, .inr (false, [(0, 0)])), (2, .inr (false, ar_t32)), (3, .inr (false, ar_t32)), (4, .inr (false, [(5, 5)])), (5, .inr (false, [(-9, -9), (0, 7)]))], [], mbh145),
  (130, [(0, .inl 81), (1, .inr (false, [(0, 0)])), (2, .inr (false, ar_t32)), (3, .inr (false, ar_t32)), (4, .inr (false, [(6, 6)])), (5, .inr (false, [(-9, -9), (0, 7)]))], [], mbh147),
  (130, [(0, .inl 81), (1, .inr (false, [(0, 0)])), (2, .inr (false, ar_t32)), (3, .inr (false, ar_t32)), (4, .inr (false, [(7, 7)])), (5, .inr (false, [(-9, -9), (0, 7)]))], [], mbh149),
  (130, [(0, .inl 81), (1, .inr (false, [(0, 0)])), (2, .inr (false, ar_t32)), (3, .inr (false, ar_t32)), (4, .inr (false, [(8, 8)])), (5, .inr (false, [(-9, -9), (0, 7)]))], [], mbh151)] = true := by decide +kernel
