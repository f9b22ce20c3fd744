theorem m4k119 : ai_chk [m4c94, m4c95, m4c96, m4c97] m4c119 (fun pc => sm_ch sm_t185 pc, sm_Kn 3 6 none, fun x => sm_lk sm_ca3 x, some .long) [] 6 0 [5] [] 2000 [(5, [(0, .inl 81), (1, .inr (false, [(14, 14)])), (2, .inr (false, [(12, 12)])), (3, .inr (true, [(1, 1)])), (5, .inr (false, [(0, 0)]))], [], m4h1),
  (5, [(0, .inl 81), (1, .inr (false, [(14, 14)])), (2, .inr (false, [(12, 12)])), (3, .inr (true, [(0, 0)])), (5, .inr (false, [(1, 1)]))], [], m4h1),
  (5, [(0, .inl 81), (1, .inr (false, [(14, 14)])), (2, .inr (false, [(12, 12)])), (3, .inr (true, [(0, 0)])), (5, .inr (false, [(2, 2)]))], [], m4h1),
  (5, [(0, .inl 81), (1, .inr (false, [(14, 14)])), (2, .inr (false, [(12, 12)])), (3, .inr (true, [(0, 0)])), (5, .inr (false, [(3, 3)]))], [], m4h1),
  (5, [(0, .inl 81), (1, .inr (false, [(14, 14)])), (2, .inr (false, [(12, 12)])), (3, .inr (true, [(0, 0)])), (5, .inr (false, [(4, 4)]))], [], m4h1)] = true := by decide +kernel
/-- MiceRegistersModel.chancesOf -/
def m4c120 : ak_C := (185, [.inl 81, .inr (false, [(15, 15)]), .inr (false, [(12, 12)])], m4h1, [], [([], some (.inr (true, [(20736, 20736)])), [])])
theorem m4k120 : ai_chk [m4c99, m4c100, m4c101, m4c102] m4c120 (fun pc => sm_ch sm_t185 pc, sm_Kn 3 6 none, fun x => sm_lk sm_ca3 x, some .long) [] 6 0 [5] [] 2000 [(5, [(0, .inl 81), (1, .inr (false, [(15, 15)])), (2, .inr (false, [(12, 12)])), (3, .inr (true, [(1, 1)])), (5, .inr (false, [(0, 0)]))], [], m4h1),
  (5, [(0, .inl 81), (1, .inr (false, [(15, 15)])), (2, .inr (false, [(12, 12)])), (3, .inr (true, [(12, 12)])), (5, .inr (false, [(1, 1)]))], [], m4h1),
  (5, [(0, .inl 81), (1, .inr (false, [(15, 15)])), (2, .inr (false, [(12, 12)])), (3, .inr (true, [(144, 144)])), (5, .inr (false, [(2, 2)]))], [], m4h1),
  (5, [(0, .inl 81), (1, .inr (false, [(15, 15)])), (2, .inr (false, [(12, 12)])), (3, .inr (true, [(1728, 1728)])), (5, .inr (false, [(3, 3)]))], [], m4h1),
  (5, [(0, .inl 81), (1, .inr (false, [(15, 15)])), (2, .inr (false, [(12, 12)])), (3, .inr (true, [(20736, 20736)])), (5, .inr (false, [(4, 4)]))], [], m4h1)] = true := by decide +kernel
def m4h74 : aw_H := [(81, m4x0), (82, ms_r [(0, [(-1, 40)]), (3788, ar_t32)])]
/-- MiceRegistersModel.odds -/
def m4c121 : ak_C := (184, [.inl 81, .inr (false, ar_t32), .inr (false, ar_t32)], m4h58, [81, 82], [([[], [], []], some (.inr (false, [(-1, -1)])), m4h28), ([[], [(0, 7)], [(0, 12)]], some (.inr (false, [(1, 1)])), m4h74)])
def czm4s121x0 : aw_A := ms_o [(1, 8)] [(4, 4)] ar_t32 ar_t32 [(0, 180)] [(0, 60)] [(-1, 60)] [(0, 8)] [(0, 4)]
def czm4s121x1 : aw_A := .inr (.inl (0, 4, [(0, 3, [(1, 9)])], []))
def czm4s121h2 : aw_H := [(81, czm4s121x0), (82, ms_r [(0, [(-1, 40)])]), (83, .inr (.inl (0, 8, [], []))), (85, .inr (.inl (0, 4, [], []))), (86, czm4s121x1)]
set_option maxRecDepth 100000 in
theorem m4k121 : ai_ch2 [m4c16, m4c17, m4c22, mgc6368, mgc6372, m4c33, m4c38, m4c43, m4c48, m4c53, m4c58, m4c63, m4c68, m4c73, m4c78, m4c83, m4c88, m4c93, m4c98, m4c103, m4c104, m4c105, m4c106, m4c107, m4c108, m4c109, m4c110, m4c111, m4c112, m4c113, m4c114, m4c115, m4c116, m4c117, m4c118, m4c119, m4c120] m4c121 (fun pc => sm_ch sm_t184 pc, sm_Kn 3 10 none, fun x => sm_lk sm_ca3 x, some .int) [81, 82] 10 3 [30] [(22, some (0, 2, 0), 12, 1)] 2000 [.inl (30, [(0, .inl 81), (1, .inr (false, [(0, 7)])), (2, .inr (false, [(0, 11)])), (3, .inr (true, [(0, 0)])), (5, .inr (true, [(0, 0)])), (7, .inr (false, [(0, 0)]))], [], czm4s121h2),
  .inl (30, [(0, .inl 81), (1, .inr (false, [(0, 7)])), (2, .inr (false, [(0, 11)])), (3, .inr (true, [(0, 20736)])), (5, .inr (true, [(1, 20736)])), (7, .inr (false, [(1, 1)])), (8, .inr (true, [(1, 20736)]))], [], czm4s121h2),
  .inl (30, [(0, .inl 81), (1, .inr (false, [(0, 7)])), (2, .inr (false, [(0, 11)])), (3, .inr (true, [(0, 39744)])), (5, .inr (true, [(1, 39744)])), (7, .inr (false, [(2, 2)])), (8, .inr (true, [(0, 19008)]))], [], czm4s121h2),
  .inl (30, [(0, .inl 81), (1, .inr (false, [(0, 7)])), (2, .inr (false, [(0, 11)])), (3, .inr (true, [(0, 58752)])), (5, .inr (true, [(1, 58752)])), (7, .inr (false, [(3, 3)])), (8, .inr (true, [(0, 19008)]))], [], czm4s121h2),
  .inl (30, [(0, .inl 81), (1, .inr (false, [(0, 7)])), (2, .inr (false, [(0, 11)])), (3, .inr (true, [(0, 76176)])), (5, .inr (true, [(1, 76176)])), (7, .inr (false, [(4, 4)])), (8, .inr (true, [(0, 17424)]))], [], czm4s121h2),
  .inl (30, [(0, .inl 81), (1, .inr (false, [(0, 7)])), (2, .inr (false, [(0, 11)])), (3, .inr (true, [(0, 95184)])), (5, .inr (true, [(1, 95184)])), (7, .inr (false, [(5, 5)])), (8, .inr (true, [(0, 19008)]))], [], czm4s121h2),
  .inl (30, [(0, .inl 81), (1, .inr (false, [(0, 7)])), (2, .inr (false, [(0, 11)])), (3, .inr (true, [(0, 112608)])), (5, .inr (true, [(1, 112608)])), (7, .inr (false, [(6, 6)])), (8, .inr (true, [(0, 17424)]))], [], czm4s121h2),
  .inl (30, [(0, .inl 81), (1, .inr (false, [(0, 7)])), (2, .inr (false, [(0, 11)])), (3, .inr (true, [(0, 130032)])), (5, .inr (true, [(1, 130032)])), (7, .inr (false, [(7, 7)])), (8, .inr (true, [(0, 17424)]))], [], czm4s121h2),
  .inl (30, [(0, .inl 81), (1, .inr (false, [(0, 7)])), (2, .inr (false, [(0, 11)])), (3, .inr (true, [(0, 146004)])), (5, .inr (true, [(1, 146004)])), (7, .inr (false, [(8, 8)])), (8, .inr (true, [(0, 15972)]))], [], czm4s121h2),
  .inl (30, [(0, .inl 81), (1, .inr (false, [(0, 7)])), (2, .inr (false, [(0, 11)])), (3, .inr (true, [(0, 165012)])), (5, .inr (true, [(1, 165012)])), (7, .inr (false, [(9, 9)])), (8, .inr (true, [(0, 19008)]))], [], czm4s121h2),
  .inl (30, [(0, .inl 81), (1, .inr (false, [(0, 7)])), (2, .inr (false, [(0, 11)])), (3, .inr (true, [(0, 182436)])), (5, .inr (true, [(1, 182436)])), (7, .inr (false, [(10, 10)])), (8, .inr (true, [(0, 17424)]))], [], czm4s121h2),
  .inl (30, [(0, .inl 81), (1, .inr (false, [(0, 7)])), (2, .inr (false, [(0, 11)])), (3, .inr (true, [(0, 199860)])), (5, .inr (true, [(1, 199860)])), (7, .inr (false, [(11, 11)])), (8, .inr (true, [(0, 17424)]))], [], czm4s121h2),
  .inl (30, [(0, .inl 81), (1, .inr (false, [(0, 7)])), (2, .inr (false, [(0, 11)])), (3, .inr (true, [(0, 215832)])), (5, .inr (true, [(1, 215832)])), (7, .inr (false, [(12, 12)])), (8, .inr (true, [(0, 15972)]))], [], czm4s121h2),
  .inl (30, [(0, .inl 81), (1, .inr (false, [(0, 7)])), (2, .inr (false, [(0, 11)])), (3, .inr (true, [(0, 233256)])), (5, .inr (true, [(1, 233256)])), (7, .inr (false, [(13, 13)])), (8, .inr (true, [(0, 17424)]))], [], czm4s121h2),
  .inl (30, [(0, .inl 81), (1, .inr (false, [(0, 7)])), (2, .inr (false, [(0, 11)])), (3, .inr (true, [(0, 249228)])), (5, .inr (true, [(1, 249228)])), (7, .inr (false, [(14, 14)])), (8, .inr (true, [(0, 15972)]))], [], czm4s121h2),
  .inl (30, [(0, .inl 81), (1, .inr (false, [(0, 7)])), (2, .inr (false, [(0, 11)])), (3, .inr (true, [(0, 265200)])), (5, .inr (true, [(1, 265200)])), (7, .inr (false, [(15, 15)])), (8, .inr (true, [(0, 15972)]))], [], czm4s121h2),
  .inl (30, [(0, .inl 81), (1, .inr (false, [(0, 7)])), (2, .inr (false, [(0, 11)])), (3, .inr (true, [(0, 279841)])), (5, .inr (true, [(1, 279841)])), (7, .inr (false, [(16, 16)])), (8, .inr (true, [(0, 14641)]))], [], czm4s121h2),
  .inl (30, [(0, .inl 81), (1, .inr (false, [(0, 7)])), (2, .inr (false, [(12, 12)])), (3, .inr (true, [(0, 0)])), (5, .inr (true, [(0, 0)])), (7, .inr (false, [(0, 0)]))], [], czm4s121h2),
  .inl (30, [(0, .inl 81), (1, .inr (false, [(0, 7)])), (2, .inr (false, [(12, 12)])), (3, .inr (true, [(0, 0)])), (5, .inr (true, [(0, 0)])), (7, .inr (false, [(1, 1)])), (8, .inr (true, [(0, 0)]))], [], czm4s121h2),
  .inl (30, [(0, .inl 81), (1, .inr (false, [(0, 7)])), (2, .inr (false, [(12, 12)])), (3, .inr (true, [(0, 0)])), (5, .inr (true, [(0, 0)])), (7, .inr (false, [(2, 2)])), (8, .inr (true, [(0, 0)]))], [], czm4s121h2),
  .inl (30, [(0, .inl 81), (1, .inr (false, [(0, 7)])), (2, .inr (false, [(12, 12)])), (3, .inr (true, [(0, 0)])), (5, .inr (true, [(0, 0)])), (7, .inr (false, [(3, 3)])), (8, .inr (true, [(0, 0)]))], [], czm4s121h2),
  .inl (30, [(0, .inl 81), (1, .inr (false, [(0, 7)])), (2, .inr (false, [(12, 12)])), (3, .inr (true, [(0, 0)])), (5, .inr (true, [(0, 0)])), (7, .inr (false, [(4, 4)])), (8, .inr (true, [(0, 0)]))], [], czm4s121h2),
  .inl (30, [(0, .inl 81), (1, .inr (false, [(0, 7)])), (2, .inr (false, [(12, 12)])), (3, .inr (true, [(0, 0)])), (5, .inr (true, [(0, 0)])), (7, .inr (false, [(5, 5)])), (8, .inr (true, [(0, 0)]))], [], czm4s121h2),
  .inl (30, [(0, .inl 81), (1, .inr (false, [(0, 7)])), (2, .inr (false, [(12, 12)])), (3, .inr (true, [(0, 0)])), (5, .inr (true, [(0, 0)])), (7, .inr (false, [(6, 6)])), (8, .inr (true, [(0, 0)]))], [], czm4s121h2),
  .inl (30, [(0, .inl 81), (1, .inr (false, [(0, 7)])), (2, .inr (false, [(12, 12)])), (3, .inr (true, [(0, 0)])), (5, .inr (true, [(0, 0)])), (7, .inr (false, [(7, 7)])), (8, .inr (true, [(0, 0)]))], [], czm4s121h2),
  .inl (30, [(0, .inl 81), (1, .inr (false, [(0, 7)])), (2, .inr (false, [(12, 12)])), (3, .inr (true, [(0, 0)])), (5, .inr (true, [(0, 0)])), (7, .inr (false, [(8, 8)])), (8, .inr (true, [(0, 0)]))], [], czm4s121h2),
  .inl (30, [(0, .inl 81), (1, .inr (false, [(0, 7)])), (2, .inr (false, [(12, 12)])), (3, .inr (true, [(0, 0)])), (5, .inr (true, [(0, 0)])), (7, .inr (false, [(9, 9)])), (8, .inr (true, [(0, 0)]))], [], czm4s121h2),
  .inl (30, [(0, .inl 81), (1, .inr (false, [(0, 7)])), (2, .inr (false, [(12, 12)])), (3, .inr (true, [(0, 0)])), (5, .inr (true, [(0, 0)])), (7, .inr (false, [(10, 10)])), (8, .inr (true, [(0, 0)]))], [], czm4s121h2),
  .inl (30, [(0, .inl 81), (1, .inr (false, [(0, 7)])), (2, .inr (false, [(12, 12)])), (3, .inr (true, [(0, 0)])), (5, .inr (true, [(0, 0)])), (7, .inr (false, [(11, 11)])), (8, .inr (true, [(0, 0)]))], [], czm4s121h2),
  .inl (30, [(0, .inl 81), (1, .inr (false, [(0, 7)])), (2, .inr (false, [(12, 12)])), (3, .inr (true, [(0, 0)])), (5, .inr (true, [(0, 0)])), (7, .inr (false, [(12, 12)])), (8, .inr (true, [(0, 0)]))], [], czm4s121h2),
  .inl (30, [(0, .inl 81), (1, .inr (false, [(0, 7)])), (2, .inr (false, [(12, 12)])), (3, .inr (true, [(0, 0)])), (5, .inr (true, [(0, 0)])), (7, .inr (false, [(13, 13)])), (8, .inr (true, [(0, 0)]))], [], czm4s121h2),
  .inl (30, [(0, .inl 81), (1, .inr (false, [(0, 7)])), (2, .inr (false, [(12, 12)])), (3, .inr (true, [(0, 0)])), (5, .inr (true, [(0, 0)])), (7, .inr (false, [(14, 14)])), (8, .inr (true, [(0, 0)]))], [], czm4s121h2),
  .inl (30, [(0, .inl 81), (1, .inr (false, [(0, 7)])), (2, .inr (false, [(12, 12)])), (3, .inr (true, [(0, 0)])), (5, .inr (true, [(0, 0)])), (7, .inr (false, [(15, 15)])), (8, .inr (true, [(0, 0)]))], [], czm4s121h2),
  .inl (30, [(0, .inl 81), (1, .inr (false, [(0, 7)])), (2, .inr (false, [(12, 12)])), (3, .inr (true, [(0, 0), (20736, 20736)])), (5, .inr (true, [(20736, 20736)])), (7, .inr (false, [(16, 16)])), (8, .inr (true, [(20736, 20736)]))], [], czm4s121h2)] = true := by decide +kernel


