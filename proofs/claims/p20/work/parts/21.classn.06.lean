def kch1044 : aw_H := [(15, kcx1043)]
/-- Register.change -/
def kcc1061 : ak_C := (45, [.inl 15, .inr (false, [(2, 2)]), .inr (false, [(0, 0)]), .inr (false, ar_t32)], kch794, [15], [([], some (.inr (false, ar_t32)), kch1044)])
theorem kck1061 : ai_chk [] kcc1061 (fun pc => sm_ch sm_t45 pc, sm_Kn 1 5 none, fun x => sm_lk sm_ca1 x, some .int) [15] 5 0 [] [] 2000 [] = true := by decide +kernel
def kch1045 : aw_H := [(15, kcx1043), (42, kcx696), (43, .inr (.inr (.inr ()))), (44, .inr (.inr (.inr ()))), (45, .inr (.inr (.inr ())))]
/-- MiceRegisters.doTruly -/
def kcc1062 : ak_C := (43, [.inl 0, .inr (false, [(2, 2)]), .inr (false, [(0, 0)]), .inr (false, ar_t32)], kch796, [15, 42, 43, 44, 45], [([], some (.inr (false, ar_t32)), kch1045)])
theorem kck1062 : ai_chk [kcc0, kcc1061] kcc1062 (fun pc => sm_ch sm_t43 pc, sm_Kn 2 4 none, fun x => sm_lk sm_ca2 x, some .int) [15, 42] 4 0 [] [] 2000 [] = true := by decide +kernel
/-- Register.change -/
def kcc1063 : ak_C := (45, [.inl 15, .inr (false, [(1, 1)]), .inr (false, [(0, 0)]), .inr (false, ar_t32)], kch756, [19], [([], some (.inr (false, ar_t32)), kch788)])
theorem kck1063 : ai_chk [] kcc1063 (fun pc => sm_ch sm_t45 pc, sm_Kn 1 5 none, fun x => sm_lk sm_ca1 x, some .int) [19] 5 0 [] [] 2000 [] = true := by decide +kernel
/-- MiceRegisters.doTruly -/
def kcc1064 : ak_C := (43, [.inl 0, .inr (false, [(1, 1)]), .inr (false, [(0, 0)]), .inr (false, ar_t32)], kch790, [19, 42, 43, 44, 45], [([], some (.inr (false, ar_t32)), kch789)])
theorem kck1064 : ai_chk [kcc1, kcc1063] kcc1064 (fun pc => sm_ch sm_t43 pc, sm_Kn 2 4 none, fun x => sm_lk sm_ca2 x, some .int) [19, 42] 4 0 [] [] 2000 [] = true := by decide +kernel
/-- MiceRegisters.doByLot -/
def kcc1065 : ak_C := (89, [.inl 0, .inr (false, [(0, 2147483646)])], kch783, [15, 18, 19, 23, 42, 43, 44, 45], [([], none, kch782)])
theorem kck1065 : ai_chk [kcc1007, kcc1002, kcc999, kcc996, kcc1060, kcc1062, kcc1064] kcc1065 (fun pc => sm_ch sm_t89 pc, sm_Kn 2 3 none, fun x => sm_lk sm_ca2 x, none) [15, 18, 19, 23, 42] 3 0 [] [] 2000 [] = true := by decide +kernel
/-- Register.allLeft -/
def kcc1066 : ak_C := (66, [.inl 15], kch713, [], [([], some (.inr (false, [(0, 0)])), []), ([], some (.inr (false, ar_t32)), [])])
theorem kck1066 : ai_chk [] kcc1066 (fun pc => sm_ch sm_t66 pc, sm_Kn 1 3 none, fun x => sm_lk sm_ca1 x, some .int) [] 3 0 [4] [] 2000 [(4, [(0, .inl 15), (1, .inr (false, [(0, 0)])), (2, .inr (false, [(0, 0)]))], [], kch713),
  (4, [(0, .inl 15), (1, .inr (false, ar_t32)), (2, .inr (false, [(1, 1)]))], [], kch956),
  (4, [(0, .inl 15), (1, .inr (false, ar_t32)), (2, .inr (false, [(2, 2)]))], [], kch957),
  (4, [(0, .inl 15), (1, .inr (false, ar_t32)), (2, .inr (false, [(3, 3)]))], [], kch958),
  (4, [(0, .inl 15), (1, .inr (false, ar_t32)), (2, .inr (false, [(4, 4)]))], [], kch959),
  (4, [(0, .inl 15), (1, .inr (false, ar_t32)), (2, .inr (false, [(5, 5)]))], [], kch960),
  (4, [(0, .inl 15), (1, .inr (false, ar_t32)), (2, .inr (false, [(6, 6)]))], [], kch961),
  (4, [(0, .inl 15), (1, .inr (false, ar_t32)), (2, .inr (false, [(7, 7)]))], [], kch962),
  (4, [(0, .inl 15), (1, .inr (false, ar_t32)), (2, .inr (false, [(8, 8)]))], [], kch963)] = true := by decide +kernel
def kch1046 : aw_H := [(15, kcx688), (18, .inr (.inl (0, 8, [], []))), (19, .inr (.inl (0, 8, [], []))), (23, kcx36), (42, kcx696), (43, .inr (.inr (.inr ()))), (44, .inr (.inr (.inr ()))), (45, .inr (.inr (.inr ())))]
/-- MiceRegisters.lots -/
def kcc1067 : ak_C := (88, [.inl 0, .inr (false, ar_t32), .inr (false, ar_t32)], kch783, [15, 18, 19, 23, 42, 43, 44, 45], [([[], [], []], some (.inr (false, [(-1, -1)])), kch782), ([[], [(1, 20)], [(1, 2147483646)]], some (.inr (false, [(-4, -4)])), kch785), ([[], [(1, 20)], [(1, 2147483646)]], some (.inr (false, [(-2, -2)])), kch1046), ([[], [(1, 20)], [(1, 2147483646)]], some (.inr (false, ar_t32)), kch782), ([[], [(1, 20)], [(1, 2147483646)]], some (.inr (false, [(0, 0)])), kch782)])
def kch1047 : aw_H := [(0, kcx2), (15, kcx688), (16, .inr (.inl (0, 8, [], []))), (18, .inr (.inl (0, 8, [], []))), (19, .inr (.inl (0, 8, [], []))), (20, .inr (.inl (0, 4, [], []))), (21, .inr (.inl (0, 4, [], []))), (23, kcx36), (42, kcx696), (43, .inr (.inr (.inr ()))), (44, .inr (.inr (.inr ()))), (45, .inr (.inr (.inr ())))]
theorem kck1067 : ai_chk [kcc1065, kcc1066] kcc1067 (fun pc => sm_ch sm_t88 pc, sm_Kn 2 6 none, fun x => sm_lk sm_ca2 x, some .int) [15, 18, 19, 23, 42] 6 3 [60] [] 2000 [(60, [(0, .inl 0), (1, .inr (false, [(1, 20)])), (2, .inr (false, [(1, 2147483646)])), (3, .inr (true, [(1, 2147483646)])), (5, .inr (false, [(0, 0)]))], [], kch1047),
  (60, [(0, .inl 0), (1, .inr (false, [(1, 20)])), (2, .inr (false, [(1, 2147483646)])), (3, .inr (true, [(0, 2147483646)])), (5, .inr (false, [(1, 1)]))], [], kch783),
  (60, [(0, .inl 0), (1, .inr (false, [(2, 20)])), (2, .inr (false, [(1, 2147483646)])), (3, .inr (true, [(0, 2147483646)])), (5, .inr (false, [(2, 2)]))], [], kch783),
  (60, [(0, .inl 0), (1, .inr (false, [(3, 20)])), (2, .inr (false, [(1, 2147483646)])), (3, .inr (true, [(0, 2147483646)])), (5, .inr (false, [(3, 3)]))], [], kch783),
  (60, [(0, .inl 0), (1, .inr (false, [(4, 20)])), (2, .inr (false, [(1, 2147483646)])), (3, .inr (true, [(0, 2147483646)])), (5, .inr (false, [(4, 4)]))], [], kch783),
  (60, [(0, .inl 0), (1, .inr (false, [(5, 20)])), (2, .inr (false, [(1, 2147483646)])), (3, .inr (true, [(0, 2147483646)])), (5, .inr (false, [(5, 5)]))], [], kch783),
  (60, [(0, .inl 0), (1, .inr (false, [(6, 20)])), (2, .inr (false, [(1, 2147483646)])), (3, .inr (true, [(0, 2147483646)])), (5, .inr (false, [(6, 6)]))], [], kch783),
  (60, [(0, .inl 0), (1, .inr (false, [(7, 20)])), (2, .inr (false, [(1, 2147483646)])), (3, .inr (true, [(0, 2147483646)])), (5, .inr (false, [(7, 7)]))], [], kch783),
  (60, [(0, .inl 0), (1, .inr (false, [(8, 20)])), (2, .inr (false, [(1, 2147483646)])), (3, .inr (true, [(0, 2147483646)])), (5, .inr (false, [(8, 8)]))], [], kch783),
  (60, [(0, .inl 0), (1, .inr (false, [(9, 20)])), (2, .inr (false, [(1, 2147483646)])), (3, .inr (true, [(0, 2147483646)])), (5, .inr (false, [(9, 9)]))], [], kch783),
  (60, [(0, .inl 0), (1, .inr (false, [(10, 20)])), (2, .inr (false, [(1, 2147483646)])), (3, .inr (true, [(0, 2147483646)])), (5, .inr (false, [(10, 10)]))], [], kch783),
  (60, [(0, .inl 0), (1, .inr (false, [(11, 20)])), (2, .inr (false, [(1, 2147483646)])), (3, .inr (true, [(0, 2147483646)])), (5, .inr (false, [(11, 11)]))], [], kch783),
  (60, [(0, .inl 0), (1, .inr (false, [(12, 20)])), (2, .inr (false, [(1, 2147483646)])), (3, .inr (true, [(0, 2147483646)])), (5, .inr (false, [(12, 12)]))], [], kch783),
  (60, [(0, .inl 0), (1, .inr (false, [(13, 20)])), (2, .inr (false, [(1, 2147483646)])), (3, .inr (true, [(0, 2147483646)])), (5, .inr (false, [(13, 13)]))], [], kch783),
  (60, [(0, .inl 0), (1, .inr (false, [(14, 20)])), (2, .inr (false, [(1, 2147483646)])), (3, .inr (true, [(0, 2147483646)])), (5, .inr (false, [(14, 14)]))], [], kch783),
  (60, [(0, .inl 0), (1, .inr (false, [(15, 20)])), (2, .inr (false, [(1, 2147483646)])), (3, .inr (true, [(0, 2147483646)])), (5, .inr (false, [(15, 15)]))], [], kch783),
  (60, [(0, .inl 0), (1, .inr (false, [(16, 20)])), (2, .inr (false, [(1, 2147483646)])), (3, .inr (true, [(0, 2147483646)])), (5, .inr (false, [(16, 16)]))], [], kch783),
  (60, [(0, .inl 0), (1, .inr (false, [(17, 20)])), (2, .inr (false, [(1, 2147483646)])), (3, .inr (true, [(0, 2147483646)])), (5, .inr (false, [(17, 17)]))], [], kch783),
  (60, [(0, .inl 0), (1, .inr (false, [(18, 20)])), (2, .inr (false, [(1, 2147483646)])), (3, .inr (true, [(0, 2147483646)])), (5, .inr (false, [(18, 18)]))], [], kch783),
  (60, [(0, .inl 0), (1, .inr (false, [(19, 20)])), (2, .inr (false, [(1, 2147483646)])), (3, .inr (true, [(0, 2147483646)])), (5, .inr (false, [(19, 19)]))], [], kch783),
  (60, [(0, .inl 0), (1, .inr (false, [(20, 20)])), (2, .inr (false, [(1, 2147483646)])), (3, .inr (true, [(0, 2147483646)])), (5, .inr (false, [(20, 20)]))], [], kch783)] = true := by decide +kernel
/-- MiceRegisters.asked -/
def kcc1068 : ak_C := (90, [.inl 0], kch10, [], [([], some (.inr (false, ar_t32)), [])])
theorem kck1068 : ai_chk [] kcc1068 (fun pc => sm_ch sm_t90 pc, sm_Kn 2 1 none, fun x => sm_lk sm_ca2 x, some .int) [] 1 0 [] [] 2000 [] = true := by decide +kernel
/-- MiceRegisters.upper -/
def kcc1069 : ak_C := (91, [.inl 0], kch10, [], [([], some (.inr (true, ar_t64)), [])])
theorem kck1069 : ai_chk [] kcc1069 (fun pc => sm_ch sm_t91 pc, sm_Kn 2 1 none, fun x => sm_lk sm_ca2 x, some .long) [] 1 0 [] [] 2000 [] = true := by decide +kernel
/-- MiceRegisters.lower -/
def kcc1070 : ak_C := (92, [.inl 0], kch10, [], [([], some (.inr (true, ar_t64)), [])])
theorem kck1070 : ai_chk [] kcc1070 (fun pc => sm_ch sm_t92 pc, sm_Kn 2 1 none, fun x => sm_lk sm_ca2 x, some .long) [] 1 0 [] [] 2000 [] = true := by decide +kernel
/-- MiceRegisters.howManyThere -/
def kch1048 : aw_H := [(9, kcx14)]
def kcc1071 : ak_C := (96, [.inl 9], kch1048, [], [([], some (.inr (false, [(0, 4)])), [])])
