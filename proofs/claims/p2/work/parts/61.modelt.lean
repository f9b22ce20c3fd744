/-! Contracts over ranges of the reference, and their checks; printed by a program of mine. -/
/-- MiceRegistersModel.byLot -/
def mbc25 : ak_C := (189, [.inl 81, .inr (true, [(0, 2147483646)])], mbh133, [82], [([], none, mbh130)])
theorem mbk25 : ai_chk [mbc24] mbc25 (fun pc => sm_ch sm_t189 pc, sm_Kn 3 6 none, fun x => sm_lk sm_ca3 x, none) [82] 6 0 [] [] 2000 [] = true := by decide +kernel
def mbh152 : aw_H := [(82, ms_r [(0, [(0, 35)])])]
/-- MiceRegistersModel.keepPast -/
def mbh153 : aw_H := [(81, mbx0), (82, ms_r [(0, [(-1, 34)])])]
def mbc26 : ak_C := (149, [.inl 81], mbh153, [82], [([], none, mbh152)])
def mbh154 : aw_H := [(82, ms_r [(0, [(0, 35)]), (12, ar_t32)])]
/-- MiceRegistersModel.passes -/
def mbh155 : aw_H := [(81, mbx0), (82, ms_r [(0, [(0, 35)])]), (83, .inr (.inl (0, 8, [], []))), (85, .inr (.inl (0, 4, [], []))), (86, .inr (.inl (0, 4, [], [])))]
def mbc27 : ak_C := (150, [.inl 81, .inr (false, [(0, 0)]), .inr (false, ar_t32)], mbh155, [82], [([], some (.inr (false, ar_t32)), mbh154)])
def mbh156 : aw_H := [(81, mbx36), (82, ms_r [(0, [(0, 35)])]), (83, .inr (.inl (0, 8, [], []))), (85, .inr (.inl (0, 4, [], []))), (86, .inr (.inl (0, 4, [], [])))]
def mbh157 : aw_H := [(81, mbx38), (82, ms_r [(0, [(0, 35)])]), (83, .inr (.inl (0, 8, [], []))), (85, .inr (.inl (0, 4, [], []))), (86, .inr (.inl (0, 4, [], [])))]
def mbh158 : aw_H := [(81, mbx40), (82, ms_r [(0, [(0, 35)])]), (83, .inr (.inl (0, 8, [], []))), (85, .inr (.inl (0, 4, [], []))), (86, .inr (.inl (0, 4, [], [])))]
def mbh159 : aw_H := [(81, mbx0), (82, ms_r [(12, ar_t32), (0, [(0, 35)])]), (83, .inr (.inl (0, 8, [], []))), (85, .inr (.inl (0, 4, [], []))), (86, .inr (.inl (0, 4, [], [])))]
def mbx160 : aw_A := ms_r [(13, ar_t32), (12, ar_t32), (0, [(0, 35)])]
def mbh161 : aw_H := [(81, mbx12), (82, mbx160), (83, .inr (.inl (0, 8, [], []))), (85, .inr (.inl (0, 4, [], []))), (86, .inr (.inl (0, 4, [], [])))]
def mbx162 : aw_A := ms_r [(14, ar_t32), (13, ar_t32), (12, ar_t32), (0, [(0, 35)])]
def mbh163 : aw_H := [(81, mbx15), (82, mbx162), (83, .inr (.inl (0, 8, [], []))), (85, .inr (.inl (0, 4, [], []))), (86, .inr (.inl (0, 4, [], [])))]
def mbx164 : aw_A := ms_r [(15, ar_t32), (14, ar_t32), (13, ar_t32), (12, ar_t32), (0, [(0, 35)])]
def mbh165 : aw_H := [(81, mbx18), (82, mbx164), (83, .inr (.inl (0, 8, [], []))), (85, .inr (.inl (0, 4, [], []))), (86, .inr (.inl (0, 4, [], [])))]
def mbx166 : aw_A := ms_r [(16, ar_t32), (15, ar_t32), (14, ar_t32), (13, ar_t32), (12, ar_t32), (0, [(0, 35)])]
def mbh167 : aw_H := [(81, mbx21), (82, mbx166), (83, .inr (.inl (0, 8, [], []))), (85, .inr (.inl (0, 4, [], []))), (86, .inr (.inl (0, 4, [], [])))]
def mbx168 : aw_A := ms_r [(17, ar_t32), (16, ar_t32), (15, ar_t32), (14, ar_t32), (13, ar_t32), (12, ar_t32), (0, [(0, 35)])]
def mbh169 : aw_H := [(81, mbx24), (82, mbx168), (83, .inr (.inl (0, 8, [], []))), (85, .inr (.inl (0, 4, [], []))), (86, .inr (.inl (0, 4, [], [])))]
def mbx170 : aw_A := ms_r [(18, ar_t32), (17, ar_t32), (16, ar_t32), (15, ar_t32), (14, ar_t32), (13, ar_t32), (12, ar_t32), (0, [(0, 35)])]
def mbh171 : aw_H := [(81, mbx27), (82, mbx170), (83, .inr (.inl (0, 8, [], []))), (85, .inr (.inl (0, 4, [], []))), (86, .inr (.inl (0, 4, [], [])))]
def mbx172 : aw_A := ms_r [(19, ar_t32), (18, ar_t32), (17, ar_t32), (16, ar_t32), (15, ar_t32), (14, ar_t32), (13, ar_t32), (12, ar_t32), (0, [(0, 35)])]
def mbh173 : aw_H := [(81, mbx30), (82, mbx172), (83, .inr (.inl (0, 8, [], []))), (85, .inr (.inl (0, 4, [], []))), (86, .inr (.inl (0, 4, [], [])))]
theorem mbk27 : ai_chk [mbc5, mbc9, mbc10] mbc27 (fun pc => sm_ch sm_t150 pc, sm_Kn 3 7 none, fun x => sm_lk sm_ca3 x, some .int) [82] 7 0 [5, 130] [] 2000 [(5, [(0, .inl 81), (1, .inr (false, [(0, 0)])), (2, .inr (false, ar_t32)), (3, .inr (false, [(0, 0)])), (4, .inr (false, [(0, 0)]))], [], mbh155),
  (5, [(0, .inl 81), (1, .inr (false, [(0, 0)])), (2, .inr (false, ar_t32)), (3, .inr (false, ar_t32)), (4, .inr (false, [(1, 1)])), (5, .inr (false, [(-9, -9), (0, 7)]))], [], mbh155),
  (5, [(0, .inl 81), (1, .inr (false, [(0, 0)])), (2, .inr (false, ar_t32)), (3, .inr (false, ar_t32)), (4, .inr (false, [(2, 2)])), (5, .inr (false, [(-9, -9), (0, 7)]))], [], mbh156),
  (5, [(0, .inl 81), (1, .inr (false, [(0, 0)])), (2, .inr (false, ar_t32)), (3, .inr (false, ar_t32)), (4, .inr (false, [(3, 3)])), (5, .inr (false, [(-9, -9), (0, 7)]))], [], mbh157),
  (5, [(0, .inl 81), (1, .inr (false, [(0, 0)])), (2, .inr (false, ar_t32)), (3, .inr (false, ar_t32)), (4, .inr (false, [(4, 4)])), (5, .inr (false, [(-9, -9), (0, 7)]))], [], mbh158),
  (130, [(0, .inl 81), (1, .inr (false, [(0, 0)])), (2, .inr (false, ar_t32)), (3, .inr (false, ar_t32)), (4, .inr (false, [(0, 0)])), (5, .inr (false, [(-9, -9), (0, 7)]))], [], mbh155),
  (130, [(0, .inl 81), (1, .inr (false, [(0, 0)])), (2, .inr (false, ar_t32)), (3, .inr (false, ar_t32)), (4, .inr (false, [(1, 1)])), (5, .inr (false, [(-9, -9), (0, 7)]))], [], mbh159),
  (130, [(0, .inl 81), (1, .inr (false, [(0, 0)])), (2, .inr (false, ar_t32)), (3, .inr (false, ar_t32)), (4, .inr (false, [(2, 2)])), (5, .inr (false, [(-9, -9), (0, 7)]))], [], mbh161),
  (130, [(0, .inl 81), (1, .inr (false, [(0, 0)])), (2, .inr (false, ar_t32)), (3, .inr (false, ar_t32)), (4, .inr (false, [(3, 3)])), (5, .inr (false, [(-9, -9), (0, 7)]))], [], mbh163),
  (130, [(0, .inl 81), (1, .inr (false, [(0, 0)])), (2, .inr (false, ar_t32)), (3, .inr (false, ar_t32)), (4, .inr (false, [(4, 4)])), (5, .inr (false, [(-9, -9), (0, 7)]))], [], mbh165),
  (130, [(0, .inl 81), (1, .inr (false, [(0, 0)])), (2, .inr (false, ar_t32)), (3, .inr (false, ar_t32)), (4, .inr (false, [(5, 5)])), (5, .inr (false, [(-9, -9), (0, 7)]))], [], mbh167),
  (130, [(0, .inl 81), (1, .inr (false, [(0, 0)])), (2, .inr (false, ar_t32)), (3, .inr (false, ar_t32)), (4, .inr (false, [(6, 6)])), (5, .inr (false, [(-9, -9), (0, 7)]))], [], mbh169),
  (130, [(0, .inl 81), (1, .inr (false, [(0, 0)])), (2, .inr (false, ar_t32)), (3, .inr (false, ar_t32)), (4, .inr (false, [(7, 7)])), (5, .inr (false, [(-9, -9), (0, 7)]))], [], mbh171),
  (130, [(0, .inl 81), (1, .inr (false, [(0, 0)])), (2, .inr (false, ar_t32)), (3, .inr (false, ar_t32)), (4, .inr (false, [(8, 8)])), (5, .inr (false, [(-9, -9), (0, 7)]))], [], mbh173)] = true := by decide +kernel
/-- MiceRegistersModel.byLot -/
def mbc28 : ak_C := (189, [.inl 81, .inr (true, [(0, 2147483646)])], mbh155, [82], [([], none, mbh152)])
theorem mbk28 : ai_chk [mbc27] mbc28 (fun pc => sm_ch sm_t189 pc, sm_Kn 3 6 none, fun x => sm_lk sm_ca3 x, none) [82] 6 0 [] [] 2000 [] = true := by decide +kernel
def mbh174 : aw_H := [(82, ms_r [(0, [(0, 34)])])]
/-- MiceRegistersModel.keepPast -/
def mbh175 : aw_H := [(81, mbx0), (82, ms_r [(0, [(-1, 33)])])]
def mbc29 : ak_C := (149, [.inl 81], mbh175, [82], [([], none, mbh174)])
def mbh176 : aw_H := [(82, ms_r [(0, [(0, 34)]), (12, ar_t32)])]
/-- MiceRegistersModel.passes -/
def mbh177 : aw_H := [(81, mbx0), (82, ms_r [(0, [(0, 34)])]), (83, .inr (.inl (0, 8, [], []))), (85, .inr (.inl (0, 4, [], []))), (86, .inr (.inl (0, 4, [], [])))]
def mbc30 : ak_C := (150, [.inl 81, .inr (false, [(0, 0)]), .inr (false, ar_t32)], mbh177, [82], [([], some (.inr (false, ar_t32)), mbh176)])
def mbh178 : aw_H := [(81, mbx36), (82, ms_r [(0, [(0, 34)])]), (83, .inr (.inl (0, 8, [], []))), (85, .inr (.inl (0, 4, [], []))), (86, .inr (.inl (0, 4, [], [])))]
def mbh179 : aw_H := [(81, mbx38), (82, ms_r [(0, [(0, 34)])]), (83, .inr (.inl (0, 8, [], []))), (85, .inr (.inl (0, 4, [], []))), (86, .inr (.inl (0, 4, [], [])))]
def mbh180 : aw_H := [(81, mbx40), (82, ms_r [(0, [(0, 34)])]), (83, .inr (.inl (0, 8, [], []))), (85, .inr (.inl (0, 4, [], []))), (86, .inr (.inl (0, 4, [], [])))]
def mbh181 : aw_H := [(81, mbx0), (82, ms_r [(12, ar_t32), (0, [(0, 34)])]), (83, .inr (.inl (0, 8, [], []))), (85, .inr (.inl (0, 4, [], []))), (86, .inr (.inl (0, 4, [], [])))]
def mbx182 : aw_A := ms_r [(13, ar_t32), (12, ar_t32), (0, [(0, 34)])]
def mbh183 : aw_H := [(81, mbx12), (82, mbx182), (83, .inr (.inl (0, 8, [], []))), (85, .inr (.inl (0, 4, [], []))), (86, .inr (.inl (0, 4, [], [])))]
def mbx184 : aw_A := ms_r [(14, ar_t32), (13, ar_t32), (12, ar_t32), (0, [(0, 34)])]
def mbh185 : aw_H := [(81, mbx15), (82, mbx184), (83, .inr (.inl (0, 8, [], []))), (85, .inr (.inl (0, 4, [], []))), (86, .inr (.inl (0, 4, [], [])))]
def mbx186 : aw_A := ms_r [(15, ar_t32), (14, ar_t32), (13, ar_t32), (12, ar_t32), (0, [(0, 34)])]
def mbh187 : aw_H := [(81, mbx18), (82, mbx186), (83, .inr (.inl (0, 8, [], []))), (85, .inr (.inl (0, 4, [], []))), (86, .inr (.inl (0, 4, [], [])))]
def mbx188 : aw_A := ms_r [(16, ar_t32), (15, ar_t32), (14, ar_t32), (13, ar_t32), (12, ar_t32), (0, [(0, 34)])]
def mbh189 : aw_H := [(81, mbx21), (82, mbx188), (83, .inr (.inl (0, 8, [], []))), (85, .inr (.inl (0, 4, [], []))), (86, .inr (.inl (0, 4, [], [])))]
def mbx190 : aw_A := ms_r [(17, ar_t32), (16, ar_t32), (15, ar_t32), (14, ar_t32), (13, ar_t32), (12, ar_t32), (0, [(0, 34)])]
def mbh191 : aw_H := [(81, mbx24), (82, mbx190), (83, .inr (.inl (0, 8, [], []))), (85, .inr (.inl (0, 4, [], []))), (86, .inr (.inl (0, 4, [], [])))]
def mbx192 : aw_A := ms_r [(18, ar_t32), (17, ar_t32), (16, ar_t32), (15, ar_t32), (14, ar_t32), (13, ar_t32), (12, ar_t32), (0, [(0, 34)])]
def mbh193 : aw_H := [(81, mbx27), (82, mbx192), (83, .inr (.inl (0, 8, [], []))), (85, .inr (.inl (0, 4, [], []))), (86, .inr (.inl (0, 4, [], [])))]
def mbx194 : aw_A := ms_r [(19, ar_t32), (18, ar_t32), (17, ar_t32), (16, ar_t32), (15, ar_t32), (14, ar_t32), (13, ar_t32), (12, ar_t32), (0, [(0, 34)])]
def mbh195 : aw_H := [(81, mbx30), (82, mbx194), (83, .inr (.inl (0, 8, [], []))), (85, .inr (.inl (0, 4, [], []))), (86, .inr (.inl (0, 4, [], [])))]
theorem mbk30 : ai_chk [mbc5, mbc9, mbc10] mbc30 (fun pc => sm_ch sm_t150 pc, sm_Kn 3 7 none, fun x => sm_lk sm_ca3 x, some .int) [82] 7 0 [5, 130] [] 2000 [(5, [(0, .inl 81), (1, .inr (false, [(0, 0)])), (2, .inr (false, ar_t32)), (3, .inr (false, [(0, 0)])), (4, .inr (false, [(0, 0)]))], [], mbh177),
  (5, [(0, .inl 81), (1, .inr (false, [(0, 0)])), (2, .inr (false, ar_t32)), (3, .inr (false, ar_t32)), (4, .inr (false, [(1, 1)])), (5, .inr (false, [(-9, -9), (0, 7)]))], [], mbh177),
  (5, [(0, .inl 81), (1, .inr (false, [(0, 0)])), (2, .inr (false, ar_t32)), (3, .inr (false, ar_t32)), (4, .inr (false, [(2, 2)])), (5, .inr (false, [(-9, -9), (0, 7)]))], [], mbh178),
  (5, [(0, .inl 81), (1, .inr (false, [(0, 0)])), (2, .inr (false, ar_t32)), (3, .inr (false, ar_t32)), (4, .inr (false, [(3, 3)])), (5, .inr (false, [(-9, -9), (0, 7)]))], [], mbh179),
  (5, [(0, .inl 81), (1, .inr (false, [(0, 0)])), (2, .inr (false, ar_t32)), (3, .inr (false, ar_t32)), (4, .inr (false, [(4, 4)])), (5, .inr (false, [(-9, -9), (0, 7)]))], [], mbh180),
  (130, [(0, .inl 81), (1, .inr (false, [(0, 0)])), (2, .inr (false, ar_t32)), (3, .inr (false, ar_t32)), (4, .inr (false, [(0, 0)])), (5, .inr (false, [(-9, -9), (0, 7)]))], [], mbh177),
  (130, [(0, .inl 81), (1, .inr (false, [(0, 0)])), (2, .inr (false, ar_t32)), (3, .inr (false, ar_t32)), (4, .inr (false, [(1, 1)])), (5, .inr (false, [(-9, -9), (0, 7)]))], [], mbh181),
  (130, [(0, .inl 81), (1, .inr (false, [(0, 0)])), (2, .inr (false, ar_t32)), (3, .inr (false, ar_t32)), (4, .inr (false, [(2, 2)])), (5, .inr (false, [(-9, -9), (0, 7)]))], [], mbh183),
  (130, [(0, .inl 81), (1, .inr (false, [(0, 0)])), (2, .inr (false, ar_t32)), (3, .inr (false, ar_t32)), (4, .inr (false, [(3, 3)])), (5, .inr (false, [(-9, -9), (0, 7)]))], [], mbh185),
  (130, [(0, .inl 81), (1, .inr (false, [(0, 0)])), (2, .inr (false, ar_t32)), (3, .inr (false, ar_t32)), (4, .inr (false, [(4, 4)])), (5, .inr (false, [(-9, -9), (0, 7)]))], [], mbh187),
  (130, [(0, .inl 81), (1, .inr (false, [(0, 0)])), (2, .inr (false, ar_t32)), (3, .inr (false, ar_t32)), (4, .inr (false, [(5, 5)])), (5, .inr (false, [(-9, -9), (0, 7)]))], [], mbh189),
  (130, [(0, .inl 81), (1, .inr (false, [(0, 0)])), (2, .inr (false, ar_t32)), (3, .inr (false, ar_t32)), (4, .inr (false, [(6, 6)])), (5, .inr (false, [(-9, -9), (0, 7)]))], [], mbh191),
  (130, [(0, .inl 81), (1, .inr (false, [(0, 0)])), (2, .inr (false, ar_t32)), (3, .inr (false, ar_t32)), (4, .inr (false, [(7, 7)])), (5, .inr (false, [(-9, -9), (0, 7)]))], [], mbh193),
  (130, [(0, .inl 81), (1, .inr (false, [(0, 0)])), (2, .inr (false, ar_t32)), (3, .inr (false, ar_t32)), (4, .inr (false, [(8, 8)])), (5, .inr (false, [(-9, -9), (0, 7)]))], [], mbh195)] = true := by decide +kernel
/-- MiceRegistersModel.byLot -/
def mbc31 : ak_C := (189, [.inl 81, .inr (true, [(0, 2147483646)])], mbh177, [82], [([], none, mbh174)])
theorem mbk31 : ai_chk [mbc30] mbc31 (fun pc => sm_ch sm_t189 pc, sm_Kn 3 6 none, fun x => sm_lk sm_ca3 x, none) [82] 6 0 [] [] 2000 [] = true := by decide +kernel
def mbh196 : aw_H := [(82, ms_r [(0, [(0, 33)])])]
/-- MiceRegistersModel.keepPast -/
def mbh197 : aw_H := [(81, mbx0), (82, ms_r [(0, [(-1, 32)])])]
def mbc32 : ak_C := (149, [.inl 81], mbh197, [82], [([], none, mbh196)])
def mbh198 : aw_H := [(82, ms_r [(0, [(0, 33)]), (12, ar_t32)])]
/-- MiceRegistersModel.passes -/
def mbh199 : aw_H := [(81, mbx0), (82, ms_r [(0, [(0, 33)])]), (83, .inr (.inl (0, 8, [], []))), (85, .inr (.inl (0, 4, [], []))), (86, .inr (.inl (0, 4, [], [])))]
def mbc33 : ak_C := (150, [.inl 81, .inr (false, [(0, 0)]), .inr (false, ar_t32)], mbh199, [82], [([], some (.inr (false, ar_t32)), mbh198)])
def mbh200 : aw_H := [(81, mbx36), (82, ms_r [(0, [(0, 33)])]), (83, .inr (.inl (0, 8, [], []))), (85, .inr (.inl (0, 4, [], []))), (86, .inr (.inl (0, 4, [], [])))]
def mbh201 : aw_H := [(81, mbx38), (82, ms_r [(0, [(0, 33)])]), (83, .inr (.inl (0, 8, [], []))), (85, .inr (.inl (0, 4, [], []))), (86, .inr (.inl (0, 4, [], [])))]
def mbh202 : aw_H := [(81, mbx40), (82, ms_r [(0, [(0, 33)])]), (83, .inr (.inl (0, 8, [], []))), (85, .inr (.inl (0, 4, [], []))), (86, .inr (.inl (0, 4, [], [])))]
def mbh203 : aw_H := [(81, mbx0), (82, ms_r [(12, ar_t32), (0, [(0, 33)])]), (83, .inr (.inl (0, 8, [], []))), (85, .inr (.inl (0, 4, [], []))), (86, .inr (.inl (0, 4, [], [])))]
def mbx204 : aw_A := ms_r [(13, ar_t32), (12, ar_t32), (0, [(0, 33)])]
def mbh205 : aw_H := [(81, mbx12), (82, mbx204), (83, .inr (.inl (0, 8, [], []))), (85, .inr (.inl (0, 4, [], []))), (86, .inr (.inl (0, 4, [], [])))]
def mbx206 : aw_A := ms_r [(14, ar_t32), (13, ar_t32), (12, ar_t32), (0, [(0, 33)])]
def mbh207 : aw_H := [(81, mbx15), (82, mbx206), (83, .inr (.inl (0, 8, [], []))), (85, .inr (.inl (0, 4, [], []))), (86, .inr (.inl (0, 4, [], [])))]
def mbx208 : aw_A := ms_r [(15, ar_t32), (14, ar_t32), (13, ar_t32), (12, ar_t32), (0, [(0, 33)])]
def mbh209 : aw_H := [(81, mbx18), (82, mbx208), (83, .inr (.inl (0, 8, [], []))), (85, .inr (.inl (0, 4, [], []))), (86, .inr (.inl (0, 4, [], [])))]
def mbx210 : aw_A := ms_r [(16, ar_t32), (15, ar_t32), (14, ar_t32), (13, ar_t32), (12, ar_t32), (0, [(0, 33)])]
def mbh211 : aw_H := [(81, mbx21), (82, mbx210), (83, .inr (.inl (0, 8, [], []))), (85, .inr (.inl (0, 4, [], []))), (86, .inr (.inl (0, 4, [], [])))]
def mbx212 : aw_A := ms_r [(17, ar_t32), (16, ar_t32), (15, ar_t32), (14, ar_t32), (13, ar_t32), (12, ar_t32), (0, [(0, 33)])]
def mbh213 : aw_H := [(81, mbx24), (82, mbx212), (83, .inr (.inl (0, 8, [], []))), (85, .inr (.inl (0, 4, [], []))), (86, .inr (.inl (0, 4, [], [])))]
def mbx214 : aw_A := ms_r [(18, ar_t32), (17, ar_t32), (16, ar_t32), (15, ar_t32), (14, ar_t32), (13, ar_t32), (12, ar_t32), (0, [(0, 33)])]
def mbh215 : aw_H := [(81, mbx27), (82, mbx214), (83, .inr (.inl (0, 8, [], []))), (85, .inr (.inl (0, 4, [], []))), (86, .inr (.inl (0, 4, [], [])))]
def mbx216 : aw_A := ms_r [(19, ar_t32), (18, ar_t32), (17, ar_t32), (16, ar_t32), (15, ar_t32), (14, ar_t32), (13, ar_t32), (12, ar_t32), (0, [(0, 33)])]
def mbh217 : aw_H := [(81, mbx30), (82, mbx216), (83, .inr (.inl (0, 8, [], []))), (85, .inr (.inl (0, 4, [], []))), (86, .inr (.inl (0, 4, [], [])))]
theorem mbk33 : ai_chk [mbc5, mbc9, mbc10] mbc33 (fun pc => sm_ch sm_t150 pc, sm_Kn 3 7 none, fun x => sm_lk sm_ca3 x, some .int) [82] 7 0 [5, 130] [] 2000 [(5, [(0, .inl 81), (1, .inr (false, [(0, 0)])), (2, .inr (false, ar_t32)), (3, .inr (false, [(0, 0)])), (4, .inr (false, [(0, 0)]))], [], mbh199),
  (5, [(0, .inl 81), (1, .inr (false, [(0, 0)])), (2, .inr (false, ar_t32)), (3, .inr (false, ar_t32)), (4, .inr (false, [(1, 1)])), (5, .inr (false, [(-9, -9), (0, 7)]))], [], mbh199),
  (5, [(0, .inl 81), (1, .inr (false, [(0, 0)])), (2, .inr (false, ar_t32)), (3, .inr (false, ar_t32)), (4, .inr (false, [(2, 2)])), (5, .inr (false, [(-9, -9), (0, 7)]))], [], mbh200),
  (5, [(0, .inl 81), (1, .inr (false, [(0, 0)])), (2, .inr (false, ar_t32)), (3, .inr (false, ar_t32)), (4, .inr (false, [(3, 3)])), (5, .inr (false, [(-9, -9), (0, 7)]))], [], mbh201),
  (5, [(0, .inl 81), (1, .inr (false, [(0, 0)])), (2, .inr (false, ar_t32)), (3, .inr (false, ar_t32)), (4, .inr (false, [(4, 4)])), (5, .inr (false, [(-9, -9), (0, 7)]))], [], mbh202),
  (130, [(0, .inl 81), (1, .inr (false, [(0, 0)])), (2, .inr (false, ar_t32)), (3, .inr (false, ar_t32)), (4, .inr (false, [(0, 0)])), (5, .inr (false, [(-9, -9), (0, 7)]))], [], mbh199),
  (130, [(0, .inl 81), (1, .inr (false, [(0, 0)])), (2, .inr (false, ar_t32)), (3, .inr (false, ar_t32)), (4, .inr (false, [(1, 1)])), (5, .inr (false, [(-9, -9), (0, 7)]))], [], mbh203),
  (130, [(0, .inl 81), (1, .inr (false, [(0, 0)])), (2, .inr (false, ar_t32)), (3, .inr (false, ar_t32)), (4, .inr (false, [(2, 2)])), (5, .inr (false, [(-9, -9), (0, 7)]))], [], mbh205),
  (130, [(0, .inl 81), (1, .inr (false, [(0, 0)])), (2, .inr (false, ar_t32)), (3, .inr (false, ar_t32)), (4, .inr (false, [(3, 3)])), (5, .inr (false, [(-9, -9), (0, 7)]))], [], mbh207),
  (130, [(0, .inl 81), (1, .inr (false, [(0, 0)])), (2, .inr (false, ar_t32)), (3, .inr (false, ar_t32)), (4, .inr (false, [(4, 4)])), (5, .inr (false, [(-9, -9), (0, 7)]))], [], mbh209),
  (130, [(0, .inl 81), (1, .inr (false, [(0, 0)])), (2, .inr (false, ar_t32)), (3, .inr (false, ar_t32)), (4, .inr (false, [(5, 5)])), (5, .inr (false, [(-9, -9), (0, 7)]))], [], mbh211),
  (130, [(0, .inl 81), (1, .inr (false, [(0, 0)])), (2, .inr (false, ar_t32)), (3, .inr (false, ar_t32)), (4, .inr (false, [(6, 6)])), (5, .inr (false, [(-9, -9), (0, 7)]))], [], mbh213),
  (130, [(0, .inl 81), (1, .inr (false, [(0, 0)])), (2, .inr (false, ar_t32)), (3, .inr (false, ar_t32)), (4, .inr (false, [(7, 7)])), (5, .inr (false, [(-9, -9), (0, 7)]))], [], mbh215),
  (130, [(0, .inl 81), (1, .inr (false, [(0, 0)])), (2, .inr (false, ar_t32)), (3, .inr (false, ar_t32)), (4, .inr (false, [(8, 8)])), (5, .inr (false, [(-9, -9), (0, 7)]))], [], mbh217)] = true := by decide +kernel
/-- MiceRegistersModel.byLot -/
def mbc34 : ak_C := (189, [.inl 81, .inr (true, [(0, 2147483646)])], mbh199, [82], [([], none, mbh196)])
theorem mbk34 : ai_chk [mbc33] mbc34 (fun pc => sm_ch sm_t189 pc, sm_Kn 3 6 none, fun x => sm_lk sm_ca3 x, none) [82] 6 0 [] [] 2000 [] = true := by decide +kernel
def mbh218 : aw_H := [(82, ms_r [(0, [(0, 32)])])]
/-- MiceRegistersModel.keepPast -/
def mbh219 : aw_H := [(81, mbx0), (82, ms_r [(0, [(-1, 31)])])]
def mbc35 : ak_C := (149, [.inl 81], mbh219, [82], [([], none, mbh218)])
def mbh220 : aw_H := [(82, ms_r [(0, [(0, 32)]), (12, ar_t32)])]
/-- MiceRegistersModel.passes -/
def mbh221 : aw_H := [(81, mbx0), (82, ms_r [(0, [(0, 32)])]), (83, .inr (.inl (0, 8, [], []))), (85, .inr (.inl (0, 4, [], []))), (86, .inr (.inl (0, 4, [], [])))]
def mbc36 : ak_C := (150, [.inl 81, .inr (false, [(0, 0)]), .inr (false, ar_t32)], mbh221, [82], [([], some (.inr (false, ar_t32)), mbh220)])
def mbh222 : aw_H := [(81, mbx36), (82, ms_r [(0, [(0, 32)])]), (83, .inr (.inl (0, 8, [], []))), (85, .inr (.inl (0, 4, [], []))), (86, .inr (.inl (0, 4, [], [])))]
def mbh223 : aw_H := [(81, mbx38), (82, ms_r [(0, [(0, 32)])]), (83, .inr (.inl (0, 8, [], []))), (85, .inr (.inl (0, 4, [], []))), (86, .inr (.inl (0, 4, [], [])))]
def mbh224 : aw_H := [(81, mbx40), (82, ms_r [(0, [(0, 32)])]), (83, .inr (.inl (0, 8, [], []))), (85, .inr (.inl (0, 4, [], []))), (86, .inr (.inl (0, 4, [], [])))]
def mbh225 : aw_H := [(81, mbx0), (82, ms_r [(12, ar_t32), (0, [(0, 32)])]), (83, .inr (.inl (0, 8, [], []))), (85, .inr (.inl (0, 4, [], []))), (86, .inr (.inl (0, 4, [], [])))]
def mbx226 : aw_A := ms_r [(13, ar_t32), (12, ar_t32), (0, [(0, 32)])]
def mbh227 : aw_H := [(81, mbx12), (82, mbx226), (83, .inr (.inl (0, 8, [], []))), (85, .inr (.inl (0, 4, [], []))), (86, .inr (.inl (0, 4, [], [])))]
def mbx228 : aw_A := ms_r [(14, ar_t32), (13, ar_t32), (12, ar_t32), (0, [(0, 32)])]
def mbh229 : aw_H := [(81, mbx15), (82, mbx228), (83, .inr (.inl (0, 8, [], []))), (85, .inr (.inl (0, 4, [], []))), (86, .inr (.inl (0, 4, [], [])))]
def mbx230 : aw_A := ms_r [(15, ar_t32), (14, ar_t32), (13, ar_t32), (12, ar_t32), (0, [(0, 32)])]
def mbh231 : aw_H := [(81, mbx18), (82, mbx230), (83, .inr (.inl (0, 8, [], []))), (85, .inr (.inl (0, 4, [], []))), (86, .inr (.inl (0, 4, [], [])))]
def mbx232 : aw_A := ms_r [(16, ar_t32), (15, ar_t32), (14, ar_t32), (13, ar_t32), (12, ar_t32), (0, [(0, 32)])]
def mbh233 : aw_H := [(81, mbx21), (82, mbx232), (83, .inr (.inl (0, 8, [], []))), (85, .inr (.inl (0, 4, [], []))), (86, .inr (.inl (0, 4, [], [])))]
def mbx234 : aw_A := ms_r [(17, ar_t32), (16, ar_t32), (15, ar_t32), (14, ar_t32), (13, ar_t32), (12, ar_t32), (0, [(0, 32)])]
def mbh235 : aw_H := [(81, mbx24), (82, mbx234), (83, .inr (.inl (0, 8, [], []))), (85, .inr (.inl (0, 4, [], []))), (86, .inr (.inl (0, 4, [], [])))]
def mbx236 : aw_A := ms_r [(18, ar_t32), (17, ar_t32), (16, ar_t32), (15, ar_t32), (14, ar_t32), (13, ar_t32), (12, ar_t32), (0, [(0, 32)])]
def mbh237 : aw_H := [(81, mbx27), (82, mbx236), (83, .inr (.inl (0, 8, [], []))), (85, .inr (.inl (0, 4, [], []))), (86, .inr (.inl (0, 4, [], [])))]
def mbx238 : aw_A := ms_r [(19, ar_t32), (18, ar_t32), (17, ar_t32), (16, ar_t32), (15, ar_t32), (14, ar_t32), (13, ar_t32), (12, ar_t32), (0, [(0, 32)])]
def mbh239 : aw_H := [(81, mbx30), (82, mbx238), (83, .inr (.inl (0, 8, [], []))), (85, .inr (.inl (0, 4, [], []))), (86, .inr (.inl (0, 4, [], [])))]
theorem mbk36 : ai_chk [mbc5, mbc9, mbc10] mbc36 (fun pc => sm_ch sm_t150 pc, sm_Kn 3 7 none, fun x => sm_lk sm_ca3 x, some .int) [82] 7 0 [5, 130] [] 2000 [(5, [(0, .inl 81), (1, .inr (false, [(0, 0)])), (2, .inr (false, ar_t32)), (3, .inr (false, [(0, 0)])), (4, .inr (false, [(0, 0)]))], [], mbh221),
  (5, [(0, .inl 81), (1, .inr (false, [(0, 0)])), (2, .inr (false, ar_t32)), (3, .inr (false, ar_t32)), (4, .inr (false, [(1, 1)])), (5, .inr (false, [(-9, -9), (0, 7)]))], [], mbh221),
  (5, [(0, .inl 81), (1, .inr (false, [(0, 0)])), (2, .inr (false, ar_t32)), (3, .inr (false, ar_t32)), (4, .inr (false, [(2, 2)])), (5, .inr (false, [(-9, -9), (0, 7)]))], [], mbh222),
  (5, [(0, .inl 81), (1, .inr (false, [(0, 0)])), (2, .inr (false, ar_t32)), (3, .inr (false, ar_t32)), (4, .inr (false, [(3, 3)])), (5, .inr (false, [(-9, -9), (0, 7)]))], [], mbh223),
  (5, [(0, .inl 81), (1, .inr (false, [(0, 0)])), (2, .inr (false, ar_t32)), (3, .inr (false, ar_t32)), (4, .inr (false, [(4, 4)])), (5, .inr (false, [(-9, -9), (0, 7)]))], [], mbh224),
  (130, [(0, .inl 81), (1, .inr (false, [(0, 0)])), (2, .inr (false, ar_t32)), (3, .inr (false, ar_t32)), (4, .inr (false, [(0, 0)])), (5, .inr (false, [(-9, -9), (0, 7)]))], [], mbh221),
  (130, [(0, .inl 81), (1, .inr (false, [(0, 0)])), (2, .inr (false, ar_t32)), (3, .inr (false, ar_t32)), (4, .inr (false, [(1, 1)])), (5, .inr (false, [(-9, -9), (0, 7)]))], [], mbh225),
  (130, [(0, .inl 81), (1, .inr (false, [(0, 0)])), (2, .inr (false, ar_t32)), (3, .inr (false, ar_t32)), (4, .inr (false, [(2, 2)])), (5, .inr (false, [(-9, -9), (0, 7)]))], [], mbh227),
  (130, [(0, .inl 81), (1, .inr (false, [(0, 0)])), (2, .inr (false, ar_t32)), (3, .inr (false, ar_t32)), (4, .inr (false, [(3, 3)])), (5, .inr (false, [(-9, -9), (0, 7)]))], [], mbh229),
  (130, [(0, .inl 81), (1, .inr (false, [(0, 0)])), (2, .inr (false, ar_t32)), (3, .inr (false, ar_t32)), (4, .inr (false, [(4, 4)])), (5, .inr (false, [(-9, -9), (0, 7)]))], [], mbh231),
  (130, [(0, .inl 81), (1, .inr (false, [(0, 0)])), (2, .inr (false, ar_t32)), (3, .inr (false, ar_t32)), (4, .inr (false, [(5, 5)])), (5, .inr (false, [(-9, -9), (0, 7)]))], [], mbh233),
  (130, [(0, .inl 81), (1, .inr (false, [(0, 0)])), (2, .inr (false, ar_t32)), (3, .inr (false, ar_t32)), (4, .inr (false, [(6, 6)])), (5, .inr (false, [(-9, -9), (0, 7)]))], [], mbh235),
  (130, [(0, .inl 81), (1, .inr (false, [(0, 0)])), (2, .inr (false, ar_t32)), (3, .inr (false, ar_t32)), (4, .inr (false, [(7, 7)])), (5, .inr (false, [(-9, -9), (0, 7)]))], [], mbh237),
  (130, [(0, .inl 81), (1, .inr (false, [(0, 0)])), (2, .inr (false, ar_t32)), (3, .inr (false, ar_t32)), (4, .inr (false, [(8, 8)])), (5, .inr (false, [(-9, -9), (0, 7)]))], [], mbh239)] = true := by decide +kernel
/-- MiceRegistersModel.byLot -/
def mbc37 : ak_C := (189, [.inl 81, .inr (true, [(0, 2147483646)])], mbh221, [82], [([], none, mbh218)])
theorem mbk37 : ai_chk [mbc36] mbc37 (fun pc => sm_ch sm_t189 pc, sm_Kn 3 6 none, fun x => sm_lk sm_ca3 x, none) [82] 6 0 [] [] 2000 [] = true := by decide +kernel
def mbh240 : aw_H := [(82, ms_r [(0, [(0, 31)])])]
/-- MiceRegistersModel.keepPast -/
def mbh241 : aw_H := [(81, mbx0), (82, ms_r [(0, [(-1, 30)])])]
def mbc38 : ak_C := (149, [.inl 81], mbh241, [82], [([], none, mbh240)])
def mbh242 : aw_H := [(82, ms_r [(0, [(0, 31)]), (12, ar_t32)])]
/-- MiceRegistersModel.passes -/
def mbh243 : aw_H := [(81, mbx0), (82, ms_r [(0, [(0, 31)])]), (83, .inr (.inl (0, 8, [], []))), (85, .inr (.inl (0, 4, [], []))), (86, .inr (.inl (0, 4, [], [])))]
def mbc39 : ak_C := (150, [.inl 81, .inr (false, [(0, 0)]), .inr (false, ar_t32)], mbh243, [82], [([], some (.inr (false, ar_t32)), mbh242)])
def mbh244 : aw_H := [(81, mbx36), (82, ms_r [(0, [(0, 31)])]), (83, .inr (.inl (0, 8, [], []))), (85, .inr (.inl (0, 4, [], []))), (86, .inr (.inl (0, 4, [], [])))]
def mbh245 : aw_H := [(81, mbx38), (82, ms_r [(0, [(0, 31)])]), (83, .inr (.inl (0, 8, [], []))), (85, .inr (.inl (0, 4, [], []))), (86, .inr (.inl (0, 4, [], [])))]
def mbh246 : aw_H := [(81, mbx40), (82, ms_r [(0, [(0, 31)])]), (83, .inr (.inl (0, 8, [], []))), (85, .inr (.inl (0, 4, [], []))), (86, .inr (.inl (0, 4, [], [])))]
def mbh247 : aw_H := [(81, mbx0), (82, ms_r [(12, ar_t32), (0, [(0, 31)])]), (83, .inr (.inl (0, 8, [], []))), (85, .inr (.inl (0, 4, [], []))), (86, .inr (.inl (0, 4, [], [])))]
def mbx248 : aw_A := ms_r [(13, ar_t32), (12, ar_t32), (0, [(0, 31)])]
def mbh249 : aw_H := [(81, mbx12), (82, mbx248), (83, .inr (.inl (0, 8, [], []))), (85, .inr (.inl (0, 4, [], []))), (86, .inr (.inl (0, 4, [], [])))]
def mbx250 : aw_A := ms_r [(14, ar_t32), (13, ar_t32), (12, ar_t32), (0, [(0, 31)])]
def mbh251 : aw_H := [(81, mbx15), (82, mbx250), (83, .inr (.inl (0, 8, [], []))), (85, .inr (.inl (0, 4, [], []))), (86, .inr (.inl (0, 4, [], [])))]
def mbx252 : aw_A := ms_r [(15, ar_t32), (14, ar_t32), (13, ar_t32), (12, ar_t32), (0, [(0, 31)])]
def mbh253 : aw_H := [(81, mbx18), (82, mbx252), (83, .inr (.inl (0, 8, [], []))), (85, .inr (.inl (0, 4, [], []))), (86, .inr (.inl (0, 4, [], [])))]
def mbx254 : aw_A := ms_r [(16, ar_t32), (15, ar_t32), (14, ar_t32), (13, ar_t32), (12, ar_t32), (0, [(0, 31)])]
def mbh255 : aw_H := [(81, mbx21), (82, mbx254), (83, .inr (.inl (0, 8, [], []))), (85, .inr (.inl (0, 4, [], []))), (86, .inr (.inl (0, 4, [], [])))]
def mbx256 : aw_A := ms_r [(17, ar_t32), (16, ar_t32), (15, ar_t32), (14, ar_t32), (13, ar_t32), (12, ar_t32), (0, [(0, 31)])]
def mbh257 : aw_H := [(81, mbx24), (82, mbx256), (83, .inr (.inl (0, 8, [], []))), (85, .inr (.inl (0, 4, [], []))), (86, .inr (.inl (0, 4, [], [])))]
def mbx258 : aw_A := ms_r [(18, ar_t32), (17, ar_t32), (16, ar_t32), (15, ar_t32), (14, ar_t32), (13, ar_t32), (12, ar_t32), (0, [(0, 31)])]
def mbh259 : aw_H := [(81, mbx27), (82, mbx258), (83, .inr (.inl (0, 8, [], []))), (85, .inr (.inl (0, 4, [], []))), (86, .inr (.inl (0, 4, [], [])))]
def mbx260 : aw_A := ms_r [(19, ar_t32), (18, ar_t32), (17, ar_t32), (16, ar_t32), (15, ar_t32), (14, ar_t32), (13, ar_t32), (12, ar_t32), (0, [(0, 31)])]
def mbh261 : aw_H := [(81, mbx30), (82, mbx260), (83, .inr (.inl (0, 8, [], []))), (85, .inr (.inl (0, 4, [], []))), (86, .inr (.inl (0, 4, [], [])))]
theorem mbk39 : ai_chk [mbc5, mbc9, mbc10] mbc39 (fun pc => sm_ch sm_t150 pc, sm_Kn 3 7 none, fun x => sm_lk sm_ca3 x, some .int) [82] 7 0 [5, 130] [] 2000 [(5, [(0, .inl 81), (1, .inr (false, [(0, 0)])), (2, .inr (false, ar_t32)), (3, .inr (false, [(0, 0)])), (4, .inr (false, [(0, 0)]))], [], mbh243),
  (5, [(0, .inl 81), (1, .inr (false, [(0, 0)])), (2, .inr (false, ar_t32)), (3, .inr (false, ar_t32)), (4, .inr (false, [(1, 1)])), (5, .inr (false, [(-9, -9), (0, 7)]))], [], mbh243),
  (5, [(0, .inl 81), (1, .inr (false, [(0, 0)])), (2, .inr (false, ar_t32)), (3, .inr (false, ar_t32)), (4, .inr (false, [(2, 2)])), (5, .inr (false, [(-9, -9), (0, 7)]))], [], mbh244),
  (5, [(0, .inl 81), (1, .inr (false, [(0, 0)])), (2, .inr (false, ar_t32)), (3, .inr (false, ar_t32)), (4, .inr (false, [(3, 3)])), (5, .inr (false, [(-9, -9), (0, 7)]))], [], mbh245),
  (5, [(0, .inl 81), (1, .inr (false, [(0, 0)])), (2, .inr (false, ar_t32)), (3, .inr (false, ar_t32)), (4, .inr (false, [(4, 4)])), (5, .inr (false, [(-9, -9), (0, 7)]))], [], mbh246),
  (130, [(0, .inl 81), (1, .inr (false, [(0, 0)])), (2, .inr (false, ar_t32)), (3, .inr (false, ar_t32)), (4, .inr (false, [(0, 0)])), (5, .inr (false, [(-9, -9), (0, 7)]))], [], mbh243),
  (130, [(0, .inl 81), (1, .inr (false, [(0, 0)])), (2, .inr (false, ar_t32)), (3, .inr (false, ar_t32)), (4, .inr (false, [(1, 1)])), (5, .inr (false, [(-9, -9), (0, 7)]))], [], mbh247),
  (130, [(0, .inl 81), (1, .inr (false, [(0, 0)])), (2, .inr (false, ar_t32)), (3, .inr (false, ar_t32)), (4, .inr (false, [(2, 2)])), (5, .inr (false, [(-9, -9), (0, 7)]))], [], mbh249),
  (130, [(0, .inl 81), (1, .inr (false, [(0, 0)])), (2, .inr (false, ar_t32)), (3, .inr (false, ar_t32)), (4, .inr (false, [(3, 3)])), (5, .inr (false, [(-9, -9), (0, 7)]))], [], mbh251),
  (130, [(0, .inl 81), (1, .inr (false, [(0, 0)])), (2, .inr (false, ar_t32)), (3, .inr (false, ar_t32)), (4, .inr (false, [(4, 4)])), (5, .inr (false, [(-9, -9), (0, 7)]))], [], mbh253),
  (130, [(0, .inl 81), (1, .inr (false, [(0, 0)])), (2, .inr (false, ar_t32)), (3, .inr (false, ar_t32)), (4, .inr (false, [(5, 5)])), (5, .inr (false, [(-9, -9), (0, 7)]))], [], mbh255),
  (130, [(0, .inl 81), (1, .inr (false, [(0, 0)])), (2, .inr (false, ar_t32)), (3, .inr (false, ar_t32)), (4, .inr (false, [(6, 6)])), (5, .inr (false, [(-9, -9), (0, 7)]))], [], mbh257),
  (130, [(0, .inl 81), (1, .inr (false, [(0, 0)])), (2, .inr (false, ar_t32)), (3, .inr (false, ar_t32)), (4, .inr (false, [(7, 7)])), (5, .inr (false, [(-9, -9), (0, 7)]))], [], mbh259),
  (130, [(0, .inl 81), (1, .inr (false, [(0, 0)])), (2, .inr (false, ar_t32)), (3, .inr (false, ar_t32)), (4, .inr (false, [(8, 8)])), (5, .inr (false, [(-9, -9), (0, 7)]))], [], mbh261)] = true := by decide +kernel
/-- MiceRegistersModel.byLot -/
def mbc40 : ak_C := (189, [.inl 81, .inr (true, [(0, 2147483646)])], mbh243, [82], [([], none, mbh240)])
theorem mbk40 : ai_chk [mbc39] mbc40 (fun pc => sm_ch sm_t189 pc, sm_Kn 3 6 none, fun x => sm_lk sm_ca3 x, none) [82] 6 0 [] [] 2000 [] = true := by decide +kernel
def mbh262 : aw_H := [(82, ms_r [(0, [(0, 30)])])]
/-- MiceRegistersModel.keepPast -/
def mbh263 : aw_H := [(81, mbx0), (82, ms_r [(0, [(-1, 29)])])]
def mbc41 : ak_C := (149, [.inl 81], mbh263, [82], [([], none, mbh262)])
def mbh264 : aw_H := [(82, ms_r [(0, [(0, 30)]), (12, ar_t32)])]
/-- MiceRegistersModel.passes -/
def mbh265 : aw_H := [(81, mbx0), (82, ms_r [(0, [(0, 30)])]), (83, .inr (.inl (0, 8, [], []))), (85, .inr (.inl (0, 4, [], []))), (86, .inr (.inl (0, 4, [], [])))]
def mbc42 : ak_C := (150, [.inl 81, .inr (false, [(0, 0)]), .inr (false, ar_t32)], mbh265, [82], [([], some (.inr (false, ar_t32)), mbh264)])
def mbh266 : aw_H := [(81, mbx36), (82, ms_r [(0, [(0, 30)])]), (83, .inr (.inl (0, 8, [], []))), (85, .inr (.inl (0, 4, [], []))), (86, .inr (.inl (0, 4, [], [])))]
def mbh267 : aw_H := [(81, mbx38), (82, ms_r [(0, [(0, 30)])]), (83, .inr (.inl (0, 8, [], []))), (85, .inr (.inl (0, 4, [], []))), (86, .inr (.inl (0, 4, [], [])))]
def mbh268 : aw_H := [(81, mbx40), (82, ms_r [(0, [(0, 30)])]), (83, .inr (.inl (0, 8, [], []))), (85, .inr (.inl (0, 4, [], []))), (86, .inr (.inl (0, 4, [], [])))]
def mbh269 : aw_H := [(81, mbx0), (82, ms_r [(12, ar_t32), (0, [(0, 30)])]), (83, .inr (.inl (0, 8, [], []))), (85, .inr (.inl (0, 4, [], []))), (86, .inr (.inl (0, 4, [], [])))]
def mbx270 : aw_A := ms_r [(13, ar_t32), (12, ar_t32), (0, [(0, 30)])]
def mbh271 : aw_H := [(81, mbx12), (82, mbx270), (83, .inr (.inl (0, 8, [], []))), (85, .inr (.inl (0, 4, [], []))), (86, .inr (.inl (0, 4, [], [])))]
def mbx272 : aw_A := ms_r [(14, ar_t32), (13, ar_t32), (12, ar_t32), (0, [(0, 30)])]
def mbh273 : aw_H := [(81, mbx15), (82, mbx272), (83, .inr (.inl (0, 8, [], []))), (85, .inr (.inl (0, 4, [], []))), (86, .inr (.inl (0, 4, [], [])))]
def mbx274 : aw_A := ms_r [(15, ar_t32), (14, ar_t32), (13, ar_t32), (12, ar_t32), (0, [(0, 30)])]
def mbh275 : aw_H := [(81, mbx18), (82, mbx274), (83, .inr (.inl (0, 8, [], []))), (85, .inr (.inl (0, 4, [], []))), (86, .inr (.inl (0, 4, [], [])))]
def mbx276 : aw_A := ms_r [(16, ar_t32), (15, ar_t32), (14, ar_t32), (13, ar_t32), (12, ar_t32), (0, [(0, 30)])]
def mbh277 : aw_H := [(81, mbx21), (82, mbx276), (83, .inr (.inl (0, 8, [], []))), (85, .inr (.inl (0, 4, [], []))), (86, .inr (.inl (0, 4, [], [])))]
def mbx278 : aw_A := ms_r [(17, ar_t32), (16, ar_t32), (15, ar_t32), (14, ar_t32), (13, ar_t32), (12, ar_t32), (0, [(0, 30)])]
def mbh279 : aw_H := [(81, mbx24), (82, mbx278), (83, .inr (.inl (0, 8, [], []))), (85, .inr (.inl (0, 4, [], []))), (86, .inr (.inl (0, 4, [], [])))]
def mbx280 : aw_A := ms_r [(18, ar_t32), (17, ar_t32), (16, ar_t32), (15, ar_t32), (14, ar_t32), (13, ar_t32), (12, ar_t32), (0, [(0, 30)])]
def mbh281 : aw_H := [(81, mbx27), (82, mbx280), (83, .inr (.inl (0, 8, [], []))), (85, .inr (.inl (0, 4, [], []))), (86, .inr (.inl (0, 4, [], [])))]
def mbx282 : aw_A := ms_r [(19, ar_t32), (18, ar_t32), (17, ar_t32), (16, ar_t32), (15, ar_t32), (14, ar_t32), (13, ar_t32), (12, ar_t32), (0, [(0, 30)])]
def mbh283 : aw_H := [(81, mbx30), (82, mbx282), (83, .inr (.inl (0, 8, [], []))), (85, .inr (.inl (0, 4, [], []))), (86, .inr (.inl (0, 4, [], [])))]
theorem mbk42 : ai_chk [mbc5, mbc9, mbc10] mbc42 (fun pc => sm_ch sm_t150 pc, sm_Kn 3 7 none, fun x => sm_lk sm_ca3 x, some .int) [82] 7 0 [5, 130] [] 2000 [(5, [(0, .inl 81), (1, .inr (false, [(0, 0)])), (2, .inr (false, ar_t32)), (3, .inr (false, [(0, 0)])), (4, .inr (false, [(0, 0)]))], [], mbh265),
  (5, [(0, .inl 81), (1, .inr (false, [(0, 0)])), (2, .inr (false, ar_t32)), (3, .inr (false, ar_t32)), (4, .inr (false, [(1, 1)])), (5, .inr (false, [(-9, -9), (0, 7)]))], [], mbh265),
  (5, [(0, .inl 81), (1, .inr (false, [(0, 0)])), (2, .inr (false, ar_t32)), (3, .inr (false, ar_t32)), (4, .inr (false, [(2, 2)])), (5, .inr (false, [(-9, -9), (0, 7)]))], [], mbh266),
  (5, [(0, .inl 81), (1, .inr (false, [(0, 0)])), (2, .inr (false, ar_t32)), (3, .inr (false, ar_t32)), (4, .inr (false, [(3, 3)])), (5, .inr (false, [(-9, -9), (0, 7)]))], [], mbh267),
  (5, [(0, .inl 81), (1, .inr (false, [(0, 0)])), (2, .inr (false, ar_t32)), (3, .inr (false, ar_t32)), (4, .inr (false, [(4, 4)])), (5, .inr (false, [(-9, -9), (0, 7)]))], [], mbh268),
  (130, [(0, .inl 81), (1, .inr (false, [(0, 0)])), (2, .inr (false, ar_t32)), (3, .inr (false, ar_t32)), (4, .inr (false, [(0, 0)])), (5, .inr (false, [(-9, -9), (0, 7)]))], [], mbh265),
  (130, [(0, .inl 81), (1, .inr (false, [(0, 0)])), (2, .inr (false, ar_t32)), (3, .inr (false, ar_t32)), (4, .inr (false, [(1, 1)])), (5, .inr (false, [(-9, -9), (0, 7)]))], [], mbh269),
  (130, [(0, .inl 81), (1, .inr (false, [(0, 0)])), (2, .inr (false, ar_t32)), (3, .inr (false, ar_t32)), (4, .inr (false, [(2, 2)])), (5, .inr (false, [(-9, -9), (0, 7)]))], [], mbh271),
  (130, [(0, .inl 81), (1, .inr (false, [(0, 0)])), (2, .inr (false, ar_t32)), (3, .inr (false, ar_t32)), (4, .inr (false, [(3, 3)])), (5, .inr (false, [(-9, -9), (0, 7)]))], [], mbh273),
  (130, [(0, .inl 81), (1, .inr (false, [(0, 0)])), (2, .inr (false, ar_t32)), (3, .inr (false, ar_t32)), (4, .inr (false, [(4, 4)])), (5, .inr (false, [(-9, -9), (0, 7)]))], [], mbh275),
  (130, [(0, .inl 81), (1, .inr (false, [(0, 0)])), (2, .inr (false, ar_t32)), (3, .inr (false, ar_t32)), (4, .inr (false, [(5, 5)])), (5, .inr (false, [(-9, -9), (0, 7)]))], [], mbh277),
  (130, [(0, .inl 81), (1, .inr (false, [(0, 0)])), (2, .inr (false, ar_t32)), (3, .inr (false, ar_t32)), (4, .inr (false, [(6, 6)])), (5, .inr (false, [(-9, -9), (0, 7)]))], [], mbh279),
  (130, [(0, .inl 81), (1, .inr (false, [(0, 0)])), (2, .inr (false, ar_t32)), (3, .inr (false, ar_t32)), (4, .inr (false, [(7, 7)])), (5, .inr (false, [(-9, -9), (0, 7)]))], [], mbh281),
  (130, [(0, .inl 81), (1, .inr (false, [(0, 0)])), (2, .inr (false, ar_t32)), (3, .inr (false, ar_t32)), (4, .inr (false, [(8, 8)])), (5, .inr (false, [(-9, -9), (0, 7)]))], [], mbh283)] = true := by decide +kernel
/-- MiceRegistersModel.byLot -/
def mbc43 : ak_C := (189, [.inl 81, .inr (true, [(0, 2147483646)])], mbh265, [82], [([], none, mbh262)])
theorem mbk43 : ai_chk [mbc42] mbc43 (fun pc => sm_ch sm_t189 pc, sm_Kn 3 6 none, fun x => sm_lk sm_ca3 x, none) [82] 6 0 [] [] 2000 [] = true := by decide +kernel
def mbh284 : aw_H := [(82, ms_r [(0, [(0, 29)])])]
/-- MiceRegistersModel.keepPast -/
def mbh285 : aw_H := [(81, mbx0), (82, ms_r [(0, [(-1, 28)])])]
def mbc44 : ak_C := (149, [.inl 81], mbh285, [82], [([], none, mbh284)])
def mbh286 : aw_H := [(82, ms_r [(0, [(0, 29)]), (12, ar_t32)])]
/-- MiceRegistersModel.passes -/
def mbh287 : aw_H := [(81, mbx0), (82, ms_r [(0, [(0, 29)])]), (83, .inr (.inl (0, 8, [], []))), (85, .inr (.inl (0, 4, [], []))), (86, .inr (.inl (0, 4, [], [])))]
def mbc45 : ak_C := (150, [.inl 81, .inr (false, [(0, 0)]), .inr (false, ar_t32)], mbh287, [82], [([], some (.inr (false, ar_t32)), mbh286)])
def mbh288 : aw_H := [(81, mbx36), (82, ms_r [(0, [(0, 29)])]), (83, .inr (.inl (0, 8, [], []))), (85, .inr (.inl (0, 4, [], []))), (86, .inr (.inl (0, 4, [], [])))]
def mbh289 : aw_H := [(81, mbx38), (82, ms_r [(0, [(0, 29)])]), (83, .inr (.inl (0, 8, [], []))), (85, .inr (.inl (0, 4, [], []))), (86, .inr (.inl (0, 4, [], [])))]
def mbh290 : aw_H := [(81, mbx40), (82, ms_r [(0, [(0, 29)])]), (83, .inr (.inl (0, 8, [], []))), (85, .inr (.inl (0, 4, [], []))), (86, .inr (.inl (0, 4, [], [])))]
def mbh291 : aw_H := [(81, mbx0), (82, ms_r [(12, ar_t32), (0, [(0, 29)])]), (83, .inr (.inl (0, 8, [], []))), (85, .inr (.inl (0, 4, [], []))), (86, .inr (.inl (0, 4, [], [])))]
def mbx292 : aw_A := ms_r [(13, ar_t32), (12, ar_t32), (0, [(0, 29)])]
def mbh293 : aw_H := [(81, mbx12), (82, mbx292), (83, .inr (.inl (0, 8, [], []))), (85, .inr (.inl (0, 4, [], []))), (86, .inr (.inl (0, 4, [], [])))]
def mbx294 : aw_A := ms_r [(14, ar_t32), (13, ar_t32), (12, ar_t32), (0, [(0, 29)])]
def mbh295 : aw_H := [(81, mbx15), (82, mbx294), (83, .inr (.inl (0, 8, [], []))), (85, .inr (.inl (0, 4, [], []))), (86, .inr (.inl (0, 4, [], [])))]
def mbx296 : aw_A := ms_r [(15, ar_t32), (14, ar_t32), (13, ar_t32), (12, ar_t32), (0, [(0, 29)])]
def mbh297 : aw_H := [(81, mbx18), (82, mbx296), (83, .inr (.inl (0, 8, [], []))), (85, .inr (.inl (0, 4, [], []))), (86, .inr (.inl (0, 4, [], [])))]
def mbx298 : aw_A := ms_r [(16, ar_t32), (15, ar_t32), (14, ar_t32), (13, ar_t32), (12, ar_t32), (0, [(0, 29)])]
def mbh299 : aw_H := [(81, mbx21), (82, mbx298), (83, .inr (.inl (0, 8, [], []))), (85, .inr (.inl (0, 4, [], []))), (86, .inr (.inl (0, 4, [], [])))]
def mbx300 : aw_A := ms_r [(17, ar_t32), (16, ar_t32), (15, ar_t32), (14, ar_t32), (13, ar_t32), (12, ar_t32), (0, [(0, 29)])]
def mbh301 : aw_H := [(81, mbx24), (82, mbx300), (83, .inr (.inl (0, 8, [], []))), (85, .inr (.inl (0, 4, [], []))), (86, .inr (.inl (0, 4, [], [])))]
def mbx302 : aw_A := ms_r [(18, ar_t32), (17, ar_t32), (16, ar_t32), (15, ar_t32), (14, ar_t32), (13, ar_t32), (12, ar_t32), (0, [(0, 29)])]
def mbh303 : aw_H := [(81, mbx27), (82, mbx302), (83, .inr (.inl (0, 8, [], []))), (85, .inr (.inl (0, 4, [], []))), (86, .inr (.inl (0, 4, [], [])))]
def mbx304 : aw_A := ms_r [(19, ar_t32), (18, ar_t32), (17, ar_t32), (16, ar_t32), (15, ar_t32), (14, ar_t32), (13, ar_t32), (12, ar_t32), (0, [(0, 29)])]
def mbh305 : aw_H := [(81, mbx30), (82, mbx304), (83, .inr (.inl (0, 8, [], []))), (85, .inr (.inl (0, 4, [], []))), (86, .inr (.inl (0, 4, [], [])))]
theorem mbk45 : ai_chk [mbc5, mbc9, mbc10] mbc45 (fun pc => sm_ch sm_t150 pc, sm_Kn 3 7 none, fun x => sm_lk sm_ca3 x, some .int) [82] 7 0 [5, 130] [] 2000 [(5, [(0, .inl 81), (1, .inr (false, [(0, 0)])), (2, .inr (false, ar_t32)), (3, .inr (false, [(0, 0)])), (4, .inr (false, [(0, 0)]))], [], mbh287),
  (5, [(0, .inl 81), (1, .inr (false, [(0, 0)])), (2, .inr (false, ar_t32)), (3, .inr (false, ar_t32)), (4, .inr (false, [(1, 1)])), (5, .inr (false, [(-9, -9), (0, 7)]))], [], mbh287),
  (5, [(0, .inl 81), (1, .inr (false, [(0, 0)])), (2, .inr (false, ar_t32)), (3, .inr (false, ar_t32)), (4, .inr (false, [(2, 2)])), (5, .inr (false, [(-9, -9), (0, 7)]))], [], mbh288),
  (5, [(0, .inl 81), (1, .inr (false, [(0, 0)])), (2, .inr (false, ar_t32)), (3, .inr (false, ar_t32)), (4, .inr (false, [(3, 3)])), (5, .inr (false, [(-9, -9), (0, 7)]))], [], mbh289),
  (5, [(0, .inl 81), (1, .inr (false, [(0, 0)])), (2, .inr (false, ar_t32)), (3, .inr (false, ar_t32)), (4, .inr (false, [(4, 4)])), (5, .inr (false, [(-9, -9), (0, 7)]))], [], mbh290),
  (130, [(0, .inl 81), (1, .inr (false, [(0, 0)])), (2, .inr (false, ar_t32)), (3, .inr (false, ar_t32)), (4, .inr (false, [(0, 0)])), (5, .inr (false, [(-9, -9), (0, 7)]))], [], mbh287),
  (130, [(0, .inl 81), (1, .inr (false, [(0, 0)])), (2, .inr (false, ar_t32)), (3, .inr (false, ar_t32)), (4, .inr (false, [(1, 1)])), (5, .inr (false, [(-9, -9), (0, 7)]))], [], mbh291),
  (130, [(0, .inl 81), (1, .inr (false, [(0, 0)])), (2, .inr (false, ar_t32)), (3, .inr (false, ar_t32)), (4, .inr (false, [(2, 2)])), (5, .inr (false, [(-9, -9), (0, 7)]))], [], mbh293),
  (130, [(0, .inl 81), (1, .inr (false, [(0, 0)])), (2, .inr (false, ar_t32)), (3, .inr (false, ar_t32)), (4, .inr (false, [(3, 3)])), (5, .inr (false, [(-9, -9), (0, 7)]))], [], mbh295),
  (130, [(0, .inl 81), (1, .inr (false, [(0, 0)])), (2, .inr (false, ar_t32)), (3, .inr (false, ar_t32)), (4, .inr (false, [(4, 4)])), (5, .inr (false, [(-9, -9), (0, 7)]))], [], mbh297),
  (130, [(0, .inl 81), (1, .inr (false, [(0, 0)])), (2, .inr (false, ar_t32)), (3, .inr (false, ar_t32)), (4, .inr (false, [(5, 5)])), (5, .inr (false, [(-9, -9), (0, 7)]))], [], mbh299),
  (130, [(0, .inl 81), (1, .inr (false, [(0, 0)])), (2, .inr (false, ar_t32)), (3, .inr (false, ar_t32)), (4, .inr (false, [(6, 6)])), (5, .inr (false, [(-9, -9), (0, 7)]))], [], mbh301),
  (130, [(0, .inl 81), (1, .inr (false, [(0, 0)])), (2, .inr (false, ar_t32)), (3, .inr (false, ar_t32)), (4, .inr (false, [(7, 7)])), (5, .inr (false, [(-9, -9), (0, 7)]))], [], mbh303),
  (130, [(0, .inl 81), (1, .inr (false, [(0, 0)])), (2, .inr (false, ar_t32)), (3, .inr (false, ar_t32)), (4, .inr (false, [(8, 8)])), (5, .inr (false, [(-9, -9), (0, 7)]))], [], mbh305)] = true := by decide +kernel
/-- MiceRegistersModel.byLot -/
def mbc46 : ak_C := (189, [.inl 81, .inr (true, [(0, 2147483646)])], mbh287, [82], [([], none, mbh284)])
theorem mbk46 : ai_chk [mbc45] mbc46 (fun pc => sm_ch sm_t189 pc, sm_Kn 3 6 none, fun x => sm_lk sm_ca3 x, none) [82] 6 0 [] [] 2000 [] = true := by decide +kernel
def mbh306 : aw_H := [(82, ms_r [(0, [(0, 28)])])]
/-- MiceRegistersModel.keepPast -/
def mbh307 : aw_H := [(81, mbx0), (82, ms_r [(0, [(-1, 27)])])]
def mbc47 : ak_C := (149, [.inl 81], mbh307, [82], [([], none, mbh306)])
def mbh308 : aw_H := [(82, ms_r [(0, [(0, 28)]), (12, ar_t32)])]
/-- MiceRegistersModel.passes -/
def mbh309 : aw_H := [(81, mbx0), (82, ms_r [(0, [(0, 28)])]), (83, .inr (.inl (0, 8, [], []))), (85, .inr (.inl (0, 4, [], []))), (86, .inr (.inl (0, 4, [], [])))]
def mbc48 : ak_C := (150, [.inl 81, .inr (false, [(0, 0)]), .inr (false, ar_t32)], mbh309, [82], [([], some (.inr (false, ar_t32)), mbh308)])
def mbh310 : aw_H := [(81, mbx36), (82, ms_r [(0, [(0, 28)])]), (83, .inr (.inl (0, 8, [], []))), (85, .inr (.inl (0, 4, [], []))), (86, .inr (.inl (0, 4, [], [])))]
def mbh311 : aw_H := [(81, mbx38), (82, ms_r [(0, [(0, 28)])]), (83, .inr (.inl (0, 8, [], []))), (85, .inr (.inl (0, 4, [], []))), (86, .inr (.inl (0, 4, [], [])))]
def mbh312 : aw_H := [(81, mbx40), (82, ms_r [(0, [(0, 28)])]), (83, .inr (.inl (0, 8, [], []))), (85, .inr (.inl (0, 4, [], []))), (86, .inr (.inl (0, 4, [], [])))]
def mbh313 : aw_H := [(81, mbx0), (82, ms_r [(12, ar_t32), (0, [(0, 28)])]), (83, .inr (.inl (0, 8, [], []))), (85, .inr (.inl (0, 4, [], []))), (86, .inr (.inl (0, 4, [], [])))]
def mbx314 : aw_A := ms_r [(13, ar_t32), (12, ar_t32), (0, [(0, 28)])]
def mbh315 : aw_H := [(81, mbx12), (82, mbx314), (83, .inr (.inl (0, 8, [], []))), (85, .inr (.inl (0, 4, [], []))), (86, .inr (.inl (0, 4, [], [])))]
def mbx316 : aw_A := ms_r [(14, ar_t32), (13, ar_t32), (12, ar_t32), (0, [(0, 28)])]
def mbh317 : aw_H := [(81, mbx15), (82, mbx316), (83, .inr (.inl (0, 8, [], []))), (85, .inr (.inl (0, 4, [], []))), (86, .inr (.inl (0, 4, [], [])))]
def mbx318 : aw_A := ms_r [(15, ar_t32), (14, ar_t32), (13, ar_t32), (12, ar_t32), (0, [(0, 28)])]
def mbh319 : aw_H := [(81, mbx18), (82, mbx318), (83, .inr (.inl (0, 8, [], []))), (85, .inr (.inl (0, 4, [], []))), (86, .inr (.inl (0, 4, [], [])))]
def mbx320 : aw_A := ms_r [(16, ar_t32), (15, ar_t32), (14, ar_t32), (13, ar_t32), (12, ar_t32), (0, [(0, 28)])]
def mbh321 : aw_H := [(81, mbx21), (82, mbx320), (83, .inr (.inl (0, 8, [], []))), (85, .inr (.inl (0, 4, [], []))), (86, .inr (.inl (0, 4, [], [])))]
def mbx322 : aw_A := ms_r [(17, ar_t32), (16, ar_t32), (15, ar_t32), (14, ar_t32), (13, ar_t32), (12, ar_t32), (0, [(0, 28)])]
def mbh323 : aw_H := [(81, mbx24), (82, mbx322), (83, .inr (.inl (0, 8, [], []))), (85, .inr (.inl (0, 4, [], []))), (86, .inr (.inl (0, 4, [], [])))]
def mbx324 : aw_A := ms_r [(18, ar_t32), (17, ar_t32), (16, ar_t32), (15, ar_t32), (14, ar_t32), (13, ar_t32), (12, ar_t32), (0, [(0, 28)])]
def mbh325 : aw_H := [(81, mbx27), (82, mbx324), (83, .inr (.inl (0, 8, [], []))), (85, .inr (.inl (0, 4, [], []))), (86, .inr (.inl (0, 4, [], [])))]
def mbx326 : aw_A := ms_r [(19, ar_t32), (18, ar_t32), (17, ar_t32), (16, ar_t32), (15, ar_t32), (14, ar_t32), (13, ar_t32), (12, ar_t32), (0, [(0, 28)])]
def mbh327 : aw_H := [(81, mbx30), (82, mbx326), (83, .inr (.inl (0, 8, [], []))), (85, .inr (.inl (0, 4, [], []))), (86, .inr (.inl (0, 4, [], [])))]
theorem mbk48 : ai_chk [mbc5, mbc9, mbc10] mbc48 (fun pc => sm_ch sm_t150 pc, sm_Kn 3 7 none, fun x => sm_lk sm_ca3 x, some .int) [82] 7 0 [5, 130] [] 2000 [(5, [(0, .inl 81), (1, .inr (false, [(0, 0)])), (2, .inr (false, ar_t32)), (3, .inr (false, [(0, 0)])), (4, .inr (false, [(0, 0)]))], [], mbh309),
  (5, [(0, .inl 81), (1, .inr (false, [(0, 0)])), (2, .inr (false, ar_t32)), (3, .inr (false, ar_t32)), (4, .inr (false, [(1, 1)])), (5, .inr (false, [(-9, -9), (0, 7)]))], [], mbh309),
  (5, [(0, .inl 81), (1, .inr (false, [(0, 0)])), (2, .inr (false, ar_t32)), (3, .inr (false, ar_t32)), (4, .inr (false, [(2, 2)])), (5, .inr (false, [(-9, -9), (0, 7)]))], [], mbh310),
  (5, [(0, .inl 81), (1, .inr (false, [(0, 0)])), (2, .inr (false, ar_t32)), (3, .inr (false, ar_t32)), (4, .inr (false, [(3, 3)])), (5, .inr (false, [(-9, -9), (0, 7)]))], [], mbh311),
  (5, [(0, .inl 81), (1, .inr (false, [(0, 0)])), (2, .inr (false, ar_t32)), (3, .inr (false, ar_t32)), (4, .inr (false, [(4, 4)])), (5, .inr (false, [(-9, -9), (0, 7)]))], [], mbh312),
  (130, [(0, .inl 81), (1, .inr (false, [(0, 0)])), (2, .inr (false, ar_t32)), (3, .inr (false, ar_t32)), (4, .inr (false, [(0, 0)])), (5, .inr (false, [(-9, -9), (0, 7)]))], [], mbh309),
  (130, [(0, .inl 81), (1, .inr (false, [(0, 0)])), (2, .inr (false, ar_t32)), (3, .inr (false, ar_t32)), (4, .inr (false, [(1, 1)])), (5, .inr (false, [(-9, -9), (0, 7)]))], [], mbh313),
  (130, [(0, .inl 81), (1, .inr (false, [(0, 0)])), (2, .inr (false, ar_t32)), (3, .inr (false, ar_t32)), (4, .inr (false, [(2, 2)])), (5, .inr (false, [(-9, -9), (0, 7)]))], [], mbh315),
  (130, [(0, .inl 81), (1, .inr (false, [(0, 0)])), (2, .inr (false, ar_t32)), (3, .inr (false, ar_t32)), (4, .inr (false, [(3, 3)])), (5, .inr (false, [(-9, -9), (0, 7)]))], [], mbh317),
  (130, [(0, .inl 81), (1, .inr (false, [(0, 0)])), (2, .inr (false, ar_t32)), (3, .inr (false, ar_t32)), (4, .inr (false, [(4, 4)])), (5, .inr (false, [(-9, -9), (0, 7)]))], [], mbh319),
  (130, [(0, .inl 81), (1, .inr (false, [(0, 0)])), (2, .inr (false, ar_t32)), (3, .inr (false, ar_t32)), (4, .inr (false, [(5, 5)])), (5, .inr (false, [(-9, -9), (0, 7)]))], [], mbh321),
  (130, [(0, .inl 81), (1, .inr (false, [(0, 0)])), (2, .inr (false, ar_t32)), (3, .inr (false, ar_t32)), (4, .inr (false, [(6, 6)])), (5, .inr (false, [(-9, -9), (0, 7)]))], [], mbh323),
  (130, [(0, .inl 81), (1, .inr (false, [(0, 0)])), (2, .inr (false, ar_t32)), (3, .inr (false, ar_t32)), (4, .inr (false, [(7, 7)])), (5, .inr (false, [(-9, -9), (0, 7)]))], [], mbh325),
  (130, [(0, .inl 81), (1, .inr (false, [(0, 0)])), (2, .inr (false, ar_t32)), (3, .inr (false, ar_t32)), (4, .inr (false, [(8, 8)])), (5, .inr (false, [(-9, -9), (0, 7)]))], [], mbh327)] = true := by decide +kernel
/-- MiceRegistersModel.byLot -/
def mbc49 : ak_C := (189, [.inl 81, .inr (true, [(0, 2147483646)])], mbh309, [82], [([], none, mbh306)])
theorem mbk49 : ai_chk [mbc48] mbc49 (fun pc => sm_ch sm_t189 pc, sm_Kn 3 6 none, fun x => sm_lk sm_ca3 x, none) [82] 6 0 [] [] 2000 [] = true := by decide +kernel
def mbh328 : aw_H := [(82, ms_r [(0, [(0, 27)])])]
/-- MiceRegistersModel.keepPast -/
def mbh329 : aw_H := [(81, mbx0), (82, ms_r [(0, [(-1, 26)])])]
def mbc50 : ak_C := (149, [.inl 81], mbh329, [82], [([], none, mbh328)])
def mbh330 : aw_H := [(82, ms_r [(0, [(0, 27)]), (12, ar_t32)])]
/-- MiceRegistersModel.passes -/
def mbh331 : aw_H := [(81, mbx0), (82, ms_r [(0, [(0, 27)])]), (83, .inr (.inl (0, 8, [], []))), (85, .inr (.inl (0, 4, [], []))), (86, .inr (.inl (0, 4, [], [])))]
def mbc51 : ak_C := (150, [.inl 81, .inr (false, [(0, 0)]), .inr (false, ar_t32)], mbh331, [82], [([], some (.inr (false, ar_t32)), mbh330)])
def mbh332 : aw_H := [(81, mbx36), (82, ms_r [(0, [(0, 27)])]), (83, .inr (.inl (0, 8, [], []))), (85, .inr (.inl (0, 4, [], []))), (86, .inr (.inl (0, 4, [], [])))]
def mbh333 : aw_H := [(81, mbx38), (82, ms_r [(0, [(0, 27)])]), (83, .inr (.inl (0, 8, [], []))), (85, .inr (.inl (0, 4, [], []))), (86, .inr (.inl (0, 4, [], [])))]
def mbh334 : aw_H := [(81, mbx40), (82, ms_r [(0, [(0, 27)])]), (83, .inr (.inl (0, 8, [], []))), (85, .inr (.inl (0, 4, [], []))), (86, .inr (.inl (0, 4, [], [])))]
def mbh335 : aw_H := [(81, mbx0), (82, ms_r [(12, ar_t32), (0, [(0, 27)])]), (83, .inr (.inl (0, 8, [], []))), (85, .inr (.inl (0, 4, [], []))), (86, .inr (.inl (0, 4, [], [])))]
def mbx336 : aw_A := ms_r [(13, ar_t32), (12, ar_t32), (0, [(0, 27)])]
def mbh337 : aw_H := [(81, mbx12), (82, mbx336), (83, .inr (.inl (0, 8, [], []))), (85, .inr (.inl (0, 4, [], []))), (86, .inr (.inl (0, 4, [], [])))]
def mbx338 : aw_A := ms_r [(14, ar_t32), (13, ar_t32), (12, ar_t32), (0, [(0, 27)])]
def mbh339 : aw_H := [(81, mbx15), (82, mbx338), (83, .inr (.inl (0, 8, [], []))), (85, .inr (.inl (0, 4, [], []))), (86, .inr (.inl (0, 4, [], [])))]
def mbx340 : aw_A := ms_r [(15, ar_t32), (14, ar_t32), (13, ar_t32), (12, ar_t32), (0, [(0, 27)])]
def mbh341 : aw_H := [(81, mbx18), (82, mbx340), (83, .inr (.inl (0, 8, [], []))), (85, .inr (.inl (0, 4, [], []))), (86, .inr (.inl (0, 4, [], [])))]
def mbx342 : aw_A := ms_r [(16, ar_t32), (15, ar_t32), (14, ar_t32), (13, ar_t32), (12, ar_t32), (0, [(0, 27)])]
def mbh343 : aw_H := [(81, mbx21), (82, mbx342), (83, .inr (.inl (0, 8, [], []))), (85, .inr (.inl (0, 4, [], []))), (86, .inr (.inl (0, 4, [], [])))]
def mbx344 : aw_A := ms_r [(17, ar_t32), (16, ar_t32), (15, ar_t32), (14, ar_t32), (13, ar_t32), (12, ar_t32), (0, [(0, 27)])]
def mbh345 : aw_H := [(81, mbx24), (82, mbx344), (83, .inr (.inl (0, 8, [], []))), (85, .inr (.inl (0, 4, [], []))), (86, .inr (.inl (0, 4, [], [])))]
def mbx346 : aw_A := ms_r [(18, ar_t32), (17, ar_t32), (16, ar_t32), (15, ar_t32), (14, ar_t32), (13, ar_t32), (12, ar_t32), (0, [(0, 27)])]
def mbh347 : aw_H := [(81, mbx27), (82, mbx346), (83, .inr (.inl (0, 8, [], []))), (85, .inr (.inl (0, 4, [], []))), (86, .inr (.inl (0, 4, [], [])))]
def mbx348 : aw_A := ms_r [(19, ar_t32), (18, ar_t32), (17, ar_t32), (16, ar_t32), (15, ar_t32), (14, ar_t32), (13, ar_t32), (12, ar_t32), (0, [(0, 27)])]
def mbh349 : aw_H := [(81, mbx30), (82, mbx348), (83, .inr (.inl (0, 8, [], []))), (85, .inr (.inl (0, 4, [], []))), (86, .inr (.inl (0, 4, [], [])))]
theorem mbk51 : ai_chk [mbc5, mbc9, mbc10] mbc51 (fun pc => sm_ch sm_t150 pc, sm_Kn 3 7 none, fun x => sm_lk sm_ca3 x, some .int) [82] 7 0 [5, 130] [] 2000 [(5, [(0, .inl 81), (1, .inr (false, [(0, 0)])), (2, .inr (false, ar_t32)), (3, .inr (false, [(0, 0)])), (4, .inr (false, [(0, 0)]))], [], mbh331),
  (5, [(0, .inl 81), (1, .inr (false, [(0, 0)])), (2, .inr (false, ar_t32)), (3, .inr (false, ar_t32)), (4, .inr (false, [(1, 1)])), (5, .inr (false, [(-9, -9), (0, 7)]))], [], mbh331),
  (5, [(0, .inl 81), (1, .inr (false, [(0, 0)])), (2, .inr (false, ar_t32)), (3, .inr (false, ar_t32)), (4, .inr (false, [(2, 2)])), (5, .inr (false, [(-9, -9), (0, 7)]))], [], mbh332),
  (5, [(0, .inl 81), (1, .inr (false, [(0, 0)])), (2, .inr (false, ar_t32)), (3, .inr (false, ar_t32)), (4, .inr (false, [(3, 3)])), (5, .inr (false, [(-9, -9), (0, 7)]))], [], mbh333),
  (5, [(0, .inl 81), (1, .inr (false, [(0, 0)])), (2, .inr (false, ar_t32)), (3, .inr (false, ar_t32)), (4, .inr (false, [(4, 4)])), (5, .inr (false, [(-9, -9), (0, 7)]))], [], mbh334),
  (130, [(0, .inl 81), (1, .inr (false, [(0, 0)])), (2, .inr (false, ar_t32)), (3, .inr (false, ar_t32)), (4, .inr (false, [(0, 0)])), (5, .inr (false, [(-9, -9), (0, 7)]))], [], mbh331),
  (130, [(0, .inl 81), (1, .inr (false, [(0, 0)])), (2, .inr (false, ar_t32)), (3, .inr (false, ar_t32)), (4, .inr (false, [(1, 1)])), (5, .inr (false, [(-9, -9), (0, 7)]))], [], mbh335),
  (130, [(0, .inl 81), (1, .inr (false, [(0, 0)])), (2, .inr (false, ar_t32)), (3, .inr (false, ar_t32)), (4, .inr (false, [(2, 2)])), (5, .inr (false, [(-9, -9), (0, 7)]))], [], mbh337),
  (130, [(0, .inl 81), (1, .inr (false, [(0, 0)])), (2, .inr (false, ar_t32)), (3, .inr (false, ar_t32)), (4, .inr (false, [(3, 3)])), (5, .inr (false, [(-9, -9), (0, 7)]))], [], mbh339),
  (130, [(0, .inl 81), (1, .inr (false, [(0, 0)])), (2, .inr (false, ar_t32)), (3, .inr (false, ar_t32)), (4, .inr (false, [(4, 4)])), (5, .inr (false, [(-9, -9), (0, 7)]))], [], mbh341),
  (130, [(0, .inl 81), (1, .inr (false, [(0, 0)])), (2, .inr (false, ar_t32)), (3, .inr (false, ar_t32)), (4, .inr (false, [(5, 5)])), (5, .inr (false, [(-9, -9), (0, 7)]))], [], mbh343),
  (130, [(0, .inl 81), (1, .inr (false, [(0, 0)])), (2, .inr (false, ar_t32)), (3, .inr (false, ar_t32)), (4, .inr (false, [(6, 6)])), (5, .inr (false, [(-9, -9), (0, 7)]))], [], mbh345),
  (130, [(0, .inl 81), (1, .inr (false, [(0, 0)])), (2, .inr (false, ar_t32)), (3, .inr (false, ar_t32)), (4, .inr (false, [(7, 7)])), (5, .inr (false, [(-9, -9), (0, 7)]))], [], mbh347),
  (130, [(0, .inl 81), (1, .inr (false, [(0, 0)])), (2, .inr (false, ar_t32)), (3, .inr (false, ar_t32)), (4, .inr (false, [(8, 8)])), (5, .inr (false, [(-9, -9), (0, 7)]))], [], mbh349)] = true := by decide +kernel
/-- MiceRegistersModel.byLot -/
def mbc52 : ak_C := (189, [.inl 81, .inr (true, [(0, 2147483646)])], mbh331, [82], [([], none, mbh328)])
theorem mbk52 : ai_chk [mbc51] mbc52 (fun pc => sm_ch sm_t189 pc, sm_Kn 3 6 none, fun x => sm_lk sm_ca3 x, none) [82] 6 0 [] [] 2000 [] = true := by decide +kernel
def mbh350 : aw_H := [(82, ms_r [(0, [(0, 26)])])]
/-- MiceRegistersModel.keepPast -/
def mbh351 : aw_H := [(81, mbx0), (82, ms_r [(0, [(-1, 25)])])]
def mbc53 : ak_C := (149, [.inl 81], mbh351, [82], [([], none, mbh350)])
def mbh352 : aw_H := [(82, ms_r [(0, [(0, 26)]), (12, ar_t32)])]
/-- MiceRegistersModel.passes -/
def mbh353 : aw_H := [(81, mbx0), (82, ms_r [(0, [(0, 26)])]), (83, .inr (.inl (0, 8, [], []))), (85, .inr (.inl (0, 4, [], []))), (86, .inr (.inl (0, 4, [], [])))]
def mbc54 : ak_C := (150, [.inl 81, .inr (false, [(0, 0)]), .inr (false, ar_t32)], mbh353, [82], [([], some (.inr (false, ar_t32)), mbh352)])
def mbh354 : aw_H := [(81, mbx36), (82, ms_r [(0, [(0, 26)])]), (83, .inr (.inl (0, 8, [], []))), (85, .inr (.inl (0, 4, [], []))), (86, .inr (.inl (0, 4, [], [])))]
def mbh355 : aw_H := [(81, mbx38), (82, ms_r [(0, [(0, 26)])]), (83, .inr (.inl (0, 8, [], []))), (85, .inr (.inl (0, 4, [], []))), (86, .inr (.inl (0, 4, [], [])))]
def mbh356 : aw_H := [(81, mbx40), (82, ms_r [(0, [(0, 26)])]), (83, .inr (.inl (0, 8, [], []))), (85, .inr (.inl (0, 4, [], []))), (86, .inr (.inl (0, 4, [], [])))]
def mbh357 : aw_H := [(81, mbx0), (82, ms_r [(12, ar_t32), (0, [(0, 26)])]), (83, .inr (.inl (0, 8, [], []))), (85, .inr (.inl (0, 4, [], []))), (86, .inr (.inl (0, 4, [], [])))]
def mbx358 : aw_A := ms_r [(13, ar_t32), (12, ar_t32), (0, [(0, 26)])]
def mbh359 : aw_H := [(81, mbx12), (82, mbx358), (83, .inr (.inl (0, 8, [], []))), (85, .inr (.inl (0, 4, [], []))), (86, .inr (.inl (0, 4, [], [])))]
def mbx360 : aw_A := ms_r [(14, ar_t32), (13, ar_t32), (12, ar_t32), (0, [(0, 26)])]
def mbh361 : aw_H := [(81, mbx15), (82, mbx360), (83, .inr (.inl (0, 8, [], []))), (85, .inr (.inl (0, 4, [], []))), (86, .inr (.inl (0, 4, [], [])))]
def mbx362 : aw_A := ms_r [(15, ar_t32), (14, ar_t32), (13, ar_t32), (12, ar_t32), (0, [(0, 26)])]
def mbh363 : aw_H := [(81, mbx18), (82, mbx362), (83, .inr (.inl (0, 8, [], []))), (85, .inr (.inl (0, 4, [], []))), (86, .inr (.inl (0, 4, [], [])))]
def mbx364 : aw_A := ms_r [(16, ar_t32), (15, ar_t32), (14, ar_t32), (13, ar_t32), (12, ar_t32), (0, [(0, 26)])]
def mbh365 : aw_H := [(81, mbx21), (82, mbx364), (83, .inr (.inl (0, 8, [], []))), (85, .inr (.inl (0, 4, [], []))), (86, .inr (.inl (0, 4, [], [])))]
def mbx366 : aw_A := ms_r [(17, ar_t32), (16, ar_t32), (15, ar_t32), (14, ar_t32), (13, ar_t32), (12, ar_t32), (0, [(0, 26)])]
def mbh367 : aw_H := [(81, mbx24), (82, mbx366), (83, .inr (.inl (0, 8, [], []))), (85, .inr (.inl (0, 4, [], []))), (86, .inr (.inl (0, 4, [], [])))]
def mbx368 : aw_A := ms_r [(18, ar_t32), (17, ar_t32), (16, ar_t32), (15, ar_t32), (14, ar_t32), (13, ar_t32), (12, ar_t32), (0, [(0, 26)])]
def mbh369 : aw_H := [(81, mbx27), (82, mbx368), (83, .inr (.inl (0, 8, [], []))), (85, .inr (.inl (0, 4, [], []))), (86, .inr (.inl (0, 4, [], [])))]
def mbx370 : aw_A := ms_r [(19, ar_t32), (18, ar_t32), (17, ar_t32), (16, ar_t32), (15, ar_t32), (14, ar_t32), (13, ar_t32), (12, ar_t32), (0, [(0, 26)])]
def mbh371 : aw_H := [(81, mbx30), (82, mbx370), (83, .inr (.inl (0, 8, [], []))), (85, .inr (.inl (0, 4, [], []))), (86, .inr (.inl (0, 4, [], [])))]
theorem mbk54 : ai_chk [mbc5, mbc9, mbc10] mbc54 (fun pc => sm_ch sm_t150 pc, sm_Kn 3 7 none, fun x => sm_lk sm_ca3 x, some .int) [82] 7 0 [5, 130] [] 2000 [(5, [(0, .inl 81), (1, .inr (false, [(0, 0)])), (2, .inr (false, ar_t32)), (3, .inr (false, [(0, 0)])), (4, .inr (false, [(0, 0)]))], [], mbh353),
  (5, [(0, .inl 81), (1, .inr (false, [(0, 0)])), (2, .inr (false, ar_t32)), (3, .inr (false, ar_t32)), (4, .inr (false, [(1, 1)])), (5, .inr (false, [(-9, -9), (0, 7)]))], [], mbh353),
  (5, [(0, .inl 81), (1, .inr (false, [(0, 0)])), (2, .inr (false, ar_t32)), (3, .inr (false, ar_t32)), (4, .inr (false, [(2, 2)])), (5, .inr (false, [(-9, -9), (0, 7)]))], [], mbh354),
  (5, [(0, .inl 81), (1, .inr (false, [(0, 0)])), (2, .inr (false, ar_t32)), (3, .inr (false, ar_t32)), (4, .inr (false, [(3, 3)])), (5, .inr (false, [(-9, -9), (0, 7)]))], [], mbh355),
  (5, [(0, .inl 81), (1, .inr (false, [(0, 0)])), (2, .inr (false, ar_t32)), (3, .inr (false, ar_t32)), (4, .inr (false, [(4, 4)])), (5, .inr (false, [(-9, -9), (0, 7)]))], [], mbh356),
  (130, [(0, .inl 81), (1, .inr (false, [(0, 0)])), (2, .inr (false, ar_t32)), (3, .inr (false, ar_t32)), (4, .inr (false, [(0, 0)])), (5, .inr (false, [(-9, -9), (0, 7)]))], [], mbh353),
  (130, [(0, .inl 81), (1, .inr (false, [(0, 0)])), (2, .inr (false, ar_t32)), (3, .inr (false, ar_t32)), (4, .inr (false, [(1, 1)])), (5, .inr (false, [(-9, -9), (0, 7)]))], [], mbh357),
  (130, [(0, .inl 81), (1, .inr (false, [(0, 0)])), (2, .inr (false, ar_t32)), (3, .inr (false, ar_t32)), (4, .inr (false, [(2, 2)])), (5, .inr (false, [(-9, -9), (0, 7)]))], [], mbh359),
  (130, [(0, .inl 81), (1, .inr (false, [(0, 0)])), (2, .inr (false, ar_t32)), (3, .inr (false, ar_t32)), (4, .inr (false, [(3, 3)])), (5, .inr (false, [(-9, -9), (0, 7)]))], [], mbh361),
  (130, [(0, .inl 81), (1, .inr (false, [(0, 0)])), (2, .inr (false, ar_t32)), (3, .inr (false, ar_t32)), (4, .inr (false, [(4, 4)])), (5, .inr (false, [(-9, -9), (0, 7)]))], [], mbh363),
  (130, [(0, .inl 81), (1, .inr (false, [(0, 0)])), (2, .inr (false, ar_t32)), (3, .inr (false, ar_t32)), (4, .inr (false, [(5, 5)])), (5, .inr (false, [(-9, -9), (0, 7)]))], [], mbh365),
  (130, [(0, .inl 81), (1, .inr (false, [(0, 0)])), (2, .inr (false, ar_t32)), (3, .inr (false, ar_t32)), (4, .inr (false, [(6, 6)])), (5, .inr (false, [(-9, -9), (0, 7)]))], [], mbh367),
  (130, [(0, .inl 81), (1, .inr (false, [(0, 0)])), (2, .inr (false, ar_t32)), (3, .inr (false, ar_t32)), (4, .inr (false, [(7, 7)])), (5, .inr (false, [(-9, -9), (0, 7)]))], [], mbh369),
  (130, [(0, .inl 81), (1, .inr (false, [(0, 0)])), (2, .inr (false, ar_t32)), (3, .inr (false, ar_t32)), (4, .inr (false, [(8, 8)])), (5, .inr (false, [(-9, -9), (0, 7)]))], [], mbh371)] = true := by decide +kernel
