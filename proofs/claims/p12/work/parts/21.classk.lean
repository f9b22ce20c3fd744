/-! Contracts over ranges of the class, and their checks; printed by a program of mine. -/
/-- Register.allLeft -/
def kcc1027 : ak_C := (66, [.inl 24], kch851, [], [([], some (.inr (false, [(0, 0)])), []), ([], some (.inr (false, ar_t32)), [])])
def kch910 : aw_H := [(24, kcx828), (27, .inr (.inl (0, 8, [], [])))]
def kch911 : aw_H := [(24, kcx830), (27, .inr (.inl (0, 8, [], [])))]
def kch912 : aw_H := [(24, kcx832), (27, .inr (.inl (0, 8, [], [])))]
def kch913 : aw_H := [(24, kcx834), (27, .inr (.inl (0, 8, [], [])))]
def kch914 : aw_H := [(24, kcx836), (27, .inr (.inl (0, 8, [], [])))]
def kch915 : aw_H := [(24, kcx838), (27, .inr (.inl (0, 8, [], [])))]
def kch916 : aw_H := [(24, kcx840), (27, .inr (.inl (0, 8, [], [])))]
def kch917 : aw_H := [(24, kcx842), (27, .inr (.inl (0, 8, [], [])))]
theorem kck1027 : ai_chk [] kcc1027 (fun pc => sm_ch sm_t66 pc, sm_Kn 1 3 none, fun x => sm_lk sm_ca1 x, some .int) [] 3 0 [4] [] 2000 [(4, [(0, .inl 24), (1, .inr (false, [(0, 0)])), (2, .inr (false, [(0, 0)]))], [], kch851),
  (4, [(0, .inl 24), (1, .inr (false, ar_t32)), (2, .inr (false, [(1, 1)]))], [], kch910),
  (4, [(0, .inl 24), (1, .inr (false, ar_t32)), (2, .inr (false, [(2, 2)]))], [], kch911),
  (4, [(0, .inl 24), (1, .inr (false, ar_t32)), (2, .inr (false, [(3, 3)]))], [], kch912),
  (4, [(0, .inl 24), (1, .inr (false, ar_t32)), (2, .inr (false, [(4, 4)]))], [], kch913),
  (4, [(0, .inl 24), (1, .inr (false, ar_t32)), (2, .inr (false, [(5, 5)]))], [], kch914),
  (4, [(0, .inl 24), (1, .inr (false, ar_t32)), (2, .inr (false, [(6, 6)]))], [], kch915),
  (4, [(0, .inl 24), (1, .inr (false, ar_t32)), (2, .inr (false, [(7, 7)]))], [], kch916),
  (4, [(0, .inl 24), (1, .inr (false, ar_t32)), (2, .inr (false, [(8, 8)]))], [], kch917)] = true := by decide +kernel
/-- MiceRegisters.guard -/
def kcc1028 : ak_C := (65, [.inl 0, .inr (false, ar_t32)], kch876, [0, 24, 25, 26, 27, 28, 29, 30, 31, 32], [([[], [(-2147483648, 0), (21, 2147483647)]], some (.inr (false, [(-1, -1)])), kch885), ([[], [(1, 20)]], some (.inr (false, [(-4, -4)])), kch885), ([[], [(1, 20)]], some (.inr (false, [(0, 0)])), kch885), ([[], [(1, 20)]], some (.inr (false, [(0, 7)])), kch885)])
def kch918 : aw_H := [(0, kcx2), (15, kcx688), (16, .inr (.inl (0, 8, [], []))), (17, .inr (.inl (0, 8, [], []))), (18, .inr (.inl (0, 8, [], []))), (19, .inr (.inl (0, 8, [], []))), (20, .inr (.inl (0, 4, [], []))), (21, .inr (.inl (0, 4, [], []))), (22, kcx36), (23, kcx36), (24, kcx25), (25, .inr (.inl (0, 8, [], []))), (26, .inr (.inl (0, 8, [], []))), (27, .inr (.inl (0, 8, [], []))), (28, .inr (.inl (0, 8, [], []))), (29, .inr (.inl (0, 4, [], []))), (30, .inr (.inl (0, 4, [], []))), (31, kcx36), (32, kcx36)]
def kcx919 : aw_A := .inl (1, [.inr (false, [(1, 8)]), .inr (false, [(1, 4)]), .inr (false, ar_t32), .inr (false, ar_t32), .inr (false, ar_t32), .inl 16, .inl 17, .inl 18, .inl 19, .inl 20, .inl 21, .inl 22, .inl 23])
def kch920 : aw_H := [(0, kcx2), (15, kcx919), (16, .inr (.inl (0, 8, [], []))), (17, .inr (.inl (0, 8, [], []))), (18, .inr (.inl (0, 8, [], []))), (19, .inr (.inl (0, 8, [], []))), (20, .inr (.inl (0, 4, [], []))), (21, .inr (.inl (0, 4, [], []))), (22, kcx36), (23, kcx36), (24, kcx25), (25, .inr (.inl (0, 8, [], []))), (26, .inr (.inl (0, 8, [], []))), (27, .inr (.inl (0, 8, [], []))), (28, .inr (.inl (0, 8, [], []))), (29, .inr (.inl (0, 4, [], []))), (30, .inr (.inl (0, 4, [], []))), (31, kcx36), (32, kcx36)]
def kcx921 : aw_A := .inl (1, [.inr (false, [(2, 8)]), .inr (false, [(1, 4)]), .inr (false, ar_t32), .inr (false, ar_t32), .inr (false, ar_t32), .inl 16, .inl 17, .inl 18, .inl 19, .inl 20, .inl 21, .inl 22, .inl 23])
def kch922 : aw_H := [(0, kcx2), (15, kcx921), (16, .inr (.inl (0, 8, [], []))), (17, .inr (.inl (0, 8, [], []))), (18, .inr (.inl (0, 8, [], []))), (19, .inr (.inl (0, 8, [], []))), (20, .inr (.inl (0, 4, [], []))), (21, .inr (.inl (0, 4, [], []))), (22, kcx36), (23, kcx36), (24, kcx25), (25, .inr (.inl (0, 8, [], []))), (26, .inr (.inl (0, 8, [], []))), (27, .inr (.inl (0, 8, [], []))), (28, .inr (.inl (0, 8, [], []))), (29, .inr (.inl (0, 4, [], []))), (30, .inr (.inl (0, 4, [], []))), (31, kcx36), (32, kcx36)]
def kcx923 : aw_A := .inl (1, [.inr (false, [(3, 8)]), .inr (false, [(1, 4)]), .inr (false, ar_t32), .inr (false, ar_t32), .inr (false, ar_t32), .inl 16, .inl 17, .inl 18, .inl 19, .inl 20, .inl 21, .inl 22, .inl 23])
def kch924 : aw_H := [(0, kcx2), (15, kcx923), (16, .inr (.inl (0, 8, [], []))), (17, .inr (.inl (0, 8, [], []))), (18, .inr (.inl (0, 8, [], []))), (19, .inr (.inl (0, 8, [], []))), (20, .inr (.inl (0, 4, [], []))), (21, .inr (.inl (0, 4, [], []))), (22, kcx36), (23, kcx36), (24, kcx25), (25, .inr (.inl (0, 8, [], []))), (26, .inr (.inl (0, 8, [], []))), (27, .inr (.inl (0, 8, [], []))), (28, .inr (.inl (0, 8, [], []))), (29, .inr (.inl (0, 4, [], []))), (30, .inr (.inl (0, 4, [], []))), (31, kcx36), (32, kcx36)]
def kcx925 : aw_A := .inl (1, [.inr (false, [(4, 8)]), .inr (false, [(1, 4)]), .inr (false, ar_t32), .inr (false, ar_t32), .inr (false, ar_t32), .inl 16, .inl 17, .inl 18, .inl 19, .inl 20, .inl 21, .inl 22, .inl 23])
def kch926 : aw_H := [(0, kcx2), (15, kcx925), (16, .inr (.inl (0, 8, [], []))), (17, .inr (.inl (0, 8, [], []))), (18, .inr (.inl (0, 8, [], []))), (19, .inr (.inl (0, 8, [], []))), (20, .inr (.inl (0, 4, [], []))), (21, .inr (.inl (0, 4, [], []))), (22, kcx36), (23, kcx36), (24, kcx25), (25, .inr (.inl (0, 8, [], []))), (26, .inr (.inl (0, 8, [], []))), (27, .inr (.inl (0, 8, [], []))), (28, .inr (.inl (0, 8, [], []))), (29, .inr (.inl (0, 4, [], []))), (30, .inr (.inl (0, 4, [], []))), (31, kcx36), (32, kcx36)]
def kcx927 : aw_A := .inl (1, [.inr (false, [(5, 8)]), .inr (false, [(1, 4)]), .inr (false, ar_t32), .inr (false, ar_t32), .inr (false, ar_t32), .inl 16, .inl 17, .inl 18, .inl 19, .inl 20, .inl 21, .inl 22, .inl 23])
def kch928 : aw_H := [(0, kcx2), (15, kcx927), (16, .inr (.inl (0, 8, [], []))), (17, .inr (.inl (0, 8, [], []))), (18, .inr (.inl (0, 8, [], []))), (19, .inr (.inl (0, 8, [], []))), (20, .inr (.inl (0, 4, [], []))), (21, .inr (.inl (0, 4, [], []))), (22, kcx36), (23, kcx36), (24, kcx25), (25, .inr (.inl (0, 8, [], []))), (26, .inr (.inl (0, 8, [], []))), (27, .inr (.inl (0, 8, [], []))), (28, .inr (.inl (0, 8, [], []))), (29, .inr (.inl (0, 4, [], []))), (30, .inr (.inl (0, 4, [], []))), (31, kcx36), (32, kcx36)]
def kcx929 : aw_A := .inl (1, [.inr (false, [(6, 8)]), .inr (false, [(1, 4)]), .inr (false, ar_t32), .inr (false, ar_t32), .inr (false, ar_t32), .inl 16, .inl 17, .inl 18, .inl 19, .inl 20, .inl 21, .inl 22, .inl 23])
def kch930 : aw_H := [(0, kcx2), (15, kcx929), (16, .inr (.inl (0, 8, [], []))), (17, .inr (.inl (0, 8, [], []))), (18, .inr (.inl (0, 8, [], []))), (19, .inr (.inl (0, 8, [], []))), (20, .inr (.inl (0, 4, [], []))), (21, .inr (.inl (0, 4, [], []))), (22, kcx36), (23, kcx36), (24, kcx25), (25, .inr (.inl (0, 8, [], []))), (26, .inr (.inl (0, 8, [], []))), (27, .inr (.inl (0, 8, [], []))), (28, .inr (.inl (0, 8, [], []))), (29, .inr (.inl (0, 4, [], []))), (30, .inr (.inl (0, 4, [], []))), (31, kcx36), (32, kcx36)]
def kcx931 : aw_A := .inl (1, [.inr (false, [(7, 8)]), .inr (false, [(1, 4)]), .inr (false, ar_t32), .inr (false, ar_t32), .inr (false, ar_t32), .inl 16, .inl 17, .inl 18, .inl 19, .inl 20, .inl 21, .inl 22, .inl 23])
def kch932 : aw_H := [(0, kcx2), (15, kcx931), (16, .inr (.inl (0, 8, [], []))), (17, .inr (.inl (0, 8, [], []))), (18, .inr (.inl (0, 8, [], []))), (19, .inr (.inl (0, 8, [], []))), (20, .inr (.inl (0, 4, [], []))), (21, .inr (.inl (0, 4, [], []))), (22, kcx36), (23, kcx36), (24, kcx25), (25, .inr (.inl (0, 8, [], []))), (26, .inr (.inl (0, 8, [], []))), (27, .inr (.inl (0, 8, [], []))), (28, .inr (.inl (0, 8, [], []))), (29, .inr (.inl (0, 4, [], []))), (30, .inr (.inl (0, 4, [], []))), (31, kcx36), (32, kcx36)]
def kcx933 : aw_A := .inl (1, [.inr (false, [(8, 8)]), .inr (false, [(1, 4)]), .inr (false, ar_t32), .inr (false, ar_t32), .inr (false, ar_t32), .inl 16, .inl 17, .inl 18, .inl 19, .inl 20, .inl 21, .inl 22, .inl 23])
def kch934 : aw_H := [(0, kcx2), (15, kcx933), (16, .inr (.inl (0, 8, [], []))), (17, .inr (.inl (0, 8, [], []))), (18, .inr (.inl (0, 8, [], []))), (19, .inr (.inl (0, 8, [], []))), (20, .inr (.inl (0, 4, [], []))), (21, .inr (.inl (0, 4, [], []))), (22, kcx36), (23, kcx36), (24, kcx25), (25, .inr (.inl (0, 8, [], []))), (26, .inr (.inl (0, 8, [], []))), (27, .inr (.inl (0, 8, [], []))), (28, .inr (.inl (0, 8, [], []))), (29, .inr (.inl (0, 4, [], []))), (30, .inr (.inl (0, 4, [], []))), (31, kcx36), (32, kcx36)]
theorem kck1028 : ai_chk [kcc1014, kcc1019, kcc1027, kcc14] kcc1028 (fun pc => sm_ch sm_t65 pc, sm_Kn 2 6 none, fun x => sm_lk sm_ca2 x, some .int) [0, 24, 25, 26, 27, 28, 29, 30, 31, 32] 6 2 [33] [] 2000 [(33, [(0, .inl 0), (1, .inr (false, [(1, 20)])), (2, .inr (false, [(0, 0)])), (3, .inr (false, [(-1, -1)])), (4, .inr (false, [(0, 0)]))], [], kch918),
  (33, [(0, .inl 0), (1, .inr (false, [(1, 20)])), (2, .inr (false, [(0, 0)])), (3, .inr (false, [(-1, 2147483647)])), (4, .inr (false, [(1, 1)])), (5, .inr (false, ar_t32))], [], kch920),
  (33, [(0, .inl 0), (1, .inr (false, [(1, 20)])), (2, .inr (false, [(0, 1)])), (3, .inr (false, [(-1, 2147483647)])), (4, .inr (false, [(2, 2)])), (5, .inr (false, ar_t32))], [], kch922),
  (33, [(0, .inl 0), (1, .inr (false, [(1, 20)])), (2, .inr (false, [(0, 2)])), (3, .inr (false, [(-1, 2147483647)])), (4, .inr (false, [(3, 3)])), (5, .inr (false, ar_t32))], [], kch924),
  (33, [(0, .inl 0), (1, .inr (false, [(1, 20)])), (2, .inr (false, [(0, 3)])), (3, .inr (false, [(-1, 2147483647)])), (4, .inr (false, [(4, 4)])), (5, .inr (false, ar_t32))], [], kch926),
  (33, [(0, .inl 0), (1, .inr (false, [(1, 20)])), (2, .inr (false, [(0, 4)])), (3, .inr (false, [(-1, 2147483647)])), (4, .inr (false, [(5, 5)])), (5, .inr (false, ar_t32))], [], kch928),
  (33, [(0, .inl 0), (1, .inr (false, [(1, 20)])), (2, .inr (false, [(0, 5)])), (3, .inr (false, [(-1, 2147483647)])), (4, .inr (false, [(6, 6)])), (5, .inr (false, ar_t32))], [], kch930),
  (33, [(0, .inl 0), (1, .inr (false, [(1, 20)])), (2, .inr (false, [(0, 6)])), (3, .inr (false, [(-1, 2147483647)])), (4, .inr (false, [(7, 7)])), (5, .inr (false, ar_t32))], [], kch932),
  (33, [(0, .inl 0), (1, .inr (false, [(1, 20)])), (2, .inr (false, [(0, 7)])), (3, .inr (false, [(-1, 2147483647)])), (4, .inr (false, [(8, 8)])), (5, .inr (false, ar_t32))], [], kch934)] = true := by decide +kernel
/-- MiceRegisters.refusalOfTrace -/
def kch935 : aw_H := [(0, kcx2), (1, kcx4), (2, kcx7), (3, .inr (.inl (0, 40, [], []))), (4, .inr (.inl (0, 40, [], []))), (5, .inr (.inl (0, 40, [], []))), (6, .inr (.inl (0, 40, [], []))), (7, .inr (.inl (0, 40, [], []))), (8, .inr (.inl (0, 40, [], []))), (15, kcx669), (80, .inr (.inl (0, 6, [], [])))]
def kcc1029 : ak_C := (68, [.inl 0, .inr (false, ar_t32), .inr (false, ar_t32)], kch935, [0, 80], [([[], [(0, 3)], [(0, 5)]], some (.inr (false, [(-3, -3)])), kch1), ([[], [], []], some (.inr (false, [(-1, -1)])), kch3), ([[], [(0, 3)], [(0, 5)]], some (.inr (false, [(0, 0)])), kch3)])
theorem kck1029 : ai_chk [kcc984, kcc10, kcc11, kcc976] kcc1029 (fun pc => sm_ch sm_t68 pc, sm_Kn 2 5 none, fun x => sm_lk sm_ca2 x, some .int) [0, 80] 5 3 [55] [] 2000 [(55, [(0, .inl 0), (1, .inr (false, [(0, 3)])), (2, .inr (false, [(0, 5)])), (3, .inr (false, [(1, 10)])), (4, .inr (false, [(0, 0)]))], [], kch935),
  (55, [(0, .inl 0), (1, .inr (false, [(0, 3)])), (2, .inr (false, [(0, 5)])), (3, .inr (false, [(1, 10)])), (4, .inr (false, [(1, 1)]))], [], kch935),
  (55, [(0, .inl 0), (1, .inr (false, [(0, 3)])), (2, .inr (false, [(0, 5)])), (3, .inr (false, [(2, 10)])), (4, .inr (false, [(2, 2)]))], [], kch935),
  (55, [(0, .inl 0), (1, .inr (false, [(0, 3)])), (2, .inr (false, [(0, 5)])), (3, .inr (false, [(3, 10)])), (4, .inr (false, [(3, 3)]))], [], kch935),
  (55, [(0, .inl 0), (1, .inr (false, [(0, 3)])), (2, .inr (false, [(0, 5)])), (3, .inr (false, [(4, 10)])), (4, .inr (false, [(4, 4)]))], [], kch935),
  (55, [(0, .inl 0), (1, .inr (false, [(0, 3)])), (2, .inr (false, [(0, 5)])), (3, .inr (false, [(5, 10)])), (4, .inr (false, [(5, 5)]))], [], kch935),
  (55, [(0, .inl 0), (1, .inr (false, [(0, 3)])), (2, .inr (false, [(0, 5)])), (3, .inr (false, [(6, 10)])), (4, .inr (false, [(6, 6)]))], [], kch935),
  (55, [(0, .inl 0), (1, .inr (false, [(0, 3)])), (2, .inr (false, [(0, 5)])), (3, .inr (false, [(7, 10)])), (4, .inr (false, [(7, 7)]))], [], kch935),
  (55, [(0, .inl 0), (1, .inr (false, [(0, 3)])), (2, .inr (false, [(0, 5)])), (3, .inr (false, [(8, 10)])), (4, .inr (false, [(8, 8)]))], [], kch935),
  (55, [(0, .inl 0), (1, .inr (false, [(0, 3)])), (2, .inr (false, [(0, 5)])), (3, .inr (false, [(9, 10)])), (4, .inr (false, [(9, 9)]))], [], kch935),
  (55, [(0, .inl 0), (1, .inr (false, [(0, 3)])), (2, .inr (false, [(0, 5)])), (3, .inr (false, [(10, 10)])), (4, .inr (false, [(10, 10)]))], [], kch935)] = true := by decide +kernel
/-- MiceRegisters.goesAsRow -/
def kch936 : aw_H := [(0, kcx2), (1, kcx4), (2, kcx7), (3, .inr (.inl (0, 40, [], []))), (4, .inr (.inl (0, 40, [], []))), (5, .inr (.inl (0, 40, [], []))), (6, .inr (.inl (0, 40, [], []))), (7, .inr (.inl (0, 40, [], []))), (8, .inr (.inl (0, 40, [], []))), (24, kcx25), (25, .inr (.inl (0, 8, [], []))), (27, .inr (.inl (0, 8, [], []))), (28, .inr (.inl (0, 8, [], []))), (29, .inr (.inl (0, 4, [], []))), (30, .inr (.inl (0, 4, [], []))), (32, kcx36)]
def kcc1030 : ak_C := (69, [.inl 0, .inr (false, [(0, 3)]), .inr (false, [(0, 5)])], kch936, [24, 27, 28, 32], [([], some (.inr (false, [(0, 0)])), kch862), ([], some (.inr (false, [(1, 1)])), kch862)])
def kcn1030_0 : List (Nat × aw_S) := [(2, [(0, .inl 0), (1, .inr (false, [(0, 3)])), (2, .inr (false, [(0, 5)])), (3, .inr (false, [(0, 0)]))], [], kch936),
  (2, [(0, .inl 0), (1, .inr (false, [(0, 3)])), (2, .inr (false, [(0, 5)])), (3, .inr (false, [(1, 1)]))], [], kch936),
  (2, [(0, .inl 0), (1, .inr (false, [(0, 3)])), (2, .inr (false, [(0, 5)])), (3, .inr (false, [(2, 2)]))], [], kch936),
  (2, [(0, .inl 0), (1, .inr (false, [(0, 3)])), (2, .inr (false, [(0, 5)])), (3, .inr (false, [(3, 3)]))], [], kch936),
  (2, [(0, .inl 0), (1, .inr (false, [(0, 3)])), (2, .inr (false, [(0, 5)])), (3, .inr (false, [(4, 4)]))], [], kch936),
  (2, [(0, .inl 0), (1, .inr (false, [(0, 3)])), (2, .inr (false, [(0, 5)])), (3, .inr (false, [(5, 5)]))], [], kch936),
  (2, [(0, .inl 0), (1, .inr (false, [(0, 3)])), (2, .inr (false, [(0, 5)])), (3, .inr (false, [(6, 6)]))], [], kch936),
  (2, [(0, .inl 0), (1, .inr (false, [(0, 3)])), (2, .inr (false, [(0, 5)])), (3, .inr (false, [(7, 7)]))], [], kch936),
  (2, [(0, .inl 0), (1, .inr (false, [(0, 3)])), (2, .inr (false, [(0, 5)])), (3, .inr (false, [(8, 8)]))], [], kch936),
  (2, [(0, .inl 0), (1, .inr (false, [(0, 3)])), (2, .inr (false, [(0, 5)])), (3, .inr (false, [(9, 9)]))], [], kch936),
  (2, [(0, .inl 0), (1, .inr (false, [(0, 3)])), (2, .inr (false, [(0, 5)])), (3, .inr (false, [(10, 10)]))], [], kch936),
  (2, [(0, .inl 0), (1, .inr (false, [(0, 3)])), (2, .inr (false, [(0, 5)])), (3, .inr (false, [(11, 11)]))], [], kch936),
  (2, [(0, .inl 0), (1, .inr (false, [(0, 3)])), (2, .inr (false, [(0, 5)])), (3, .inr (false, [(12, 12)]))], [], kch936),
  (2, [(0, .inl 0), (1, .inr (false, [(0, 3)])), (2, .inr (false, [(0, 5)])), (3, .inr (false, [(13, 13)]))], [], kch936),
  (2, [(0, .inl 0), (1, .inr (false, [(0, 3)])), (2, .inr (false, [(0, 5)])), (3, .inr (false, [(14, 14)]))], [], kch936),
  (2, [(0, .inl 0), (1, .inr (false, [(0, 3)])), (2, .inr (false, [(0, 5)])), (3, .inr (false, [(15, 15)]))], [], kch936),
  (2, [(0, .inl 0), (1, .inr (false, [(0, 3)])), (2, .inr (false, [(0, 5)])), (3, .inr (false, [(16, 16)]))], [], kch936),
  (2, [(0, .inl 0), (1, .inr (false, [(0, 3)])), (2, .inr (false, [(0, 5)])), (3, .inr (false, [(17, 17)]))], [], kch936),
  (2, [(0, .inl 0), (1, .inr (false, [(0, 3)])), (2, .inr (false, [(0, 5)])), (3, .inr (false, [(18, 18)]))], [], kch936),
  (2, [(0, .inl 0), (1, .inr (false, [(0, 3)])), (2, .inr (false, [(0, 5)])), (3, .inr (false, [(19, 19)]))], [], kch936),
  (2, [(0, .inl 0), (1, .inr (false, [(0, 3)])), (2, .inr (false, [(0, 5)])), (3, .inr (false, [(20, 20)]))], [], kch936),
  (2, [(0, .inl 0), (1, .inr (false, [(0, 3)])), (2, .inr (false, [(0, 5)])), (3, .inr (false, [(21, 21)]))], [], kch936),
  (2, [(0, .inl 0), (1, .inr (false, [(0, 3)])), (2, .inr (false, [(0, 5)])), (3, .inr (false, [(22, 22)]))], [], kch936),
  (2, [(0, .inl 0), (1, .inr (false, [(0, 3)])), (2, .inr (false, [(0, 5)])), (3, .inr (false, [(23, 23)]))], [], kch936),
  (2, [(0, .inl 0), (1, .inr (false, [(0, 3)])), (2, .inr (false, [(0, 5)])), (3, .inr (false, [(24, 24)]))], [], kch936),
  (2, [(0, .inl 0), (1, .inr (false, [(0, 3)])), (2, .inr (false, [(0, 5)])), (3, .inr (false, [(25, 25)]))], [], kch936),
  (2, [(0, .inl 0), (1, .inr (false, [(0, 3)])), (2, .inr (false, [(0, 5)])), (3, .inr (false, [(26, 26)]))], [], kch936),
  (2, [(0, .inl 0), (1, .inr (false, [(0, 3)])), (2, .inr (false, [(0, 5)])), (3, .inr (false, [(27, 27)]))], [], kch936),
  (2, [(0, .inl 0), (1, .inr (false, [(0, 3)])), (2, .inr (false, [(0, 5)])), (3, .inr (false, [(28, 28)]))], [], kch936),
  (2, [(0, .inl 0), (1, .inr (false, [(0, 3)])), (2, .inr (false, [(0, 5)])), (3, .inr (false, [(29, 29)]))], [], kch936),
  (2, [(0, .inl 0), (1, .inr (false, [(0, 3)])), (2, .inr (false, [(0, 5)])), (3, .inr (false, [(30, 30)]))], [], kch936),
  (2, [(0, .inl 0), (1, .inr (false, [(0, 3)])), (2, .inr (false, [(0, 5)])), (3, .inr (false, [(31, 31)]))], [], kch936),
  (2, [(0, .inl 0), (1, .inr (false, [(0, 3)])), (2, .inr (false, [(0, 5)])), (3, .inr (false, [(32, 32)]))], [], kch936),
  (2, [(0, .inl 0), (1, .inr (false, [(0, 3)])), (2, .inr (false, [(0, 5)])), (3, .inr (false, [(33, 33)]))], [], kch936),
  (2, [(0, .inl 0), (1, .inr (false, [(0, 3)])), (2, .inr (false, [(0, 5)])), (3, .inr (false, [(34, 34)]))], [], kch936)]
def kcn1030_1 : List (Nat × aw_S) := [(2, [(0, .inl 0), (1, .inr (false, [(0, 3)])), (2, .inr (false, [(0, 5)])), (3, .inr (false, [(35, 35)]))], [], kch936),
  (2, [(0, .inl 0), (1, .inr (false, [(0, 3)])), (2, .inr (false, [(0, 5)])), (3, .inr (false, [(36, 36)]))], [], kch936),
  (2, [(0, .inl 0), (1, .inr (false, [(0, 3)])), (2, .inr (false, [(0, 5)])), (3, .inr (false, [(37, 37)]))], [], kch936),
  (2, [(0, .inl 0), (1, .inr (false, [(0, 3)])), (2, .inr (false, [(0, 5)])), (3, .inr (false, [(38, 38)]))], [], kch936),
  (2, [(0, .inl 0), (1, .inr (false, [(0, 3)])), (2, .inr (false, [(0, 5)])), (3, .inr (false, [(39, 39)]))], [], kch936),
  (2, [(0, .inl 0), (1, .inr (false, [(0, 3)])), (2, .inr (false, [(0, 5)])), (3, .inr (false, [(40, 40)]))], [], kch936)]
def kcb1030 : sm_P := (fun pc => sm_ch sm_t69 pc, sm_Kn 2 4 none, fun x => sm_lk sm_ca2 x, some .boolean)
set_option maxRecDepth 100000 in
theorem kck1030_e : ai_nd2 [kcc1018] kcc1030 kcb1030 [24, 27, 28, 32] 0 [2] [] 2000 [(0, ai_lv kcc1030.2.1 0, [], kcc1030.2.2.1)] (kcn1030_0 ++ (kcn1030_1 ++ [])) = true := by decide +kernel
set_option maxRecDepth 100000 in
theorem kck1030_0 : ai_nd2 [kcc1018] kcc1030 kcb1030 [24, 27, 28, 32] 0 [2] [] 2000 kcn1030_0 (kcn1030_1 ++ []) = true := by decide +kernel
set_option maxRecDepth 100000 in
theorem kck1030_1 : ai_nd2 [kcc1018] kcc1030 kcb1030 [24, 27, 28, 32] 0 [2] [] 2000 kcn1030_1 [] = true := by decide +kernel
set_option maxRecDepth 100000 in
theorem kck1030 : ai_chk [kcc1018] kcc1030 kcb1030 [24, 27, 28, 32] 4 0 [2] [] 2000 (kcn1030_0 ++ (kcn1030_1 ++ [])) = true := ai_chk_of (by decide +kernel) (ai_nd2_s (ai_nd2_s (ai_nd2_s rfl kck1030_1) kck1030_0) kck1030_e)
def kch937 : aw_H := [(0, kcx2), (24, kcx25), (25, .inr (.inl (0, 8, [], []))), (26, .inr (.inl (0, 8, [], []))), (27, .inr (.inl (0, 8, [], []))), (28, .inr (.inl (0, 8, [], []))), (29, .inr (.inl (0, 4, [], []))), (30, .inr (.inl (0, 4, [], []))), (31, kcx36), (32, kcx36), (80, .inr (.inl (0, 6, [], [])))]
def kch938 : aw_H := [(0, kcx0), (24, kcx25), (25, .inr (.inl (0, 8, [], []))), (26, .inr (.inl (0, 8, [], []))), (27, .inr (.inl (0, 8, [], []))), (28, .inr (.inl (0, 8, [], []))), (29, .inr (.inl (0, 4, [], []))), (30, .inr (.inl (0, 4, [], []))), (31, kcx36), (32, kcx36), (80, .inr (.inl (0, 6, [], [])))]
/-- MiceRegisters.places -/
def kch939 : aw_H := [(0, kcx2), (1, kcx4), (2, kcx7), (3, .inr (.inl (0, 40, [], []))), (4, .inr (.inl (0, 40, [], []))), (5, .inr (.inl (0, 40, [], []))), (6, .inr (.inl (0, 40, [], []))), (7, .inr (.inl (0, 40, [], []))), (8, .inr (.inl (0, 40, [], []))), (15, kcx669), (16, .inr (.inl (0, 8, [], []))), (17, .inr (.inl (0, 8, [], []))), (18, .inr (.inl (0, 8, [], []))), (19, .inr (.inl (0, 8, [], []))), (20, .inr (.inl (0, 4, [], []))), (21, .inr (.inl (0, 4, [], []))), (22, kcx36), (23, kcx36), (24, kcx25), (25, .inr (.inl (0, 8, [], []))), (26, .inr (.inl (0, 8, [], []))), (27, .inr (.inl (0, 8, [], []))), (28, .inr (.inl (0, 8, [], []))), (29, .inr (.inl (0, 4, [], []))), (30, .inr (.inl (0, 4, [], []))), (31, kcx36), (32, kcx36), (80, .inr (.inl (0, 6, [], [])))]
def kcc1031 : ak_C := (67, [.inl 0, .inr (false, ar_t32), .inr (false, ar_t32)], kch939, [0, 24, 25, 26, 27, 28, 29, 30, 31, 32, 80], [([[], [], []], some (.inr (false, [(-1, -1)])), kch937), ([[], [(0, 3)], [(0, 5)]], some (.inr (false, [(-3, -3)])), kch938), ([[], [(0, 3)], [(0, 5)]], some (.inr (false, [(0, 0)])), kch937), ([[], [(0, 3)], [(0, 5)]], some (.inr (false, ar_t32)), kch937)])
def kch940 : aw_H := [(0, kcx2), (1, kcx4), (2, kcx7), (3, .inr (.inl (0, 40, [], []))), (4, .inr (.inl (0, 40, [], []))), (5, .inr (.inl (0, 40, [], []))), (6, .inr (.inl (0, 40, [], []))), (7, .inr (.inl (0, 40, [], []))), (8, .inr (.inl (0, 40, [], []))), (15, kcx672), (16, .inr (.inl (0, 8, [], []))), (17, .inr (.inl (0, 8, [], []))), (18, .inr (.inl (0, 8, [], []))), (19, .inr (.inl (0, 8, [], []))), (20, .inr (.inl (0, 4, [], []))), (21, .inr (.inl (0, 4, [], []))), (22, kcx36), (23, kcx36), (24, kcx25), (25, .inr (.inl (0, 8, [], []))), (26, .inr (.inl (0, 8, [], []))), (27, .inr (.inl (0, 8, [], []))), (28, .inr (.inl (0, 8, [], []))), (29, .inr (.inl (0, 4, [], []))), (30, .inr (.inl (0, 4, [], []))), (31, kcx36), (32, kcx36), (80, .inr (.inl (0, 6, [], [])))]
def kch941 : aw_H := [(0, kcx2), (1, kcx4), (2, kcx7), (3, .inr (.inl (0, 40, [], []))), (4, .inr (.inl (0, 40, [], []))), (5, .inr (.inl (0, 40, [], []))), (6, .inr (.inl (0, 40, [], []))), (7, .inr (.inl (0, 40, [], []))), (8, .inr (.inl (0, 40, [], []))), (15, kcx674), (16, .inr (.inl (0, 8, [], []))), (17, .inr (.inl (0, 8, [], []))), (18, .inr (.inl (0, 8, [], []))), (19, .inr (.inl (0, 8, [], []))), (20, .inr (.inl (0, 4, [], []))), (21, .inr (.inl (0, 4, [], []))), (22, kcx36), (23, kcx36), (24, kcx25), (25, .inr (.inl (0, 8, [], []))), (26, .inr (.inl (0, 8, [], []))), (27, .inr (.inl (0, 8, [], []))), (28, .inr (.inl (0, 8, [], []))), (29, .inr (.inl (0, 4, [], []))), (30, .inr (.inl (0, 4, [], []))), (31, kcx36), (32, kcx36), (80, .inr (.inl (0, 6, [], [])))]
def kch942 : aw_H := [(0, kcx2), (1, kcx4), (2, kcx7), (3, .inr (.inl (0, 40, [], []))), (4, .inr (.inl (0, 40, [], []))), (5, .inr (.inl (0, 40, [], []))), (6, .inr (.inl (0, 40, [], []))), (7, .inr (.inl (0, 40, [], []))), (8, .inr (.inl (0, 40, [], []))), (15, kcx676), (16, .inr (.inl (0, 8, [], []))), (17, .inr (.inl (0, 8, [], []))), (18, .inr (.inl (0, 8, [], []))), (19, .inr (.inl (0, 8, [], []))), (20, .inr (.inl (0, 4, [], []))), (21, .inr (.inl (0, 4, [], []))), (22, kcx36), (23, kcx36), (24, kcx25), (25, .inr (.inl (0, 8, [], []))), (26, .inr (.inl (0, 8, [], []))), (27, .inr (.inl (0, 8, [], []))), (28, .inr (.inl (0, 8, [], []))), (29, .inr (.inl (0, 4, [], []))), (30, .inr (.inl (0, 4, [], []))), (31, kcx36), (32, kcx36), (80, .inr (.inl (0, 6, [], [])))]
def kch943 : aw_H := [(0, kcx2), (1, kcx4), (2, kcx7), (3, .inr (.inl (0, 40, [], []))), (4, .inr (.inl (0, 40, [], []))), (5, .inr (.inl (0, 40, [], []))), (6, .inr (.inl (0, 40, [], []))), (7, .inr (.inl (0, 40, [], []))), (8, .inr (.inl (0, 40, [], []))), (15, kcx678), (16, .inr (.inl (0, 8, [], []))), (17, .inr (.inl (0, 8, [], []))), (18, .inr (.inl (0, 8, [], []))), (19, .inr (.inl (0, 8, [], []))), (20, .inr (.inl (0, 4, [], []))), (21, .inr (.inl (0, 4, [], []))), (22, kcx36), (23, kcx36), (24, kcx25), (25, .inr (.inl (0, 8, [], []))), (26, .inr (.inl (0, 8, [], []))), (27, .inr (.inl (0, 8, [], []))), (28, .inr (.inl (0, 8, [], []))), (29, .inr (.inl (0, 4, [], []))), (30, .inr (.inl (0, 4, [], []))), (31, kcx36), (32, kcx36), (80, .inr (.inl (0, 6, [], [])))]
def kch944 : aw_H := [(0, kcx2), (1, kcx4), (2, kcx7), (3, .inr (.inl (0, 40, [], []))), (4, .inr (.inl (0, 40, [], []))), (5, .inr (.inl (0, 40, [], []))), (6, .inr (.inl (0, 40, [], []))), (7, .inr (.inl (0, 40, [], []))), (8, .inr (.inl (0, 40, [], []))), (15, kcx680), (16, .inr (.inl (0, 8, [], []))), (17, .inr (.inl (0, 8, [], []))), (18, .inr (.inl (0, 8, [], []))), (19, .inr (.inl (0, 8, [], []))), (20, .inr (.inl (0, 4, [], []))), (21, .inr (.inl (0, 4, [], []))), (22, kcx36), (23, kcx36), (24, kcx25), (25, .inr (.inl (0, 8, [], []))), (26, .inr (.inl (0, 8, [], []))), (27, .inr (.inl (0, 8, [], []))), (28, .inr (.inl (0, 8, [], []))), (29, .inr (.inl (0, 4, [], []))), (30, .inr (.inl (0, 4, [], []))), (31, kcx36), (32, kcx36), (80, .inr (.inl (0, 6, [], [])))]
def kch945 : aw_H := [(0, kcx2), (1, kcx4), (2, kcx7), (3, .inr (.inl (0, 40, [], []))), (4, .inr (.inl (0, 40, [], []))), (5, .inr (.inl (0, 40, [], []))), (6, .inr (.inl (0, 40, [], []))), (7, .inr (.inl (0, 40, [], []))), (8, .inr (.inl (0, 40, [], []))), (15, kcx682), (16, .inr (.inl (0, 8, [], []))), (17, .inr (.inl (0, 8, [], []))), (18, .inr (.inl (0, 8, [], []))), (19, .inr (.inl (0, 8, [], []))), (20, .inr (.inl (0, 4, [], []))), (21, .inr (.inl (0, 4, [], []))), (22, kcx36), (23, kcx36), (24, kcx25), (25, .inr (.inl (0, 8, [], []))), (26, .inr (.inl (0, 8, [], []))), (27, .inr (.inl (0, 8, [], []))), (28, .inr (.inl (0, 8, [], []))), (29, .inr (.inl (0, 4, [], []))), (30, .inr (.inl (0, 4, [], []))), (31, kcx36), (32, kcx36), (80, .inr (.inl (0, 6, [], [])))]
def kch946 : aw_H := [(0, kcx2), (1, kcx4), (2, kcx7), (3, .inr (.inl (0, 40, [], []))), (4, .inr (.inl (0, 40, [], []))), (5, .inr (.inl (0, 40, [], []))), (6, .inr (.inl (0, 40, [], []))), (7, .inr (.inl (0, 40, [], []))), (8, .inr (.inl (0, 40, [], []))), (15, kcx684), (16, .inr (.inl (0, 8, [], []))), (17, .inr (.inl (0, 8, [], []))), (18, .inr (.inl (0, 8, [], []))), (19, .inr (.inl (0, 8, [], []))), (20, .inr (.inl (0, 4, [], []))), (21, .inr (.inl (0, 4, [], []))), (22, kcx36), (23, kcx36), (24, kcx25), (25, .inr (.inl (0, 8, [], []))), (26, .inr (.inl (0, 8, [], []))), (27, .inr (.inl (0, 8, [], []))), (28, .inr (.inl (0, 8, [], []))), (29, .inr (.inl (0, 4, [], []))), (30, .inr (.inl (0, 4, [], []))), (31, kcx36), (32, kcx36), (80, .inr (.inl (0, 6, [], [])))]
def kch947 : aw_H := [(0, kcx2), (1, kcx4), (2, kcx7), (3, .inr (.inl (0, 40, [], []))), (4, .inr (.inl (0, 40, [], []))), (5, .inr (.inl (0, 40, [], []))), (6, .inr (.inl (0, 40, [], []))), (7, .inr (.inl (0, 40, [], []))), (8, .inr (.inl (0, 40, [], []))), (15, kcx686), (16, .inr (.inl (0, 8, [], []))), (17, .inr (.inl (0, 8, [], []))), (18, .inr (.inl (0, 8, [], []))), (19, .inr (.inl (0, 8, [], []))), (20, .inr (.inl (0, 4, [], []))), (21, .inr (.inl (0, 4, [], []))), (22, kcx36), (23, kcx36), (24, kcx25), (25, .inr (.inl (0, 8, [], []))), (26, .inr (.inl (0, 8, [], []))), (27, .inr (.inl (0, 8, [], []))), (28, .inr (.inl (0, 8, [], []))), (29, .inr (.inl (0, 4, [], []))), (30, .inr (.inl (0, 4, [], []))), (31, kcx36), (32, kcx36), (80, .inr (.inl (0, 6, [], [])))]
theorem kck1031 : ai_chk [kcc1029, kcc1014, kcc1030] kcc1031 (fun pc => sm_ch sm_t67 pc, sm_Kn 2 6 none, fun x => sm_lk sm_ca2 x, some .int) [0, 24, 25, 26, 27, 28, 29, 30, 31, 32, 80] 6 3 [19] [] 2000 [(19, [(0, .inl 0), (1, .inr (false, [(0, 3)])), (2, .inr (false, [(0, 5)])), (3, .inr (false, [(0, 0)])), (4, .inr (false, [(0, 0)])), (5, .inr (false, [(0, 0)]))], [], kch939),
  (19, [(0, .inl 0), (1, .inr (false, [(0, 3)])), (2, .inr (false, [(0, 5)])), (3, .inr (false, [(0, 0)])), (4, .inr (false, [(0, 1)])), (5, .inr (false, [(1, 1)]))], [], kch940),
  (19, [(0, .inl 0), (1, .inr (false, [(0, 3)])), (2, .inr (false, [(0, 5)])), (3, .inr (false, [(0, 0)])), (4, .inr (false, ar_t32)), (5, .inr (false, [(2, 2)]))], [], kch941),
  (19, [(0, .inl 0), (1, .inr (false, [(0, 3)])), (2, .inr (false, [(0, 5)])), (3, .inr (false, [(0, 0)])), (4, .inr (false, ar_t32)), (5, .inr (false, [(3, 3)]))], [], kch942),
  (19, [(0, .inl 0), (1, .inr (false, [(0, 3)])), (2, .inr (false, [(0, 5)])), (3, .inr (false, [(0, 0)])), (4, .inr (false, ar_t32)), (5, .inr (false, [(4, 4)]))], [], kch943),
  (19, [(0, .inl 0), (1, .inr (false, [(0, 3)])), (2, .inr (false, [(0, 5)])), (3, .inr (false, [(0, 0)])), (4, .inr (false, ar_t32)), (5, .inr (false, [(5, 5)]))], [], kch944),
  (19, [(0, .inl 0), (1, .inr (false, [(0, 3)])), (2, .inr (false, [(0, 5)])), (3, .inr (false, [(0, 0)])), (4, .inr (false, ar_t32)), (5, .inr (false, [(6, 6)]))], [], kch945),
  (19, [(0, .inl 0), (1, .inr (false, [(0, 3)])), (2, .inr (false, [(0, 5)])), (3, .inr (false, [(0, 0)])), (4, .inr (false, ar_t32)), (5, .inr (false, [(7, 7)]))], [], kch946),
  (19, [(0, .inl 0), (1, .inr (false, [(0, 3)])), (2, .inr (false, [(0, 5)])), (3, .inr (false, [(0, 0)])), (4, .inr (false, ar_t32)), (5, .inr (false, [(8, 8)]))], [], kch947)] = true := by decide +kernel
/-- MiceRegisters.kindsThatFit -/
def kch948 : aw_H := [(0, kcx2), (1, kcx4), (2, kcx7), (3, .inr (.inl (0, 40, [], []))), (4, .inr (.inl (0, 40, [], []))), (5, .inr (.inl (0, 40, [], []))), (6, .inr (.inl (0, 40, [], []))), (7, .inr (.inl (0, 40, [], []))), (8, .inr (.inl (0, 40, [], []))), (15, kcx669), (16, .inr (.inl (0, 8, [], []))), (17, .inr (.inl (0, 8, [], []))), (18, .inr (.inl (0, 8, [], []))), (19, .inr (.inl (0, 8, [], []))), (20, .inr (.inl (0, 4, [], []))), (21, .inr (.inl (0, 4, [], []))), (22, kcx36), (23, kcx36), (24, kcx25), (25, .inr (.inl (0, 8, [], []))), (26, .inr (.inl (0, 8, [], []))), (27, .inr (.inl (0, 8, [], []))), (28, .inr (.inl (0, 8, [], []))), (29, .inr (.inl (0, 4, [], []))), (30, .inr (.inl (0, 4, [], []))), (31, kcx36), (32, kcx36)]
def kcc1032 : ak_C := (71, [.inl 0, .inr (false, [(0, 3)]), .inr (false, [(0, 5)])], kch948, [24, 25, 26, 27, 28, 29, 30, 31, 32], [([], some (.inr (false, ar_t32)), kch827)])
theorem kck1032 : ai_chk [kcc1014, kcc1030] kcc1032 (fun pc => sm_ch sm_t71 pc, sm_Kn 2 5 none, fun x => sm_lk sm_ca2 x, some .int) [24, 25, 26, 27, 28, 29, 30, 31, 32] 5 0 [5] [] 2000 [(5, [(0, .inl 0), (1, .inr (false, [(0, 3)])), (2, .inr (false, [(0, 5)])), (3, .inr (false, [(0, 0)])), (4, .inr (false, [(0, 0)]))], [], kch948),
  (5, [(0, .inl 0), (1, .inr (false, [(0, 3)])), (2, .inr (false, [(0, 5)])), (3, .inr (false, [(0, 1)])), (4, .inr (false, [(1, 1)]))], [], kch948),
  (5, [(0, .inl 0), (1, .inr (false, [(0, 3)])), (2, .inr (false, [(0, 5)])), (3, .inr (false, ar_t32)), (4, .inr (false, [(2, 2)]))], [], kch948),
  (5, [(0, .inl 0), (1, .inr (false, [(0, 3)])), (2, .inr (false, [(0, 5)])), (3, .inr (false, ar_t32)), (4, .inr (false, [(3, 3)]))], [], kch948),
  (5, [(0, .inl 0), (1, .inr (false, [(0, 3)])), (2, .inr (false, [(0, 5)])), (3, .inr (false, ar_t32)), (4, .inr (false, [(4, 4)]))], [], kch948),
  (5, [(0, .inl 0), (1, .inr (false, [(0, 3)])), (2, .inr (false, [(0, 5)])), (3, .inr (false, ar_t32)), (4, .inr (false, [(5, 5)]))], [], kch948),
  (5, [(0, .inl 0), (1, .inr (false, [(0, 3)])), (2, .inr (false, [(0, 5)])), (3, .inr (false, ar_t32)), (4, .inr (false, [(6, 6)]))], [], kch948)] = true := by decide +kernel
/-- MiceRegisters.kinds -/
def kcc1033 : ak_C := (70, [.inl 0, .inr (false, ar_t32), .inr (false, ar_t32)], kch939, [0, 24, 25, 26, 27, 28, 29, 30, 31, 32, 80], [([[], [(0, 3)], [(0, 5)]], some (.inr (false, ar_t32)), kch937), ([[], [], []], some (.inr (false, [(-1, -1)])), kch937), ([[], [(0, 3)], [(0, 5)]], some (.inr (false, [(-3, -3)])), kch938)])
theorem kck1033 : ai_chk [kcc1029, kcc1032] kcc1033 (fun pc => sm_ch sm_t70 pc, sm_Kn 2 4 none, fun x => sm_lk sm_ca2 x, some .int) [0, 24, 25, 26, 27, 28, 29, 30, 31, 32, 80] 4 3 [] [] 2000 [] = true := by decide +kernel
def kch949 : aw_H := [(24, kcx25), (25, .inr (.inl (0, 8, [], []))), (26, .inr (.inl (0, 8, [], []))), (27, .inr (.inl (0, 8, [], []))), (28, .inr (.inl (0, 8, [], []))), (29, .inr (.inl (0, 4, [], []))), (30, .inr (.inl (0, 4, [], []))), (31, kcx36), (32, kcx36), (60, .inr (.inl (0, 8, [], []))), (61, .inr (.inl (0, 8, [], []))), (62, .inr (.inl (0, 8, [], []))), (63, .inr (.inl (0, 8, [], []))), (64, .inr (.inl (0, 8, [], []))), (65, .inr (.inl (0, 8, [], []))), (66, .inr (.inl (0, 8, [], []))), (67, .inr (.inl (0, 8, [], []))), (68, .inr (.inl (0, 8, [], []))), (69, .inr (.inl (0, 8, [], []))), (70, .inr (.inl (0, 8, [], []))), (71, .inr (.inl (0, 8, [], []))), (72, .inr (.inl (0, 8, [], []))), (73, .inr (.inl (0, 8, [], []))), (74, .inr (.inl (0, 8, [], []))), (75, .inr (.inl (0, 8, [], []))), (76, .inr (.inl (0, 8, [], []))), (77, .inr (.inl (0, 8, [], []))), (78, .inr (.inl (0, 8, [], []))), (79, .inr (.inl (0, 8, [], [])))]
/-- MiceRegisters.followKind -/
def kcx950 : aw_A := .inr (.inr (.inl (2, [60, 61, 62, 63, 64, 65, 66, 67, 68, 69, 70, 71, 72, 73, 74, 75, 76, 77, 78, 79])))
def kch951 : aw_H := [(0, kcx2), (15, kcx669), (16, .inr (.inl (0, 8, [], []))), (17, .inr (.inl (0, 8, [], []))), (18, .inr (.inl (0, 8, [], []))), (19, .inr (.inl (0, 8, [], []))), (20, .inr (.inl (0, 4, [], []))), (21, .inr (.inl (0, 4, [], []))), (22, kcx36), (23, kcx36), (24, kcx25), (25, .inr (.inl (0, 8, [], []))), (26, .inr (.inl (0, 8, [], []))), (27, .inr (.inl (0, 8, [], []))), (28, .inr (.inl (0, 8, [], []))), (29, .inr (.inl (0, 4, [], []))), (30, .inr (.inl (0, 4, [], []))), (31, kcx36), (32, kcx36), (59, kcx950), (60, .inr (.inl (0, 8, [], []))), (61, .inr (.inl (0, 8, [], []))), (62, .inr (.inl (0, 8, [], []))), (63, .inr (.inl (0, 8, [], []))), (64, .inr (.inl (0, 8, [], []))), (65, .inr (.inl (0, 8, [], []))), (66, .inr (.inl (0, 8, [], []))), (67, .inr (.inl (0, 8, [], []))), (68, .inr (.inl (0, 8, [], []))), (69, .inr (.inl (0, 8, [], []))), (70, .inr (.inl (0, 8, [], []))), (71, .inr (.inl (0, 8, [], []))), (72, .inr (.inl (0, 8, [], []))), (73, .inr (.inl (0, 8, [], []))), (74, .inr (.inl (0, 8, [], []))), (75, .inr (.inl (0, 8, [], []))), (76, .inr (.inl (0, 8, [], []))), (77, .inr (.inl (0, 8, [], []))), (78, .inr (.inl (0, 8, [], []))), (79, .inr (.inl (0, 8, [], [])))]
def kcc1034 : ak_C := (74, [.inl 0, .inr (false, [(0, 3)]), .inr (false, [(0, 5)])], kch951, [24, 25, 26, 27, 28, 29, 30, 31, 32, 60, 61, 62, 63, 64, 65, 66, 67, 68, 69, 70, 71, 72, 73, 74, 75, 76, 77, 78, 79], [([], none, kch949)])
theorem kck1034 : ai_chk [kcc1014, kcc1018] kcc1034 (fun pc => sm_ch sm_t74 pc, sm_Kn 2 4 none, fun x => sm_lk sm_ca2 x, none) [24, 25, 26, 27, 28, 29, 30, 31, 32, 60, 61, 62, 63, 64, 65, 66, 67, 68, 69, 70, 71, 72, 73, 74, 75, 76, 77, 78, 79] 4 0 [23] [] 2000 [(23, [(0, .inl 0), (1, .inr (false, [(0, 3)])), (2, .inr (false, [(0, 5)])), (3, .inr (false, [(0, 0)]))], [], kch951),
  (23, [(0, .inl 0), (1, .inr (false, [(0, 3)])), (2, .inr (false, [(0, 5)])), (3, .inr (false, [(1, 1)]))], [], kch951),
  (23, [(0, .inl 0), (1, .inr (false, [(0, 3)])), (2, .inr (false, [(0, 5)])), (3, .inr (false, [(2, 2)]))], [], kch951),
  (23, [(0, .inl 0), (1, .inr (false, [(0, 3)])), (2, .inr (false, [(0, 5)])), (3, .inr (false, [(3, 3)]))], [], kch951),
  (23, [(0, .inl 0), (1, .inr (false, [(0, 3)])), (2, .inr (false, [(0, 5)])), (3, .inr (false, [(4, 4)]))], [], kch951),
  (23, [(0, .inl 0), (1, .inr (false, [(0, 3)])), (2, .inr (false, [(0, 5)])), (3, .inr (false, [(5, 5)]))], [], kch951),
  (23, [(0, .inl 0), (1, .inr (false, [(0, 3)])), (2, .inr (false, [(0, 5)])), (3, .inr (false, [(6, 6)]))], [], kch951),
  (23, [(0, .inl 0), (1, .inr (false, [(0, 3)])), (2, .inr (false, [(0, 5)])), (3, .inr (false, [(7, 7)]))], [], kch951),
  (23, [(0, .inl 0), (1, .inr (false, [(0, 3)])), (2, .inr (false, [(0, 5)])), (3, .inr (false, [(8, 8)]))], [], kch951),
  (23, [(0, .inl 0), (1, .inr (false, [(0, 3)])), (2, .inr (false, [(0, 5)])), (3, .inr (false, [(9, 9)]))], [], kch951),
  (23, [(0, .inl 0), (1, .inr (false, [(0, 3)])), (2, .inr (false, [(0, 5)])), (3, .inr (false, [(10, 10)]))], [], kch951),
  (23, [(0, .inl 0), (1, .inr (false, [(0, 3)])), (2, .inr (false, [(0, 5)])), (3, .inr (false, [(11, 11)]))], [], kch951),
  (23, [(0, .inl 0), (1, .inr (false, [(0, 3)])), (2, .inr (false, [(0, 5)])), (3, .inr (false, [(12, 12)]))], [], kch951),
  (23, [(0, .inl 0), (1, .inr (false, [(0, 3)])), (2, .inr (false, [(0, 5)])), (3, .inr (false, [(13, 13)]))], [], kch951),
  (23, [(0, .inl 0), (1, .inr (false, [(0, 3)])), (2, .inr (false, [(0, 5)])), (3, .inr (false, [(14, 14)]))], [], kch951),
  (23, [(0, .inl 0), (1, .inr (false, [(0, 3)])), (2, .inr (false, [(0, 5)])), (3, .inr (false, [(15, 15)]))], [], kch951),
  (23, [(0, .inl 0), (1, .inr (false, [(0, 3)])), (2, .inr (false, [(0, 5)])), (3, .inr (false, [(16, 16)]))], [], kch951),
  (23, [(0, .inl 0), (1, .inr (false, [(0, 3)])), (2, .inr (false, [(0, 5)])), (3, .inr (false, [(17, 17)]))], [], kch951),
  (23, [(0, .inl 0), (1, .inr (false, [(0, 3)])), (2, .inr (false, [(0, 5)])), (3, .inr (false, [(18, 18)]))], [], kch951),
  (23, [(0, .inl 0), (1, .inr (false, [(0, 3)])), (2, .inr (false, [(0, 5)])), (3, .inr (false, [(19, 19)]))], [], kch951),
  (23, [(0, .inl 0), (1, .inr (false, [(0, 3)])), (2, .inr (false, [(0, 5)])), (3, .inr (false, [(20, 20)]))], [], kch951)] = true := by decide +kernel
/-- MiceRegisters.followKinds -/
def kcc1035 : ak_C := (73, [.inl 0, .inr (false, [(0, 3)]), .inr (false, ar_t32)], kch951, [24, 25, 26, 27, 28, 29, 30, 31, 32, 60, 61, 62, 63, 64, 65, 66, 67, 68, 69, 70, 71, 72, 73, 74, 75, 76, 77, 78, 79], [([], none, kch949)])
theorem kck1035 : ai_chk [kcc1034] kcc1035 (fun pc => sm_ch sm_t73 pc, sm_Kn 2 5 none, fun x => sm_lk sm_ca2 x, none) [24, 25, 26, 27, 28, 29, 30, 31, 32, 60, 61, 62, 63, 64, 65, 66, 67, 68, 69, 70, 71, 72, 73, 74, 75, 76, 77, 78, 79] 5 0 [2, 11, 42] [] 2000 [(2, [(0, .inl 0), (1, .inr (false, [(0, 3)])), (2, .inr (false, ar_t32)), (3, .inr (false, [(0, 0)]))], [], kch951),
  (11, [(0, .inl 0), (1, .inr (false, [(0, 3)])), (2, .inr (false, ar_t32)), (3, .inr (false, [(0, 0)])), (4, .inr (false, [(0, 0)]))], [], kch951),
  (11, [(0, .inl 0), (1, .inr (false, [(0, 3)])), (2, .inr (false, ar_t32)), (3, .inr (false, [(0, 0)])), (4, .inr (false, [(1, 1)]))], [], kch951),
  (11, [(0, .inl 0), (1, .inr (false, [(0, 3)])), (2, .inr (false, ar_t32)), (3, .inr (false, [(0, 0)])), (4, .inr (false, [(2, 2)]))], [], kch951),
  (11, [(0, .inl 0), (1, .inr (false, [(0, 3)])), (2, .inr (false, ar_t32)), (3, .inr (false, [(0, 0)])), (4, .inr (false, [(3, 3)]))], [], kch951),
  (11, [(0, .inl 0), (1, .inr (false, [(0, 3)])), (2, .inr (false, ar_t32)), (3, .inr (false, [(0, 0)])), (4, .inr (false, [(4, 4)]))], [], kch951),
  (11, [(0, .inl 0), (1, .inr (false, [(0, 3)])), (2, .inr (false, ar_t32)), (3, .inr (false, [(0, 0)])), (4, .inr (false, [(5, 5)]))], [], kch951),
  (11, [(0, .inl 0), (1, .inr (false, [(0, 3)])), (2, .inr (false, ar_t32)), (3, .inr (false, [(0, 0)])), (4, .inr (false, [(6, 6)]))], [], kch951),
  (11, [(0, .inl 0), (1, .inr (false, [(0, 3)])), (2, .inr (false, ar_t32)), (3, .inr (false, [(0, 0)])), (4, .inr (false, [(7, 7)]))], [], kch951),
  (11, [(0, .inl 0), (1, .inr (false, [(0, 3)])), (2, .inr (false, ar_t32)), (3, .inr (false, [(0, 0)])), (4, .inr (false, [(8, 8)]))], [], kch951),
  (2, [(0, .inl 0), (1, .inr (false, [(0, 3)])), (2, .inr (false, ar_t32)), (3, .inr (false, [(1, 1)])), (4, .inr (false, [(8, 8)]))], [], kch951),
  (11, [(0, .inl 0), (1, .inr (false, [(0, 3)])), (2, .inr (false, ar_t32)), (3, .inr (false, [(1, 1)])), (4, .inr (false, [(0, 0)]))], [], kch951),
  (11, [(0, .inl 0), (1, .inr (false, [(0, 3)])), (2, .inr (false, ar_t32)), (3, .inr (false, [(1, 1)])), (4, .inr (false, [(1, 1)]))], [], kch951),
  (11, [(0, .inl 0), (1, .inr (false, [(0, 3)])), (2, .inr (false, ar_t32)), (3, .inr (false, [(1, 1)])), (4, .inr (false, [(2, 2)]))], [], kch951),
  (11, [(0, .inl 0), (1, .inr (false, [(0, 3)])), (2, .inr (false, ar_t32)), (3, .inr (false, [(1, 1)])), (4, .inr (false, [(3, 3)]))], [], kch951),
  (11, [(0, .inl 0), (1, .inr (false, [(0, 3)])), (2, .inr (false, ar_t32)), (3, .inr (false, [(1, 1)])), (4, .inr (false, [(4, 4)]))], [], kch951),
  (11, [(0, .inl 0), (1, .inr (false, [(0, 3)])), (2, .inr (false, ar_t32)), (3, .inr (false, [(1, 1)])), (4, .inr (false, [(5, 5)]))], [], kch951),
  (11, [(0, .inl 0), (1, .inr (false, [(0, 3)])), (2, .inr (false, ar_t32)), (3, .inr (false, [(1, 1)])), (4, .inr (false, [(6, 6)]))], [], kch951),
  (11, [(0, .inl 0), (1, .inr (false, [(0, 3)])), (2, .inr (false, ar_t32)), (3, .inr (false, [(1, 1)])), (4, .inr (false, [(7, 7)]))], [], kch951),
  (11, [(0, .inl 0), (1, .inr (false, [(0, 3)])), (2, .inr (false, ar_t32)), (3, .inr (false, [(1, 1)])), (4, .inr (false, [(8, 8)]))], [], kch951),
  (2, [(0, .inl 0), (1, .inr (false, [(0, 3)])), (2, .inr (false, ar_t32)), (3, .inr (false, [(2, 2)])), (4, .inr (false, [(8, 8)]))], [], kch951),
  (11, [(0, .inl 0), (1, .inr (false, [(0, 3)])), (2, .inr (false, ar_t32)), (3, .inr (false, [(2, 2)])), (4, .inr (false, [(0, 0)]))], [], kch951),
  (11, [(0, .inl 0), (1, .inr (false, [(0, 3)])), (2, .inr (false, ar_t32)), (3, .inr (false, [(2, 2)])), (4, .inr (false, [(1, 1)]))], [], kch951),
  (11, [(0, .inl 0), (1, .inr (false, [(0, 3)])), (2, .inr (false, ar_t32)), (3, .inr (false, [(2, 2)])), (4, .inr (false, [(2, 2)]))], [], kch951),
  (11, [(0, .inl 0), (1, .inr (false, [(0, 3)])), (2, .inr (false, ar_t32)), (3, .inr (false, [(2, 2)])), (4, .inr (false, [(3, 3)]))], [], kch951),
  (11, [(0, .inl 0), (1, .inr (false, [(0, 3)])), (2, .inr (false, ar_t32)), (3, .inr (false, [(2, 2)])), (4, .inr (false, [(4, 4)]))], [], kch951),
  (11, [(0, .inl 0), (1, .inr (false, [(0, 3)])), (2, .inr (false, ar_t32)), (3, .inr (false, [(2, 2)])), (4, .inr (false, [(5, 5)]))], [], kch951),
  (11, [(0, .inl 0), (1, .inr (false, [(0, 3)])), (2, .inr (false, ar_t32)), (3, .inr (false, [(2, 2)])), (4, .inr (false, [(6, 6)]))], [], kch951),
  (11, [(0, .inl 0), (1, .inr (false, [(0, 3)])), (2, .inr (false, ar_t32)), (3, .inr (false, [(2, 2)])), (4, .inr (false, [(7, 7)]))], [], kch951),
  (11, [(0, .inl 0), (1, .inr (false, [(0, 3)])), (2, .inr (false, ar_t32)), (3, .inr (false, [(2, 2)])), (4, .inr (false, [(8, 8)]))], [], kch951),
  (2, [(0, .inl 0), (1, .inr (false, [(0, 3)])), (2, .inr (false, ar_t32)), (3, .inr (false, [(3, 3)])), (4, .inr (false, [(8, 8)]))], [], kch951),
  (11, [(0, .inl 0), (1, .inr (false, [(0, 3)])), (2, .inr (false, ar_t32)), (3, .inr (false, [(3, 3)])), (4, .inr (false, [(0, 0)]))], [], kch951),
  (11, [(0, .inl 0), (1, .inr (false, [(0, 3)])), (2, .inr (false, ar_t32)), (3, .inr (false, [(3, 3)])), (4, .inr (false, [(1, 1)]))], [], kch951),
  (11, [(0, .inl 0), (1, .inr (false, [(0, 3)])), (2, .inr (false, ar_t32)), (3, .inr (false, [(3, 3)])), (4, .inr (false, [(2, 2)]))], [], kch951),
  (11, [(0, .inl 0), (1, .inr (false, [(0, 3)])), (2, .inr (false, ar_t32)), (3, .inr (false, [(3, 3)])), (4, .inr (false, [(3, 3)]))], [], kch951),
  (11, [(0, .inl 0), (1, .inr (false, [(0, 3)])), (2, .inr (false, ar_t32)), (3, .inr (false, [(3, 3)])), (4, .inr (false, [(4, 4)]))], [], kch951),
  (11, [(0, .inl 0), (1, .inr (false, [(0, 3)])), (2, .inr (false, ar_t32)), (3, .inr (false, [(3, 3)])), (4, .inr (false, [(5, 5)]))], [], kch951),
  (11, [(0, .inl 0), (1, .inr (false, [(0, 3)])), (2, .inr (false, ar_t32)), (3, .inr (false, [(3, 3)])), (4, .inr (false, [(6, 6)]))], [], kch951),
  (11, [(0, .inl 0), (1, .inr (false, [(0, 3)])), (2, .inr (false, ar_t32)), (3, .inr (false, [(3, 3)])), (4, .inr (false, [(7, 7)]))], [], kch951),
  (11, [(0, .inl 0), (1, .inr (false, [(0, 3)])), (2, .inr (false, ar_t32)), (3, .inr (false, [(3, 3)])), (4, .inr (false, [(8, 8)]))], [], kch951),
  (2, [(0, .inl 0), (1, .inr (false, [(0, 3)])), (2, .inr (false, ar_t32)), (3, .inr (false, [(4, 4)])), (4, .inr (false, [(8, 8)]))], [], kch951),
  (11, [(0, .inl 0), (1, .inr (false, [(0, 3)])), (2, .inr (false, ar_t32)), (3, .inr (false, [(4, 4)])), (4, .inr (false, [(0, 0)]))], [], kch951),
  (11, [(0, .inl 0), (1, .inr (false, [(0, 3)])), (2, .inr (false, ar_t32)), (3, .inr (false, [(4, 4)])), (4, .inr (false, [(1, 1)]))], [], kch951),
  (11, [(0, .inl 0), (1, .inr (false, [(0, 3)])), (2, .inr (false, ar_t32)), (3, .inr (false, [(4, 4)])), (4, .inr (false, [(2, 2)]))], [], kch951),
  (11, [(0, .inl 0), (1, .inr (false, [(0, 3)])), (2, .inr (false, ar_t32)), (3, .inr (false, [(4, 4)])), (4, .inr (false, [(3, 3)]))], [], kch951),
  (11, [(0, .inl 0), (1, .inr (false, [(0, 3)])), (2, .inr (false, ar_t32)), (3, .inr (false, [(4, 4)])), (4, .inr (false, [(4, 4)]))], [], kch951),
  (11, [(0, .inl 0), (1, .inr (false, [(0, 3)])), (2, .inr (false, ar_t32)), (3, .inr (false, [(4, 4)])), (4, .inr (false, [(5, 5)]))], [], kch951),
  (11, [(0, .inl 0), (1, .inr (false, [(0, 3)])), (2, .inr (false, ar_t32)), (3, .inr (false, [(4, 4)])), (4, .inr (false, [(6, 6)]))], [], kch951),
  (11, [(0, .inl 0), (1, .inr (false, [(0, 3)])), (2, .inr (false, ar_t32)), (3, .inr (false, [(4, 4)])), (4, .inr (false, [(7, 7)]))], [], kch951),
  (11, [(0, .inl 0), (1, .inr (false, [(0, 3)])), (2, .inr (false, ar_t32)), (3, .inr (false, [(4, 4)])), (4, .inr (false, [(8, 8)]))], [], kch951),
  (2, [(0, .inl 0), (1, .inr (false, [(0, 3)])), (2, .inr (false, ar_t32)), (3, .inr (false, [(5, 5)])), (4, .inr (false, [(8, 8)]))], [], kch951),
  (11, [(0, .inl 0), (1, .inr (false, [(0, 3)])), (2, .inr (false, ar_t32)), (3, .inr (false, [(5, 5)])), (4, .inr (false, [(0, 0)]))], [], kch951),
  (11, [(0, .inl 0), (1, .inr (false, [(0, 3)])), (2, .inr (false, ar_t32)), (3, .inr (false, [(5, 5)])), (4, .inr (false, [(1, 1)]))], [], kch951),
  (11, [(0, .inl 0), (1, .inr (false, [(0, 3)])), (2, .inr (false, ar_t32)), (3, .inr (false, [(5, 5)])), (4, .inr (false, [(2, 2)]))], [], kch951),
  (11, [(0, .inl 0), (1, .inr (false, [(0, 3)])), (2, .inr (false, ar_t32)), (3, .inr (false, [(5, 5)])), (4, .inr (false, [(3, 3)]))], [], kch951),
  (11, [(0, .inl 0), (1, .inr (false, [(0, 3)])), (2, .inr (false, ar_t32)), (3, .inr (false, [(5, 5)])), (4, .inr (false, [(4, 4)]))], [], kch951),
  (11, [(0, .inl 0), (1, .inr (false, [(0, 3)])), (2, .inr (false, ar_t32)), (3, .inr (false, [(5, 5)])), (4, .inr (false, [(5, 5)]))], [], kch951),
  (11, [(0, .inl 0), (1, .inr (false, [(0, 3)])), (2, .inr (false, ar_t32)), (3, .inr (false, [(5, 5)])), (4, .inr (false, [(6, 6)]))], [], kch951),
  (11, [(0, .inl 0), (1, .inr (false, [(0, 3)])), (2, .inr (false, ar_t32)), (3, .inr (false, [(5, 5)])), (4, .inr (false, [(7, 7)]))], [], kch951),
  (11, [(0, .inl 0), (1, .inr (false, [(0, 3)])), (2, .inr (false, ar_t32)), (3, .inr (false, [(5, 5)])), (4, .inr (false, [(8, 8)]))], [], kch951),
  (2, [(0, .inl 0), (1, .inr (false, [(0, 3)])), (2, .inr (false, ar_t32)), (3, .inr (false, [(6, 6)])), (4, .inr (false, [(8, 8)]))], [], kch951),
  (11, [(0, .inl 0), (1, .inr (false, [(0, 3)])), (2, .inr (false, ar_t32)), (3, .inr (false, [(6, 6)])), (4, .inr (false, [(0, 0)]))], [], kch951),
  (11, [(0, .inl 0), (1, .inr (false, [(0, 3)])), (2, .inr (false, ar_t32)), (3, .inr (false, [(6, 6)])), (4, .inr (false, [(1, 1)]))], [], kch951),
  (11, [(0, .inl 0), (1, .inr (false, [(0, 3)])), (2, .inr (false, ar_t32)), (3, .inr (false, [(6, 6)])), (4, .inr (false, [(2, 2)]))], [], kch951),
  (11, [(0, .inl 0), (1, .inr (false, [(0, 3)])), (2, .inr (false, ar_t32)), (3, .inr (false, [(6, 6)])), (4, .inr (false, [(3, 3)]))], [], kch951),
  (11, [(0, .inl 0), (1, .inr (false, [(0, 3)])), (2, .inr (false, ar_t32)), (3, .inr (false, [(6, 6)])), (4, .inr (false, [(4, 4)]))], [], kch951),
  (11, [(0, .inl 0), (1, .inr (false, [(0, 3)])), (2, .inr (false, ar_t32)), (3, .inr (false, [(6, 6)])), (4, .inr (false, [(5, 5)]))], [], kch951),
  (11, [(0, .inl 0), (1, .inr (false, [(0, 3)])), (2, .inr (false, ar_t32)), (3, .inr (false, [(6, 6)])), (4, .inr (false, [(6, 6)]))], [], kch951),
  (11, [(0, .inl 0), (1, .inr (false, [(0, 3)])), (2, .inr (false, ar_t32)), (3, .inr (false, [(6, 6)])), (4, .inr (false, [(7, 7)]))], [], kch951),
  (11, [(0, .inl 0), (1, .inr (false, [(0, 3)])), (2, .inr (false, ar_t32)), (3, .inr (false, [(6, 6)])), (4, .inr (false, [(8, 8)]))], [], kch951),
  (2, [(0, .inl 0), (1, .inr (false, [(0, 3)])), (2, .inr (false, ar_t32)), (3, .inr (false, [(7, 7)])), (4, .inr (false, [(8, 8)]))], [], kch951),
  (11, [(0, .inl 0), (1, .inr (false, [(0, 3)])), (2, .inr (false, ar_t32)), (3, .inr (false, [(7, 7)])), (4, .inr (false, [(0, 0)]))], [], kch951),
  (11, [(0, .inl 0), (1, .inr (false, [(0, 3)])), (2, .inr (false, ar_t32)), (3, .inr (false, [(7, 7)])), (4, .inr (false, [(1, 1)]))], [], kch951),
  (11, [(0, .inl 0), (1, .inr (false, [(0, 3)])), (2, .inr (false, ar_t32)), (3, .inr (false, [(7, 7)])), (4, .inr (false, [(2, 2)]))], [], kch951),
  (11, [(0, .inl 0), (1, .inr (false, [(0, 3)])), (2, .inr (false, ar_t32)), (3, .inr (false, [(7, 7)])), (4, .inr (false, [(3, 3)]))], [], kch951),
  (11, [(0, .inl 0), (1, .inr (false, [(0, 3)])), (2, .inr (false, ar_t32)), (3, .inr (false, [(7, 7)])), (4, .inr (false, [(4, 4)]))], [], kch951),
  (11, [(0, .inl 0), (1, .inr (false, [(0, 3)])), (2, .inr (false, ar_t32)), (3, .inr (false, [(7, 7)])), (4, .inr (false, [(5, 5)]))], [], kch951),
  (11, [(0, .inl 0), (1, .inr (false, [(0, 3)])), (2, .inr (false, ar_t32)), (3, .inr (false, [(7, 7)])), (4, .inr (false, [(6, 6)]))], [], kch951),
  (11, [(0, .inl 0), (1, .inr (false, [(0, 3)])), (2, .inr (false, ar_t32)), (3, .inr (false, [(7, 7)])), (4, .inr (false, [(7, 7)]))], [], kch951),
  (11, [(0, .inl 0), (1, .inr (false, [(0, 3)])), (2, .inr (false, ar_t32)), (3, .inr (false, [(7, 7)])), (4, .inr (false, [(8, 8)]))], [], kch951),
  (2, [(0, .inl 0), (1, .inr (false, [(0, 3)])), (2, .inr (false, ar_t32)), (3, .inr (false, [(8, 8)])), (4, .inr (false, [(8, 8)]))], [], kch951),
  (11, [(0, .inl 0), (1, .inr (false, [(0, 3)])), (2, .inr (false, ar_t32)), (3, .inr (false, [(8, 8)])), (4, .inr (false, [(0, 0)]))], [], kch951),
  (11, [(0, .inl 0), (1, .inr (false, [(0, 3)])), (2, .inr (false, ar_t32)), (3, .inr (false, [(8, 8)])), (4, .inr (false, [(1, 1)]))], [], kch951),
  (11, [(0, .inl 0), (1, .inr (false, [(0, 3)])), (2, .inr (false, ar_t32)), (3, .inr (false, [(8, 8)])), (4, .inr (false, [(2, 2)]))], [], kch951),
  (11, [(0, .inl 0), (1, .inr (false, [(0, 3)])), (2, .inr (false, ar_t32)), (3, .inr (false, [(8, 8)])), (4, .inr (false, [(3, 3)]))], [], kch951),
  (11, [(0, .inl 0), (1, .inr (false, [(0, 3)])), (2, .inr (false, ar_t32)), (3, .inr (false, [(8, 8)])), (4, .inr (false, [(4, 4)]))], [], kch951),
  (11, [(0, .inl 0), (1, .inr (false, [(0, 3)])), (2, .inr (false, ar_t32)), (3, .inr (false, [(8, 8)])), (4, .inr (false, [(5, 5)]))], [], kch951),
  (11, [(0, .inl 0), (1, .inr (false, [(0, 3)])), (2, .inr (false, ar_t32)), (3, .inr (false, [(8, 8)])), (4, .inr (false, [(6, 6)]))], [], kch951),
  (11, [(0, .inl 0), (1, .inr (false, [(0, 3)])), (2, .inr (false, ar_t32)), (3, .inr (false, [(8, 8)])), (4, .inr (false, [(7, 7)]))], [], kch951),
  (11, [(0, .inl 0), (1, .inr (false, [(0, 3)])), (2, .inr (false, ar_t32)), (3, .inr (false, [(8, 8)])), (4, .inr (false, [(8, 8)]))], [], kch951),
  (2, [(0, .inl 0), (1, .inr (false, [(0, 3)])), (2, .inr (false, ar_t32)), (3, .inr (false, [(9, 9)])), (4, .inr (false, [(8, 8)]))], [], kch951),
  (11, [(0, .inl 0), (1, .inr (false, [(0, 3)])), (2, .inr (false, ar_t32)), (3, .inr (false, [(9, 9)])), (4, .inr (false, [(0, 0)]))], [], kch951),
  (11, [(0, .inl 0), (1, .inr (false, [(0, 3)])), (2, .inr (false, ar_t32)), (3, .inr (false, [(9, 9)])), (4, .inr (false, [(1, 1)]))], [], kch951),
  (11, [(0, .inl 0), (1, .inr (false, [(0, 3)])), (2, .inr (false, ar_t32)), (3, .inr (false, [(9, 9)])), (4, .inr (false, [(2, 2)]))], [], kch951),
  (11, [(0, .inl 0), (1, .inr (false, [(0, 3)])), (2, .inr (false, ar_t32)), (3, .inr (false, [(9, 9)])), (4, .inr (false, [(3, 3)]))], [], kch951),
  (11, [(0, .inl 0), (1, .inr (false, [(0, 3)])), (2, .inr (false, ar_t32)), (3, .inr (false, [(9, 9)])), (4, .inr (false, [(4, 4)]))], [], kch951),
  (11, [(0, .inl 0), (1, .inr (false, [(0, 3)])), (2, .inr (false, ar_t32)), (3, .inr (false, [(9, 9)])), (4, .inr (false, [(5, 5)]))], [], kch951),
  (11, [(0, .inl 0), (1, .inr (false, [(0, 3)])), (2, .inr (false, ar_t32)), (3, .inr (false, [(9, 9)])), (4, .inr (false, [(6, 6)]))], [], kch951),
  (11, [(0, .inl 0), (1, .inr (false, [(0, 3)])), (2, .inr (false, ar_t32)), (3, .inr (false, [(9, 9)])), (4, .inr (false, [(7, 7)]))], [], kch951),
  (11, [(0, .inl 0), (1, .inr (false, [(0, 3)])), (2, .inr (false, ar_t32)), (3, .inr (false, [(9, 9)])), (4, .inr (false, [(8, 8)]))], [], kch951),
  (2, [(0, .inl 0), (1, .inr (false, [(0, 3)])), (2, .inr (false, ar_t32)), (3, .inr (false, [(10, 10)])), (4, .inr (false, [(8, 8)]))], [], kch951),
  (11, [(0, .inl 0), (1, .inr (false, [(0, 3)])), (2, .inr (false, ar_t32)), (3, .inr (false, [(10, 10)])), (4, .inr (false, [(0, 0)]))], [], kch951),
  (11, [(0, .inl 0), (1, .inr (false, [(0, 3)])), (2, .inr (false, ar_t32)), (3, .inr (false, [(10, 10)])), (4, .inr (false, [(1, 1)]))], [], kch951),
  (11, [(0, .inl 0), (1, .inr (false, [(0, 3)])), (2, .inr (false, ar_t32)), (3, .inr (false, [(10, 10)])), (4, .inr (false, [(2, 2)]))], [], kch951),
  (11, [(0, .inl 0), (1, .inr (false, [(0, 3)])), (2, .inr (false, ar_t32)), (3, .inr (false, [(10, 10)])), (4, .inr (false, [(3, 3)]))], [], kch951),
  (11, [(0, .inl 0), (1, .inr (false, [(0, 3)])), (2, .inr (false, ar_t32)), (3, .inr (false, [(10, 10)])), (4, .inr (false, [(4, 4)]))], [], kch951),
  (11, [(0, .inl 0), (1, .inr (false, [(0, 3)])), (2, .inr (false, ar_t32)), (3, .inr (false, [(10, 10)])), (4, .inr (false, [(5, 5)]))], [], kch951),
  (11, [(0, .inl 0), (1, .inr (false, [(0, 3)])), (2, .inr (false, ar_t32)), (3, .inr (false, [(10, 10)])), (4, .inr (false, [(6, 6)]))], [], kch951),
  (11, [(0, .inl 0), (1, .inr (false, [(0, 3)])), (2, .inr (false, ar_t32)), (3, .inr (false, [(10, 10)])), (4, .inr (false, [(7, 7)]))], [], kch951),
  (11, [(0, .inl 0), (1, .inr (false, [(0, 3)])), (2, .inr (false, ar_t32)), (3, .inr (false, [(10, 10)])), (4, .inr (false, [(8, 8)]))], [], kch951),
  (2, [(0, .inl 0), (1, .inr (false, [(0, 3)])), (2, .inr (false, ar_t32)), (3, .inr (false, [(11, 11)])), (4, .inr (false, [(8, 8)]))], [], kch951),
  (11, [(0, .inl 0), (1, .inr (false, [(0, 3)])), (2, .inr (false, ar_t32)), (3, .inr (false, [(11, 11)])), (4, .inr (false, [(0, 0)]))], [], kch951),
  (11, [(0, .inl 0), (1, .inr (false, [(0, 3)])), (2, .inr (false, ar_t32)), (3, .inr (false, [(11, 11)])), (4, .inr (false, [(1, 1)]))], [], kch951),
  (11, [(0, .inl 0), (1, .inr (false, [(0, 3)])), (2, .inr (false, ar_t32)), (3, .inr (false, [(11, 11)])), (4, .inr (false, [(2, 2)]))], [], kch951),
  (11, [(0, .inl 0), (1, .inr (false, [(0, 3)])), (2, .inr (false, ar_t32)), (3, .inr (false, [(11, 11)])), (4, .inr (false, [(3, 3)]))], [], kch951),
  (11, [(0, .inl 0), (1, .inr (false, [(0, 3)])), (2, .inr (false, ar_t32)), (3, .inr (false, [(11, 11)])), (4, .inr (false, [(4, 4)]))], [], kch951),
  (11, [(0, .inl 0), (1, .inr (false, [(0, 3)])), (2, .inr (false, ar_t32)), (3, .inr (false, [(11, 11)])), (4, .inr (false, [(5, 5)]))], [], kch951),
  (11, [(0, .inl 0), (1, .inr (false, [(0, 3)])), (2, .inr (false, ar_t32)), (3, .inr (false, [(11, 11)])), (4, .inr (false, [(6, 6)]))], [], kch951),
  (11, [(0, .inl 0), (1, .inr (false, [(0, 3)])), (2, .inr (false, ar_t32)), (3, .inr (false, [(11, 11)])), (4, .inr (false, [(7, 7)]))], [], kch951),
  (11, [(0, .inl 0), (1, .inr (false, [(0, 3)])), (2, .inr (false, ar_t32)), (3, .inr (false, [(11, 11)])), (4, .inr (false, [(8, 8)]))], [], kch951),
  (2, [(0, .inl 0), (1, .inr (false, [(0, 3)])), (2, .inr (false, ar_t32)), (3, .inr (false, [(12, 12)])), (4, .inr (false, [(8, 8)]))], [], kch951),
  (11, [(0, .inl 0), (1, .inr (false, [(0, 3)])), (2, .inr (false, ar_t32)), (3, .inr (false, [(12, 12)])), (4, .inr (false, [(0, 0)]))], [], kch951),
  (11, [(0, .inl 0), (1, .inr (false, [(0, 3)])), (2, .inr (false, ar_t32)), (3, .inr (false, [(12, 12)])), (4, .inr (false, [(1, 1)]))], [], kch951),
  (11, [(0, .inl 0), (1, .inr (false, [(0, 3)])), (2, .inr (false, ar_t32)), (3, .inr (false, [(12, 12)])), (4, .inr (false, [(2, 2)]))], [], kch951),
  (11, [(0, .inl 0), (1, .inr (false, [(0, 3)])), (2, .inr (false, ar_t32)), (3, .inr (false, [(12, 12)])), (4, .inr (false, [(3, 3)]))], [], kch951),
  (11, [(0, .inl 0), (1, .inr (false, [(0, 3)])), (2, .inr (false, ar_t32)), (3, .inr (false, [(12, 12)])), (4, .inr (false, [(4, 4)]))], [], kch951),
  (11, [(0, .inl 0), (1, .inr (false, [(0, 3)])), (2, .inr (false, ar_t32)), (3, .inr (false, [(12, 12)])), (4, .inr (false, [(5, 5)]))], [], kch951),
  (11, [(0, .inl 0), (1, .inr (false, [(0, 3)])), (2, .inr (false, ar_t32)), (3, .inr (false, [(12, 12)])), (4, .inr (false, [(6, 6)]))], [], kch951),
  (11, [(0, .inl 0), (1, .inr (false, [(0, 3)])), (2, .inr (false, ar_t32)), (3, .inr (false, [(12, 12)])), (4, .inr (false, [(7, 7)]))], [], kch951),
  (11, [(0, .inl 0), (1, .inr (false, [(0, 3)])), (2, .inr (false, ar_t32)), (3, .inr (false, [(12, 12)])), (4, .inr (false, [(8, 8)]))], [], kch951),
  (2, [(0, .inl 0), (1, .inr (false, [(0, 3)])), (2, .inr (false, ar_t32)), (3, .inr (false, [(13, 13)])), (4, .inr (false, [(8, 8)]))], [], kch951),
  (11, [(0, .inl 0), (1, .inr (false, [(0, 3)])), (2, .inr (false, ar_t32)), (3, .inr (false, [(13, 13)])), (4, .inr (false, [(0, 0)]))], [], kch951),
  (11, [(0, .inl 0), (1, .inr (false, [(0, 3)])), (2, .inr (false, ar_t32)), (3, .inr (false, [(13, 13)])), (4, .inr (false, [(1, 1)]))], [], kch951),
  (11, [(0, .inl 0), (1, .inr (false, [(0, 3)])), (2, .inr (false, ar_t32)), (3, .inr (false, [(13, 13)])), (4, .inr (false, [(2, 2)]))], [], kch951),
  (11, [(0, .inl 0), (1, .inr (false, [(0, 3)])), (2, .inr (false, ar_t32)), (3, .inr (false, [(13, 13)])), (4, .inr (false, [(3, 3)]))], [], kch951),
  (11, [(0, .inl 0), (1, .inr (false, [(0, 3)])), (2, .inr (false, ar_t32)), (3, .inr (false, [(13, 13)])), (4, .inr (false, [(4, 4)]))], [], kch951),
  (11, [(0, .inl 0), (1, .inr (false, [(0, 3)])), (2, .inr (false, ar_t32)), (3, .inr (false, [(13, 13)])), (4, .inr (false, [(5, 5)]))], [], kch951),
  (11, [(0, .inl 0), (1, .inr (false, [(0, 3)])), (2, .inr (false, ar_t32)), (3, .inr (false, [(13, 13)])), (4, .inr (false, [(6, 6)]))], [], kch951),
  (11, [(0, .inl 0), (1, .inr (false, [(0, 3)])), (2, .inr (false, ar_t32)), (3, .inr (false, [(13, 13)])), (4, .inr (false, [(7, 7)]))], [], kch951),
  (11, [(0, .inl 0), (1, .inr (false, [(0, 3)])), (2, .inr (false, ar_t32)), (3, .inr (false, [(13, 13)])), (4, .inr (false, [(8, 8)]))], [], kch951),
  (2, [(0, .inl 0), (1, .inr (false, [(0, 3)])), (2, .inr (false, ar_t32)), (3, .inr (false, [(14, 14)])), (4, .inr (false, [(8, 8)]))], [], kch951),
  (11, [(0, .inl 0), (1, .inr (false, [(0, 3)])), (2, .inr (false, ar_t32)), (3, .inr (false, [(14, 14)])), (4, .inr (false, [(0, 0)]))], [], kch951),
  (11, [(0, .inl 0), (1, .inr (false, [(0, 3)])), (2, .inr (false, ar_t32)), (3, .inr (false, [(14, 14)])), (4, .inr (false, [(1, 1)]))], [], kch951),
  (11, [(0, .inl 0), (1, .inr (false, [(0, 3)])), (2, .inr (false, ar_t32)), (3, .inr (false, [(14, 14)])), (4, .inr (false, [(2, 2)]))], [], kch951),
  (11, [(0, .inl 0), (1, .inr (false, [(0, 3)])), (2, .inr (false, ar_t32)), (3, .inr (false, [(14, 14)])), (4, .inr (false, [(3, 3)]))], [], kch951),
  (11, [(0, .inl 0), (1, .inr (false, [(0, 3)])), (2, .inr (false, ar_t32)), (3, .inr (false, [(14, 14)])), (4, .inr (false, [(4, 4)]))], [], kch951),
  (11, [(0, .inl 0), (1, .inr (false, [(0, 3)])), (2, .inr (false, ar_t32)), (3, .inr (false, [(14, 14)])), (4, .inr (false, [(5, 5)]))], [], kch951),
  (11, [(0, .inl 0), (1, .inr (false, [(0, 3)])), (2, .inr (false, ar_t32)), (3, .inr (false, [(14, 14)])), (4, .inr (false, [(6, 6)]))], [], kch951),
  (11, [(0, .inl 0), (1, .inr (false, [(0, 3)])), (2, .inr (false, ar_t32)), (3, .inr (false, [(14, 14)])), (4, .inr (false, [(7, 7)]))], [], kch951),
  (11, [(0, .inl 0), (1, .inr (false, [(0, 3)])), (2, .inr (false, ar_t32)), (3, .inr (false, [(14, 14)])), (4, .inr (false, [(8, 8)]))], [], kch951),
  (2, [(0, .inl 0), (1, .inr (false, [(0, 3)])), (2, .inr (false, ar_t32)), (3, .inr (false, [(15, 15)])), (4, .inr (false, [(8, 8)]))], [], kch951),
  (11, [(0, .inl 0), (1, .inr (false, [(0, 3)])), (2, .inr (false, ar_t32)), (3, .inr (false, [(15, 15)])), (4, .inr (false, [(0, 0)]))], [], kch951),
  (11, [(0, .inl 0), (1, .inr (false, [(0, 3)])), (2, .inr (false, ar_t32)), (3, .inr (false, [(15, 15)])), (4, .inr (false, [(1, 1)]))], [], kch951),
  (11, [(0, .inl 0), (1, .inr (false, [(0, 3)])), (2, .inr (false, ar_t32)), (3, .inr (false, [(15, 15)])), (4, .inr (false, [(2, 2)]))], [], kch951),
  (11, [(0, .inl 0), (1, .inr (false, [(0, 3)])), (2, .inr (false, ar_t32)), (3, .inr (false, [(15, 15)])), (4, .inr (false, [(3, 3)]))], [], kch951),
  (11, [(0, .inl 0), (1, .inr (false, [(0, 3)])), (2, .inr (false, ar_t32)), (3, .inr (false, [(15, 15)])), (4, .inr (false, [(4, 4)]))], [], kch951),
  (11, [(0, .inl 0), (1, .inr (false, [(0, 3)])), (2, .inr (false, ar_t32)), (3, .inr (false, [(15, 15)])), (4, .inr (false, [(5, 5)]))], [], kch951),
  (11, [(0, .inl 0), (1, .inr (false, [(0, 3)])), (2, .inr (false, ar_t32)), (3, .inr (false, [(15, 15)])), (4, .inr (false, [(6, 6)]))], [], kch951),
  (11, [(0, .inl 0), (1, .inr (false, [(0, 3)])), (2, .inr (false, ar_t32)), (3, .inr (false, [(15, 15)])), (4, .inr (false, [(7, 7)]))], [], kch951),
  (11, [(0, .inl 0), (1, .inr (false, [(0, 3)])), (2, .inr (false, ar_t32)), (3, .inr (false, [(15, 15)])), (4, .inr (false, [(8, 8)]))], [], kch951),
  (2, [(0, .inl 0), (1, .inr (false, [(0, 3)])), (2, .inr (false, ar_t32)), (3, .inr (false, [(16, 16)])), (4, .inr (false, [(8, 8)]))], [], kch951),
  (11, [(0, .inl 0), (1, .inr (false, [(0, 3)])), (2, .inr (false, ar_t32)), (3, .inr (false, [(16, 16)])), (4, .inr (false, [(0, 0)]))], [], kch951),
  (11, [(0, .inl 0), (1, .inr (false, [(0, 3)])), (2, .inr (false, ar_t32)), (3, .inr (false, [(16, 16)])), (4, .inr (false, [(1, 1)]))], [], kch951),
  (11, [(0, .inl 0), (1, .inr (false, [(0, 3)])), (2, .inr (false, ar_t32)), (3, .inr (false, [(16, 16)])), (4, .inr (false, [(2, 2)]))], [], kch951),
  (11, [(0, .inl 0), (1, .inr (false, [(0, 3)])), (2, .inr (false, ar_t32)), (3, .inr (false, [(16, 16)])), (4, .inr (false, [(3, 3)]))], [], kch951),
  (11, [(0, .inl 0), (1, .inr (false, [(0, 3)])), (2, .inr (false, ar_t32)), (3, .inr (false, [(16, 16)])), (4, .inr (false, [(4, 4)]))], [], kch951),
  (11, [(0, .inl 0), (1, .inr (false, [(0, 3)])), (2, .inr (false, ar_t32)), (3, .inr (false, [(16, 16)])), (4, .inr (false, [(5, 5)]))], [], kch951),
  (11, [(0, .inl 0), (1, .inr (false, [(0, 3)])), (2, .inr (false, ar_t32)), (3, .inr (false, [(16, 16)])), (4, .inr (false, [(6, 6)]))], [], kch951),
  (11, [(0, .inl 0), (1, .inr (false, [(0, 3)])), (2, .inr (false, ar_t32)), (3, .inr (false, [(16, 16)])), (4, .inr (false, [(7, 7)]))], [], kch951),
  (11, [(0, .inl 0), (1, .inr (false, [(0, 3)])), (2, .inr (false, ar_t32)), (3, .inr (false, [(16, 16)])), (4, .inr (false, [(8, 8)]))], [], kch951),
  (2, [(0, .inl 0), (1, .inr (false, [(0, 3)])), (2, .inr (false, ar_t32)), (3, .inr (false, [(17, 17)])), (4, .inr (false, [(8, 8)]))], [], kch951),
  (11, [(0, .inl 0), (1, .inr (false, [(0, 3)])), (2, .inr (false, ar_t32)), (3, .inr (false, [(17, 17)])), (4, .inr (false, [(0, 0)]))], [], kch951),
  (11, [(0, .inl 0), (1, .inr (false, [(0, 3)])), (2, .inr (false, ar_t32)), (3, .inr (false, [(17, 17)])), (4, .inr (false, [(1, 1)]))], [], kch951),
  (11, [(0, .inl 0), (1, .inr (false, [(0, 3)])), (2, .inr (false, ar_t32)), (3, .inr (false, [(17, 17)])), (4, .inr (false, [(2, 2)]))], [], kch951),
  (11, [(0, .inl 0), (1, .inr (false, [(0, 3)])), (2, .inr (false, ar_t32)), (3, .inr (false, [(17, 17)])), (4, .inr (false, [(3, 3)]))], [], kch951),
  (11, [(0, .inl 0), (1, .inr (false, [(0, 3)])), (2, .inr (false, ar_t32)), (3, .inr (false, [(17, 17)])), (4, .inr (false, [(4, 4)]))], [], kch951),
  (11, [(0, .inl 0), (1, .inr (false, [(0, 3)])), (2, .inr (false, ar_t32)), (3, .inr (false, [(17, 17)])), (4, .inr (false, [(5, 5)]))], [], kch951),
  (11, [(0, .inl 0), (1, .inr (false, [(0, 3)])), (2, .inr (false, ar_t32)), (3, .inr (false, [(17, 17)])), (4, .inr (false, [(6, 6)]))], [], kch951),
  (11, [(0, .inl 0), (1, .inr (false, [(0, 3)])), (2, .inr (false, ar_t32)), (3, .inr (false, [(17, 17)])), (4, .inr (false, [(7, 7)]))], [], kch951),
  (11, [(0, .inl 0), (1, .inr (false, [(0, 3)])), (2, .inr (false, ar_t32)), (3, .inr (false, [(17, 17)])), (4, .inr (false, [(8, 8)]))], [], kch951),
  (2, [(0, .inl 0), (1, .inr (false, [(0, 3)])), (2, .inr (false, ar_t32)), (3, .inr (false, [(18, 18)])), (4, .inr (false, [(8, 8)]))], [], kch951),
  (11, [(0, .inl 0), (1, .inr (false, [(0, 3)])), (2, .inr (false, ar_t32)), (3, .inr (false, [(18, 18)])), (4, .inr (false, [(0, 0)]))], [], kch951),
  (11, [(0, .inl 0), (1, .inr (false, [(0, 3)])), (2, .inr (false, ar_t32)), (3, .inr (false, [(18, 18)])), (4, .inr (false, [(1, 1)]))], [], kch951),
  (11, [(0, .inl 0), (1, .inr (false, [(0, 3)])), (2, .inr (false, ar_t32)), (3, .inr (false, [(18, 18)])), (4, .inr (false, [(2, 2)]))], [], kch951),
  (11, [(0, .inl 0), (1, .inr (false, [(0, 3)])), (2, .inr (false, ar_t32)), (3, .inr (false, [(18, 18)])), (4, .inr (false, [(3, 3)]))], [], kch951),
  (11, [(0, .inl 0), (1, .inr (false, [(0, 3)])), (2, .inr (false, ar_t32)), (3, .inr (false, [(18, 18)])), (4, .inr (false, [(4, 4)]))], [], kch951),
  (11, [(0, .inl 0), (1, .inr (false, [(0, 3)])), (2, .inr (false, ar_t32)), (3, .inr (false, [(18, 18)])), (4, .inr (false, [(5, 5)]))], [], kch951),
  (11, [(0, .inl 0), (1, .inr (false, [(0, 3)])), (2, .inr (false, ar_t32)), (3, .inr (false, [(18, 18)])), (4, .inr (false, [(6, 6)]))], [], kch951),
  (11, [(0, .inl 0), (1, .inr (false, [(0, 3)])), (2, .inr (false, ar_t32)), (3, .inr (false, [(18, 18)])), (4, .inr (false, [(7, 7)]))], [], kch951),
  (11, [(0, .inl 0), (1, .inr (false, [(0, 3)])), (2, .inr (false, ar_t32)), (3, .inr (false, [(18, 18)])), (4, .inr (false, [(8, 8)]))], [], kch951),
  (2, [(0, .inl 0), (1, .inr (false, [(0, 3)])), (2, .inr (false, ar_t32)), (3, .inr (false, [(19, 19)])), (4, .inr (false, [(8, 8)]))], [], kch951),
  (11, [(0, .inl 0), (1, .inr (false, [(0, 3)])), (2, .inr (false, ar_t32)), (3, .inr (false, [(19, 19)])), (4, .inr (false, [(0, 0)]))], [], kch951),
  (11, [(0, .inl 0), (1, .inr (false, [(0, 3)])), (2, .inr (false, ar_t32)), (3, .inr (false, [(19, 19)])), (4, .inr (false, [(1, 1)]))], [], kch951),
  (11, [(0, .inl 0), (1, .inr (false, [(0, 3)])), (2, .inr (false, ar_t32)), (3, .inr (false, [(19, 19)])), (4, .inr (false, [(2, 2)]))], [], kch951),
  (11, [(0, .inl 0), (1, .inr (false, [(0, 3)])), (2, .inr (false, ar_t32)), (3, .inr (false, [(19, 19)])), (4, .inr (false, [(3, 3)]))], [], kch951),
  (11, [(0, .inl 0), (1, .inr (false, [(0, 3)])), (2, .inr (false, ar_t32)), (3, .inr (false, [(19, 19)])), (4, .inr (false, [(4, 4)]))], [], kch951),
  (11, [(0, .inl 0), (1, .inr (false, [(0, 3)])), (2, .inr (false, ar_t32)), (3, .inr (false, [(19, 19)])), (4, .inr (false, [(5, 5)]))], [], kch951),
  (11, [(0, .inl 0), (1, .inr (false, [(0, 3)])), (2, .inr (false, ar_t32)), (3, .inr (false, [(19, 19)])), (4, .inr (false, [(6, 6)]))], [], kch951),
  (11, [(0, .inl 0), (1, .inr (false, [(0, 3)])), (2, .inr (false, ar_t32)), (3, .inr (false, [(19, 19)])), (4, .inr (false, [(7, 7)]))], [], kch951),
  (11, [(0, .inl 0), (1, .inr (false, [(0, 3)])), (2, .inr (false, ar_t32)), (3, .inr (false, [(19, 19)])), (4, .inr (false, [(8, 8)]))], [], kch951),
  (2, [(0, .inl 0), (1, .inr (false, [(0, 3)])), (2, .inr (false, ar_t32)), (3, .inr (false, [(20, 20)])), (4, .inr (false, [(8, 8)]))], [], kch951),
  (42, [(0, .inl 0), (1, .inr (false, [(0, 3)])), (2, .inr (false, ar_t32)), (3, .inr (false, [(0, 0)])), (4, .inr (false, [(8, 8)]))], [], kch951),
  (42, [(0, .inl 0), (1, .inr (false, [(0, 3)])), (2, .inr (false, ar_t32)), (3, .inr (false, [(1, 1)])), (4, .inr (false, [(8, 8)]))], [], kch951),
  (42, [(0, .inl 0), (1, .inr (false, [(0, 3)])), (2, .inr (false, ar_t32)), (3, .inr (false, [(2, 2)])), (4, .inr (false, [(8, 8)]))], [], kch951),
  (42, [(0, .inl 0), (1, .inr (false, [(0, 3)])), (2, .inr (false, ar_t32)), (3, .inr (false, [(3, 3)])), (4, .inr (false, [(8, 8)]))], [], kch951),
  (42, [(0, .inl 0), (1, .inr (false, [(0, 3)])), (2, .inr (false, ar_t32)), (3, .inr (false, [(4, 4)])), (4, .inr (false, [(8, 8)]))], [], kch951),
  (42, [(0, .inl 0), (1, .inr (false, [(0, 3)])), (2, .inr (false, ar_t32)), (3, .inr (false, [(5, 5)])), (4, .inr (false, [(8, 8)]))], [], kch951),
  (42, [(0, .inl 0), (1, .inr (false, [(0, 3)])), (2, .inr (false, ar_t32)), (3, .inr (false, [(6, 6)])), (4, .inr (false, [(8, 8)]))], [], kch951)] = true := by decide +kernel
/-- MiceRegisters.greatestPart -/
def kch952 : aw_H := [(0, kcx2), (59, kcx950), (60, .inr (.inl (0, 8, [], []))), (61, .inr (.inl (0, 8, [], []))), (62, .inr (.inl (0, 8, [], []))), (63, .inr (.inl (0, 8, [], []))), (64, .inr (.inl (0, 8, [], []))), (65, .inr (.inl (0, 8, [], []))), (66, .inr (.inl (0, 8, [], []))), (67, .inr (.inl (0, 8, [], []))), (68, .inr (.inl (0, 8, [], []))), (69, .inr (.inl (0, 8, [], []))), (70, .inr (.inl (0, 8, [], []))), (71, .inr (.inl (0, 8, [], []))), (72, .inr (.inl (0, 8, [], []))), (73, .inr (.inl (0, 8, [], []))), (74, .inr (.inl (0, 8, [], []))), (75, .inr (.inl (0, 8, [], []))), (76, .inr (.inl (0, 8, [], []))), (77, .inr (.inl (0, 8, [], []))), (78, .inr (.inl (0, 8, [], []))), (79, .inr (.inl (0, 8, [], [])))]
def kcc1036 : ak_C := (75, [.inl 0, .inr (false, [(0, 19)])], kch952, [], [([], some (.inr (false, [(0, 2147483647)])), [])])
theorem kck1036 : ai_chk [] kcc1036 (fun pc => sm_ch sm_t75 pc, sm_Kn 2 4 none, fun x => sm_lk sm_ca2 x, some .int) [] 4 0 [4] [] 2000 [(4, [(0, .inl 0), (1, .inr (false, [(0, 19)])), (2, .inr (false, [(0, 0)])), (3, .inr (false, [(0, 0)]))], [], kch952),
  (4, [(0, .inl 0), (1, .inr (false, [(0, 19)])), (2, .inr (false, [(0, 2147483647)])), (3, .inr (false, [(1, 1)]))], [], kch952),
  (4, [(0, .inl 0), (1, .inr (false, [(0, 19)])), (2, .inr (false, [(0, 2147483647)])), (3, .inr (false, [(2, 2)]))], [], kch952),
  (4, [(0, .inl 0), (1, .inr (false, [(0, 19)])), (2, .inr (false, [(0, 2147483647)])), (3, .inr (false, [(3, 3)]))], [], kch952),
  (4, [(0, .inl 0), (1, .inr (false, [(0, 19)])), (2, .inr (false, [(0, 2147483647)])), (3, .inr (false, [(4, 4)]))], [], kch952),
  (4, [(0, .inl 0), (1, .inr (false, [(0, 19)])), (2, .inr (false, [(0, 2147483647)])), (3, .inr (false, [(5, 5)]))], [], kch952),
  (4, [(0, .inl 0), (1, .inr (false, [(0, 19)])), (2, .inr (false, [(0, 2147483647)])), (3, .inr (false, [(6, 6)]))], [], kch952),
  (4, [(0, .inl 0), (1, .inr (false, [(0, 19)])), (2, .inr (false, [(0, 2147483647)])), (3, .inr (false, [(7, 7)]))], [], kch952),
  (4, [(0, .inl 0), (1, .inr (false, [(0, 19)])), (2, .inr (false, [(0, 2147483647)])), (3, .inr (false, [(8, 8)]))], [], kch952)] = true := by decide +kernel
def kch953 : aw_H := [(0, kcx2), (24, kcx25), (25, .inr (.inl (0, 8, [], []))), (26, .inr (.inl (0, 8, [], []))), (27, .inr (.inl (0, 8, [], []))), (28, .inr (.inl (0, 8, [], []))), (29, .inr (.inl (0, 4, [], []))), (30, .inr (.inl (0, 4, [], []))), (31, kcx36), (32, kcx36), (60, .inr (.inl (0, 8, [], []))), (61, .inr (.inl (0, 8, [], []))), (62, .inr (.inl (0, 8, [], []))), (63, .inr (.inl (0, 8, [], []))), (64, .inr (.inl (0, 8, [], []))), (65, .inr (.inl (0, 8, [], []))), (66, .inr (.inl (0, 8, [], []))), (67, .inr (.inl (0, 8, [], []))), (68, .inr (.inl (0, 8, [], []))), (69, .inr (.inl (0, 8, [], []))), (70, .inr (.inl (0, 8, [], []))), (71, .inr (.inl (0, 8, [], []))), (72, .inr (.inl (0, 8, [], []))), (73, .inr (.inl (0, 8, [], []))), (74, .inr (.inl (0, 8, [], []))), (75, .inr (.inl (0, 8, [], []))), (76, .inr (.inl (0, 8, [], []))), (77, .inr (.inl (0, 8, [], []))), (78, .inr (.inl (0, 8, [], []))), (79, .inr (.inl (0, 8, [], []))), (80, .inr (.inl (0, 6, [], [])))]
def kch954 : aw_H := [(0, kcx0), (24, kcx25), (25, .inr (.inl (0, 8, [], []))), (26, .inr (.inl (0, 8, [], []))), (27, .inr (.inl (0, 8, [], []))), (28, .inr (.inl (0, 8, [], []))), (29, .inr (.inl (0, 4, [], []))), (30, .inr (.inl (0, 4, [], []))), (31, kcx36), (32, kcx36), (60, .inr (.inl (0, 8, [], []))), (61, .inr (.inl (0, 8, [], []))), (62, .inr (.inl (0, 8, [], []))), (63, .inr (.inl (0, 8, [], []))), (64, .inr (.inl (0, 8, [], []))), (65, .inr (.inl (0, 8, [], []))), (66, .inr (.inl (0, 8, [], []))), (67, .inr (.inl (0, 8, [], []))), (68, .inr (.inl (0, 8, [], []))), (69, .inr (.inl (0, 8, [], []))), (70, .inr (.inl (0, 8, [], []))), (71, .inr (.inl (0, 8, [], []))), (72, .inr (.inl (0, 8, [], []))), (73, .inr (.inl (0, 8, [], []))), (74, .inr (.inl (0, 8, [], []))), (75, .inr (.inl (0, 8, [], []))), (76, .inr (.inl (0, 8, [], []))), (77, .inr (.inl (0, 8, [], []))), (78, .inr (.inl (0, 8, [], []))), (79, .inr (.inl (0, 8, [], []))), (80, .inr (.inl (0, 6, [], [])))]
/-- MiceRegisters.look -/
def kch955 : aw_H := [(0, kcx2), (1, kcx4), (2, kcx7), (3, .inr (.inl (0, 40, [], []))), (4, .inr (.inl (0, 40, [], []))), (5, .inr (.inl (0, 40, [], []))), (6, .inr (.inl (0, 40, [], []))), (7, .inr (.inl (0, 40, [], []))), (8, .inr (.inl (0, 40, [], []))), (15, kcx669), (16, .inr (.inl (0, 8, [], []))), (17, .inr (.inl (0, 8, [], []))), (18, .inr (.inl (0, 8, [], []))), (19, .inr (.inl (0, 8, [], []))), (20, .inr (.inl (0, 4, [], []))), (21, .inr (.inl (0, 4, [], []))), (22, kcx36), (23, kcx36), (24, kcx25), (25, .inr (.inl (0, 8, [], []))), (26, .inr (.inl (0, 8, [], []))), (27, .inr (.inl (0, 8, [], []))), (28, .inr (.inl (0, 8, [], []))), (29, .inr (.inl (0, 4, [], []))), (30, .inr (.inl (0, 4, [], []))), (31, kcx36), (32, kcx36), (59, kcx950), (60, .inr (.inl (0, 8, [], []))), (61, .inr (.inl (0, 8, [], []))), (62, .inr (.inl (0, 8, [], []))), (63, .inr (.inl (0, 8, [], []))), (64, .inr (.inl (0, 8, [], []))), (65, .inr (.inl (0, 8, [], []))), (66, .inr (.inl (0, 8, [], []))), (67, .inr (.inl (0, 8, [], []))), (68, .inr (.inl (0, 8, [], []))), (69, .inr (.inl (0, 8, [], []))), (70, .inr (.inl (0, 8, [], []))), (71, .inr (.inl (0, 8, [], []))), (72, .inr (.inl (0, 8, [], []))), (73, .inr (.inl (0, 8, [], []))), (74, .inr (.inl (0, 8, [], []))), (75, .inr (.inl (0, 8, [], []))), (76, .inr (.inl (0, 8, [], []))), (77, .inr (.inl (0, 8, [], []))), (78, .inr (.inl (0, 8, [], []))), (79, .inr (.inl (0, 8, [], []))), (80, .inr (.inl (0, 6, [], [])))]
def kcc1037 : ak_C := (72, [.inl 0, .inr (false, ar_t32), .inr (false, ar_t32)], kch955, [0, 24, 25, 26, 27, 28, 29, 30, 31, 32, 60, 61, 62, 63, 64, 65, 66, 67, 68, 69, 70, 71, 72, 73, 74, 75, 76, 77, 78, 79, 80], [([[], [(0, 3)], [(0, 5)]], some (.inr (false, [(-9, -9)])), kch953), ([[], [], []], some (.inr (false, [(-1, -1)])), kch953), ([[], [(0, 3)], [(0, 5)]], some (.inr (false, [(-3, -3)])), kch954), ([[], [(0, 3)], [(0, 5)]], some (.inr (false, [(0, 20)])), kch953)])
theorem kck1037 : ai_chk [kcc1029, kcc1032, kcc1035, kcc1036, kcc14] kcc1037 (fun pc => sm_ch sm_t72 pc, sm_Kn 2 9 none, fun x => sm_lk sm_ca2 x, some .int) [0, 24, 25, 26, 27, 28, 29, 30, 31, 32, 60, 61, 62, 63, 64, 65, 66, 67, 68, 69, 70, 71, 72, 73, 74, 75, 76, 77, 78, 79, 80] 9 3 [46] [] 2000 [(46, [(0, .inl 0), (1, .inr (false, [(0, 3)])), (2, .inr (false, [(0, 5)])), (3, .inr (false, [(0, 0)])), (4, .inr (false, ar_t32)), (5, .inr (false, [(0, 0)])), (6, .inr (false, [(7, 7)])), (7, .inr (false, [(0, 0)]))], [], kch955),
  (46, [(0, .inl 0), (1, .inr (false, [(0, 3)])), (2, .inr (false, [(0, 5)])), (3, .inr (false, [(0, 0)])), (4, .inr (false, ar_t32)), (5, .inr (false, [(0, 1)])), (6, .inr (false, [(0, 7)])), (7, .inr (false, [(1, 1)])), (8, .inr (false, [(0, 2147483647)]))], [], kch955),
  (46, [(0, .inl 0), (1, .inr (false, [(0, 3)])), (2, .inr (false, [(0, 5)])), (3, .inr (false, [(0, 0)])), (4, .inr (false, ar_t32)), (5, .inr (false, [(0, 2)])), (6, .inr (false, [(0, 7)])), (7, .inr (false, [(2, 2)])), (8, .inr (false, [(0, 2147483647)]))], [], kch955),
  (46, [(0, .inl 0), (1, .inr (false, [(0, 3)])), (2, .inr (false, [(0, 5)])), (3, .inr (false, [(0, 0)])), (4, .inr (false, ar_t32)), (5, .inr (false, [(0, 3)])), (6, .inr (false, [(0, 7)])), (7, .inr (false, [(3, 3)])), (8, .inr (false, [(0, 2147483647)]))], [], kch955),
  (46, [(0, .inl 0), (1, .inr (false, [(0, 3)])), (2, .inr (false, [(0, 5)])), (3, .inr (false, [(0, 0)])), (4, .inr (false, ar_t32)), (5, .inr (false, [(0, 4)])), (6, .inr (false, [(0, 7)])), (7, .inr (false, [(4, 4)])), (8, .inr (false, [(0, 2147483647)]))], [], kch955),
  (46, [(0, .inl 0), (1, .inr (false, [(0, 3)])), (2, .inr (false, [(0, 5)])), (3, .inr (false, [(0, 0)])), (4, .inr (false, ar_t32)), (5, .inr (false, [(0, 5)])), (6, .inr (false, [(0, 7)])), (7, .inr (false, [(5, 5)])), (8, .inr (false, [(0, 2147483647)]))], [], kch955),
  (46, [(0, .inl 0), (1, .inr (false, [(0, 3)])), (2, .inr (false, [(0, 5)])), (3, .inr (false, [(0, 0)])), (4, .inr (false, ar_t32)), (5, .inr (false, [(0, 6)])), (6, .inr (false, [(0, 7)])), (7, .inr (false, [(6, 6)])), (8, .inr (false, [(0, 2147483647)]))], [], kch955),
  (46, [(0, .inl 0), (1, .inr (false, [(0, 3)])), (2, .inr (false, [(0, 5)])), (3, .inr (false, [(0, 0)])), (4, .inr (false, ar_t32)), (5, .inr (false, [(0, 7)])), (6, .inr (false, [(0, 7)])), (7, .inr (false, [(7, 7)])), (8, .inr (false, [(0, 2147483647)]))], [], kch955),
  (46, [(0, .inl 0), (1, .inr (false, [(0, 3)])), (2, .inr (false, [(0, 5)])), (3, .inr (false, [(0, 0)])), (4, .inr (false, ar_t32)), (5, .inr (false, [(0, 8)])), (6, .inr (false, [(0, 7)])), (7, .inr (false, [(8, 8)])), (8, .inr (false, [(0, 2147483647)]))], [], kch955),
  (46, [(0, .inl 0), (1, .inr (false, [(0, 3)])), (2, .inr (false, [(0, 5)])), (3, .inr (false, [(0, 0)])), (4, .inr (false, ar_t32)), (5, .inr (false, [(0, 9)])), (6, .inr (false, [(0, 7)])), (7, .inr (false, [(9, 9)])), (8, .inr (false, [(0, 2147483647)]))], [], kch955),
  (46, [(0, .inl 0), (1, .inr (false, [(0, 3)])), (2, .inr (false, [(0, 5)])), (3, .inr (false, [(0, 0)])), (4, .inr (false, ar_t32)), (5, .inr (false, [(0, 10)])), (6, .inr (false, [(0, 7)])), (7, .inr (false, [(10, 10)])), (8, .inr (false, [(0, 2147483647)]))], [], kch955),
  (46, [(0, .inl 0), (1, .inr (false, [(0, 3)])), (2, .inr (false, [(0, 5)])), (3, .inr (false, [(0, 0)])), (4, .inr (false, ar_t32)), (5, .inr (false, [(0, 11)])), (6, .inr (false, [(0, 7)])), (7, .inr (false, [(11, 11)])), (8, .inr (false, [(0, 2147483647)]))], [], kch955),
  (46, [(0, .inl 0), (1, .inr (false, [(0, 3)])), (2, .inr (false, [(0, 5)])), (3, .inr (false, [(0, 0)])), (4, .inr (false, ar_t32)), (5, .inr (false, [(0, 12)])), (6, .inr (false, [(0, 7)])), (7, .inr (false, [(12, 12)])), (8, .inr (false, [(0, 2147483647)]))], [], kch955),
  (46, [(0, .inl 0), (1, .inr (false, [(0, 3)])), (2, .inr (false, [(0, 5)])), (3, .inr (false, [(0, 0)])), (4, .inr (false, ar_t32)), (5, .inr (false, [(0, 13)])), (6, .inr (false, [(0, 7)])), (7, .inr (false, [(13, 13)])), (8, .inr (false, [(0, 2147483647)]))], [], kch955),
  (46, [(0, .inl 0), (1, .inr (false, [(0, 3)])), (2, .inr (false, [(0, 5)])), (3, .inr (false, [(0, 0)])), (4, .inr (false, ar_t32)), (5, .inr (false, [(0, 14)])), (6, .inr (false, [(0, 7)])), (7, .inr (false, [(14, 14)])), (8, .inr (false, [(0, 2147483647)]))], [], kch955),
  (46, [(0, .inl 0), (1, .inr (false, [(0, 3)])), (2, .inr (false, [(0, 5)])), (3, .inr (false, [(0, 0)])), (4, .inr (false, ar_t32)), (5, .inr (false, [(0, 15)])), (6, .inr (false, [(0, 7)])), (7, .inr (false, [(15, 15)])), (8, .inr (false, [(0, 2147483647)]))], [], kch955),
  (46, [(0, .inl 0), (1, .inr (false, [(0, 3)])), (2, .inr (false, [(0, 5)])), (3, .inr (false, [(0, 0)])), (4, .inr (false, ar_t32)), (5, .inr (false, [(0, 16)])), (6, .inr (false, [(0, 7)])), (7, .inr (false, [(16, 16)])), (8, .inr (false, [(0, 2147483647)]))], [], kch955),
  (46, [(0, .inl 0), (1, .inr (false, [(0, 3)])), (2, .inr (false, [(0, 5)])), (3, .inr (false, [(0, 0)])), (4, .inr (false, ar_t32)), (5, .inr (false, [(0, 17)])), (6, .inr (false, [(0, 7)])), (7, .inr (false, [(17, 17)])), (8, .inr (false, [(0, 2147483647)]))], [], kch955),
  (46, [(0, .inl 0), (1, .inr (false, [(0, 3)])), (2, .inr (false, [(0, 5)])), (3, .inr (false, [(0, 0)])), (4, .inr (false, ar_t32)), (5, .inr (false, [(0, 18)])), (6, .inr (false, [(0, 7)])), (7, .inr (false, [(18, 18)])), (8, .inr (false, [(0, 2147483647)]))], [], kch955),
  (46, [(0, .inl 0), (1, .inr (false, [(0, 3)])), (2, .inr (false, [(0, 5)])), (3, .inr (false, [(0, 0)])), (4, .inr (false, ar_t32)), (5, .inr (false, [(0, 19)])), (6, .inr (false, [(0, 7)])), (7, .inr (false, [(19, 19)])), (8, .inr (false, [(0, 2147483647)]))], [], kch955),
  (46, [(0, .inl 0), (1, .inr (false, [(0, 3)])), (2, .inr (false, [(0, 5)])), (3, .inr (false, [(0, 0)])), (4, .inr (false, ar_t32)), (5, .inr (false, [(0, 20)])), (6, .inr (false, [(0, 7)])), (7, .inr (false, [(20, 20)])), (8, .inr (false, [(0, 2147483647)]))], [], kch955)] = true := by decide +kernel

