/-! Contracts over ranges of the class, and their checks; printed by a program of mine. -/
def kcx968 : aw_A := .inl (1, [.inr (false, [(0, 8)]), .inr (false, [(0, 4)]), .inr (false, ar_t32), .inr (false, ar_t32), .inr (false, ar_t32), .inl 34, .inl 35, .inl 36, .inl 37, .inl 38, .inl 39, .inl 40, .inl 41])
def kch969 : aw_H := [(33, kcx968), (34, .inr (.inl (0, 8, [], []))), (35, .inr (.inl (0, 8, [], []))), (36, .inr (.inl (0, 8, [], []))), (37, .inr (.inl (0, 8, [], []))), (38, .inr (.inl (0, 4, [], []))), (39, .inr (.inl (0, 4, [], []))), (40, kcx36), (41, kcx36)]
/-- Register.takeFrom -/
def kch970 : aw_H := [(24, kcx25), (25, .inr (.inl (0, 8, [], []))), (26, .inr (.inl (0, 8, [], []))), (27, .inr (.inl (0, 8, [], []))), (28, .inr (.inl (0, 8, [], []))), (29, .inr (.inl (0, 4, [], []))), (30, .inr (.inl (0, 4, [], []))), (31, kcx36), (32, kcx36), (33, kcx968), (34, .inr (.inl (0, 8, [], []))), (35, .inr (.inl (0, 8, [], []))), (36, .inr (.inl (0, 8, [], []))), (37, .inr (.inl (0, 8, [], []))), (38, .inr (.inl (0, 4, [], []))), (39, .inr (.inl (0, 4, [], []))), (40, kcx36), (41, kcx36)]
def kcc1043 : ak_C := (23, [.inl 33, .inl 24], kch970, [33, 34, 35, 36, 37, 38, 39, 40, 41], [([], none, kch969)])
def kcx971 : aw_A := .inl (1, [.inr (false, [(1, 8)]), .inr (false, [(0, 4)]), .inr (false, ar_t32), .inr (false, ar_t32), .inr (false, ar_t32), .inl 34, .inl 35, .inl 36, .inl 37, .inl 38, .inl 39, .inl 40, .inl 41])
def kch972 : aw_H := [(24, kcx25), (25, .inr (.inl (0, 8, [], []))), (26, .inr (.inl (0, 8, [], []))), (27, .inr (.inl (0, 8, [], []))), (28, .inr (.inl (0, 8, [], []))), (29, .inr (.inl (0, 4, [], []))), (30, .inr (.inl (0, 4, [], []))), (31, kcx36), (32, kcx36), (33, kcx971), (34, .inr (.inl (0, 8, [], []))), (35, .inr (.inl (0, 8, [], []))), (36, .inr (.inl (0, 8, [], []))), (37, .inr (.inl (0, 8, [], []))), (38, .inr (.inl (0, 4, [], []))), (39, .inr (.inl (0, 4, [], []))), (40, kcx36), (41, kcx36)]
def kcx973 : aw_A := .inl (1, [.inr (false, [(2, 8)]), .inr (false, [(0, 4)]), .inr (false, ar_t32), .inr (false, ar_t32), .inr (false, ar_t32), .inl 34, .inl 35, .inl 36, .inl 37, .inl 38, .inl 39, .inl 40, .inl 41])
def kch974 : aw_H := [(24, kcx25), (25, .inr (.inl (0, 8, [], []))), (26, .inr (.inl (0, 8, [], []))), (27, .inr (.inl (0, 8, [], []))), (28, .inr (.inl (0, 8, [], []))), (29, .inr (.inl (0, 4, [], []))), (30, .inr (.inl (0, 4, [], []))), (31, kcx36), (32, kcx36), (33, kcx973), (34, .inr (.inl (0, 8, [], []))), (35, .inr (.inl (0, 8, [], []))), (36, .inr (.inl (0, 8, [], []))), (37, .inr (.inl (0, 8, [], []))), (38, .inr (.inl (0, 4, [], []))), (39, .inr (.inl (0, 4, [], []))), (40, kcx36), (41, kcx36)]
def kcx975 : aw_A := .inl (1, [.inr (false, [(3, 8)]), .inr (false, [(0, 4)]), .inr (false, ar_t32), .inr (false, ar_t32), .inr (false, ar_t32), .inl 34, .inl 35, .inl 36, .inl 37, .inl 38, .inl 39, .inl 40, .inl 41])
def kch976 : aw_H := [(24, kcx25), (25, .inr (.inl (0, 8, [], []))), (26, .inr (.inl (0, 8, [], []))), (27, .inr (.inl (0, 8, [], []))), (28, .inr (.inl (0, 8, [], []))), (29, .inr (.inl (0, 4, [], []))), (30, .inr (.inl (0, 4, [], []))), (31, kcx36), (32, kcx36), (33, kcx975), (34, .inr (.inl (0, 8, [], []))), (35, .inr (.inl (0, 8, [], []))), (36, .inr (.inl (0, 8, [], []))), (37, .inr (.inl (0, 8, [], []))), (38, .inr (.inl (0, 4, [], []))), (39, .inr (.inl (0, 4, [], []))), (40, kcx36), (41, kcx36)]
def kcx977 : aw_A := .inl (1, [.inr (false, [(4, 8)]), .inr (false, [(0, 4)]), .inr (false, ar_t32), .inr (false, ar_t32), .inr (false, ar_t32), .inl 34, .inl 35, .inl 36, .inl 37, .inl 38, .inl 39, .inl 40, .inl 41])
def kch978 : aw_H := [(24, kcx25), (25, .inr (.inl (0, 8, [], []))), (26, .inr (.inl (0, 8, [], []))), (27, .inr (.inl (0, 8, [], []))), (28, .inr (.inl (0, 8, [], []))), (29, .inr (.inl (0, 4, [], []))), (30, .inr (.inl (0, 4, [], []))), (31, kcx36), (32, kcx36), (33, kcx977), (34, .inr (.inl (0, 8, [], []))), (35, .inr (.inl (0, 8, [], []))), (36, .inr (.inl (0, 8, [], []))), (37, .inr (.inl (0, 8, [], []))), (38, .inr (.inl (0, 4, [], []))), (39, .inr (.inl (0, 4, [], []))), (40, kcx36), (41, kcx36)]
def kcx979 : aw_A := .inl (1, [.inr (false, [(5, 8)]), .inr (false, [(0, 4)]), .inr (false, ar_t32), .inr (false, ar_t32), .inr (false, ar_t32), .inl 34, .inl 35, .inl 36, .inl 37, .inl 38, .inl 39, .inl 40, .inl 41])
def kch980 : aw_H := [(24, kcx25), (25, .inr (.inl (0, 8, [], []))), (26, .inr (.inl (0, 8, [], []))), (27, .inr (.inl (0, 8, [], []))), (28, .inr (.inl (0, 8, [], []))), (29, .inr (.inl (0, 4, [], []))), (30, .inr (.inl (0, 4, [], []))), (31, kcx36), (32, kcx36), (33, kcx979), (34, .inr (.inl (0, 8, [], []))), (35, .inr (.inl (0, 8, [], []))), (36, .inr (.inl (0, 8, [], []))), (37, .inr (.inl (0, 8, [], []))), (38, .inr (.inl (0, 4, [], []))), (39, .inr (.inl (0, 4, [], []))), (40, kcx36), (41, kcx36)]
def kcx981 : aw_A := .inl (1, [.inr (false, [(6, 8)]), .inr (false, [(0, 4)]), .inr (false, ar_t32), .inr (false, ar_t32), .inr (false, ar_t32), .inl 34, .inl 35, .inl 36, .inl 37, .inl 38, .inl 39, .inl 40, .inl 41])
def kch982 : aw_H := [(24, kcx25), (25, .inr (.inl (0, 8, [], []))), (26, .inr (.inl (0, 8, [], []))), (27, .inr (.inl (0, 8, [], []))), (28, .inr (.inl (0, 8, [], []))), (29, .inr (.inl (0, 4, [], []))), (30, .inr (.inl (0, 4, [], []))), (31, kcx36), (32, kcx36), (33, kcx981), (34, .inr (.inl (0, 8, [], []))), (35, .inr (.inl (0, 8, [], []))), (36, .inr (.inl (0, 8, [], []))), (37, .inr (.inl (0, 8, [], []))), (38, .inr (.inl (0, 4, [], []))), (39, .inr (.inl (0, 4, [], []))), (40, kcx36), (41, kcx36)]
def kcx983 : aw_A := .inl (1, [.inr (false, [(7, 8)]), .inr (false, [(0, 4)]), .inr (false, ar_t32), .inr (false, ar_t32), .inr (false, ar_t32), .inl 34, .inl 35, .inl 36, .inl 37, .inl 38, .inl 39, .inl 40, .inl 41])
def kch984 : aw_H := [(24, kcx25), (25, .inr (.inl (0, 8, [], []))), (26, .inr (.inl (0, 8, [], []))), (27, .inr (.inl (0, 8, [], []))), (28, .inr (.inl (0, 8, [], []))), (29, .inr (.inl (0, 4, [], []))), (30, .inr (.inl (0, 4, [], []))), (31, kcx36), (32, kcx36), (33, kcx983), (34, .inr (.inl (0, 8, [], []))), (35, .inr (.inl (0, 8, [], []))), (36, .inr (.inl (0, 8, [], []))), (37, .inr (.inl (0, 8, [], []))), (38, .inr (.inl (0, 4, [], []))), (39, .inr (.inl (0, 4, [], []))), (40, kcx36), (41, kcx36)]
def kcx985 : aw_A := .inl (1, [.inr (false, [(8, 8)]), .inr (false, [(0, 4)]), .inr (false, ar_t32), .inr (false, ar_t32), .inr (false, ar_t32), .inl 34, .inl 35, .inl 36, .inl 37, .inl 38, .inl 39, .inl 40, .inl 41])
def kch986 : aw_H := [(24, kcx25), (25, .inr (.inl (0, 8, [], []))), (26, .inr (.inl (0, 8, [], []))), (27, .inr (.inl (0, 8, [], []))), (28, .inr (.inl (0, 8, [], []))), (29, .inr (.inl (0, 4, [], []))), (30, .inr (.inl (0, 4, [], []))), (31, kcx36), (32, kcx36), (33, kcx985), (34, .inr (.inl (0, 8, [], []))), (35, .inr (.inl (0, 8, [], []))), (36, .inr (.inl (0, 8, [], []))), (37, .inr (.inl (0, 8, [], []))), (38, .inr (.inl (0, 4, [], []))), (39, .inr (.inl (0, 4, [], []))), (40, kcx36), (41, kcx36)]
def kcx987 : aw_A := .inl (1, [.inr (false, [(0, 8)]), .inr (false, [(1, 4)]), .inr (false, ar_t32), .inr (false, ar_t32), .inr (false, ar_t32), .inl 34, .inl 35, .inl 36, .inl 37, .inl 38, .inl 39, .inl 40, .inl 41])
def kch988 : aw_H := [(24, kcx25), (25, .inr (.inl (0, 8, [], []))), (26, .inr (.inl (0, 8, [], []))), (27, .inr (.inl (0, 8, [], []))), (28, .inr (.inl (0, 8, [], []))), (29, .inr (.inl (0, 4, [], []))), (30, .inr (.inl (0, 4, [], []))), (31, kcx36), (32, kcx36), (33, kcx987), (34, .inr (.inl (0, 8, [], []))), (35, .inr (.inl (0, 8, [], []))), (36, .inr (.inl (0, 8, [], []))), (37, .inr (.inl (0, 8, [], []))), (38, .inr (.inl (0, 4, [], []))), (39, .inr (.inl (0, 4, [], []))), (40, kcx36), (41, kcx36)]
def kcx989 : aw_A := .inl (1, [.inr (false, [(0, 8)]), .inr (false, [(2, 4)]), .inr (false, ar_t32), .inr (false, ar_t32), .inr (false, ar_t32), .inl 34, .inl 35, .inl 36, .inl 37, .inl 38, .inl 39, .inl 40, .inl 41])
def kch990 : aw_H := [(24, kcx25), (25, .inr (.inl (0, 8, [], []))), (26, .inr (.inl (0, 8, [], []))), (27, .inr (.inl (0, 8, [], []))), (28, .inr (.inl (0, 8, [], []))), (29, .inr (.inl (0, 4, [], []))), (30, .inr (.inl (0, 4, [], []))), (31, kcx36), (32, kcx36), (33, kcx989), (34, .inr (.inl (0, 8, [], []))), (35, .inr (.inl (0, 8, [], []))), (36, .inr (.inl (0, 8, [], []))), (37, .inr (.inl (0, 8, [], []))), (38, .inr (.inl (0, 4, [], []))), (39, .inr (.inl (0, 4, [], []))), (40, kcx36), (41, kcx36)]
def kcx991 : aw_A := .inl (1, [.inr (false, [(0, 8)]), .inr (false, [(3, 4)]), .inr (false, ar_t32), .inr (false, ar_t32), .inr (false, ar_t32), .inl 34, .inl 35, .inl 36, .inl 37, .inl 38, .inl 39, .inl 40, .inl 41])
def kch992 : aw_H := [(24, kcx25), (25, .inr (.inl (0, 8, [], []))), (26, .inr (.inl (0, 8, [], []))), (27, .inr (.inl (0, 8, [], []))), (28, .inr (.inl (0, 8, [], []))), (29, .inr (.inl (0, 4, [], []))), (30, .inr (.inl (0, 4, [], []))), (31, kcx36), (32, kcx36), (33, kcx991), (34, .inr (.inl (0, 8, [], []))), (35, .inr (.inl (0, 8, [], []))), (36, .inr (.inl (0, 8, [], []))), (37, .inr (.inl (0, 8, [], []))), (38, .inr (.inl (0, 4, [], []))), (39, .inr (.inl (0, 4, [], []))), (40, kcx36), (41, kcx36)]
def kcx993 : aw_A := .inl (1, [.inr (false, [(0, 8)]), .inr (false, [(4, 4)]), .inr (false, ar_t32), .inr (false, ar_t32), .inr (false, ar_t32), .inl 34, .inl 35, .inl 36, .inl 37, .inl 38, .inl 39, .inl 40, .inl 41])
def kch994 : aw_H := [(24, kcx25), (25, .inr (.inl (0, 8, [], []))), (26, .inr (.inl (0, 8, [], []))), (27, .inr (.inl (0, 8, [], []))), (28, .inr (.inl (0, 8, [], []))), (29, .inr (.inl (0, 4, [], []))), (30, .inr (.inl (0, 4, [], []))), (31, kcx36), (32, kcx36), (33, kcx993), (34, .inr (.inl (0, 8, [], []))), (35, .inr (.inl (0, 8, [], []))), (36, .inr (.inl (0, 8, [], []))), (37, .inr (.inl (0, 8, [], []))), (38, .inr (.inl (0, 4, [], []))), (39, .inr (.inl (0, 4, [], []))), (40, kcx36), (41, kcx36)]
theorem kck1043 : ai_chk [] kcc1043 (fun pc => sm_ch sm_t23 pc, sm_Kn 1 3 none, fun x => sm_lk sm_ca1 x, none) [33, 34, 35, 36, 37, 38, 39, 40, 41] 3 0 [42, 106] [] 2000 [(42, [(0, .inl 33), (1, .inl 24), (2, .inr (false, [(0, 0)]))], [], kch970),
  (42, [(0, .inl 33), (1, .inl 24), (2, .inr (false, [(1, 1)]))], [], kch972),
  (42, [(0, .inl 33), (1, .inl 24), (2, .inr (false, [(2, 2)]))], [], kch974),
  (42, [(0, .inl 33), (1, .inl 24), (2, .inr (false, [(3, 3)]))], [], kch976),
  (42, [(0, .inl 33), (1, .inl 24), (2, .inr (false, [(4, 4)]))], [], kch978),
  (42, [(0, .inl 33), (1, .inl 24), (2, .inr (false, [(5, 5)]))], [], kch980),
  (42, [(0, .inl 33), (1, .inl 24), (2, .inr (false, [(6, 6)]))], [], kch982),
  (42, [(0, .inl 33), (1, .inl 24), (2, .inr (false, [(7, 7)]))], [], kch984),
  (42, [(0, .inl 33), (1, .inl 24), (2, .inr (false, [(8, 8)]))], [], kch986),
  (106, [(0, .inl 33), (1, .inl 24), (2, .inr (false, [(0, 0)]))], [], kch970),
  (106, [(0, .inl 33), (1, .inl 24), (2, .inr (false, [(1, 1)]))], [], kch988),
  (106, [(0, .inl 33), (1, .inl 24), (2, .inr (false, [(2, 2)]))], [], kch990),
  (106, [(0, .inl 33), (1, .inl 24), (2, .inr (false, [(3, 3)]))], [], kch992),
  (106, [(0, .inl 33), (1, .inl 24), (2, .inr (false, [(4, 4)]))], [], kch994)] = true := by decide +kernel
/-- Register.isOpen -/
def kch995 : aw_H := [(33, kcx968), (36, .inr (.inl (0, 8, [], [])))]
def kcc1044 : ak_C := (29, [.inl 33, .inr (false, [(0, 7)])], kch995, [], [([], some (.inr (false, [(1, 1)])), []), ([], some (.inr (false, [(0, 0)])), [])])
theorem kck1044 : ai_chk [] kcc1044 (fun pc => sm_ch sm_t29 pc, sm_Kn 1 2 none, fun x => sm_lk sm_ca1 x, some .boolean) [] 2 0 [] [] 2000 [] = true := by decide +kernel
/-- Register.distance -/
def kch996 : aw_H := [(33, kcx968), (41, kcx36)]
def kcc1045 : ak_C := (30, [.inl 33, .inr (false, [(0, 3)]), .inr (false, [(0, 7)])], kch996, [], [([], some (.inr (false, [(0, 7)])), [])])
theorem kck1045 : ai_chk [] kcc1045 (fun pc => sm_ch sm_t30 pc, sm_Kn 1 3 none, fun x => sm_lk sm_ca1 x, some .int) [] 3 0 [] [] 2000 [] = true := by decide +kernel
/-- Register.lineWantedBy -/
def kch997 : aw_H := [(33, kcx968), (34, .inr (.inl (0, 8, [], []))), (36, .inr (.inl (0, 8, [], []))), (37, .inr (.inl (0, 8, [], []))), (38, .inr (.inl (0, 4, [], []))), (41, kcx36)]
def kcc1046 : ak_C := (28, [.inl 33, .inr (false, [(0, 3)])], kch997, [], [([], some (.inr (false, [(-9, -9)])), []), ([], some (.inr (false, [(-9, -9), (0, 7)])), [])])
def kch998 : aw_H := [(33, kcx971), (34, .inr (.inl (0, 8, [], []))), (36, .inr (.inl (0, 8, [], []))), (37, .inr (.inl (0, 8, [], []))), (38, .inr (.inl (0, 4, [], []))), (41, kcx36)]
def kch999 : aw_H := [(33, kcx973), (34, .inr (.inl (0, 8, [], []))), (36, .inr (.inl (0, 8, [], []))), (37, .inr (.inl (0, 8, [], []))), (38, .inr (.inl (0, 4, [], []))), (41, kcx36)]
def kch1000 : aw_H := [(33, kcx975), (34, .inr (.inl (0, 8, [], []))), (36, .inr (.inl (0, 8, [], []))), (37, .inr (.inl (0, 8, [], []))), (38, .inr (.inl (0, 4, [], []))), (41, kcx36)]
def kch1001 : aw_H := [(33, kcx977), (34, .inr (.inl (0, 8, [], []))), (36, .inr (.inl (0, 8, [], []))), (37, .inr (.inl (0, 8, [], []))), (38, .inr (.inl (0, 4, [], []))), (41, kcx36)]
def kch1002 : aw_H := [(33, kcx979), (34, .inr (.inl (0, 8, [], []))), (36, .inr (.inl (0, 8, [], []))), (37, .inr (.inl (0, 8, [], []))), (38, .inr (.inl (0, 4, [], []))), (41, kcx36)]
def kch1003 : aw_H := [(33, kcx981), (34, .inr (.inl (0, 8, [], []))), (36, .inr (.inl (0, 8, [], []))), (37, .inr (.inl (0, 8, [], []))), (38, .inr (.inl (0, 4, [], []))), (41, kcx36)]
def kch1004 : aw_H := [(33, kcx983), (34, .inr (.inl (0, 8, [], []))), (36, .inr (.inl (0, 8, [], []))), (37, .inr (.inl (0, 8, [], []))), (38, .inr (.inl (0, 4, [], []))), (41, kcx36)]
def kch1005 : aw_H := [(33, kcx985), (34, .inr (.inl (0, 8, [], []))), (36, .inr (.inl (0, 8, [], []))), (37, .inr (.inl (0, 8, [], []))), (38, .inr (.inl (0, 4, [], []))), (41, kcx36)]
theorem kck1046 : ai_chk [kcc1044, kcc1045, kcc979] kcc1046 (fun pc => sm_ch sm_t28 pc, sm_Kn 1 8 none, fun x => sm_lk sm_ca1 x, some .int) [] 8 0 [11] [] 2000 [(11, [(0, .inl 33), (1, .inr (false, [(0, 3)])), (2, .inr (false, [(-9, -9)])), (3, .inr (false, [(0, 0)])), (4, .inr (false, [(0, 0)])), (5, .inr (false, [(0, 0)]))], [], kch997),
  (11, [(0, .inl 33), (1, .inr (false, [(0, 3)])), (2, .inr (false, [(-9, -9), (0, 0)])), (3, .inr (false, [(0, 2147483647)])), (4, .inr (false, [(0, 7)])), (5, .inr (false, [(1, 1)]))], [], kch998),
  (11, [(0, .inl 33), (1, .inr (false, [(0, 3)])), (2, .inr (false, [(-9, -9), (0, 1)])), (3, .inr (false, [(0, 2147483647)])), (4, .inr (false, [(0, 7)])), (5, .inr (false, [(2, 2)]))], [], kch999),
  (11, [(0, .inl 33), (1, .inr (false, [(0, 3)])), (2, .inr (false, [(-9, -9), (0, 2)])), (3, .inr (false, [(0, 2147483647)])), (4, .inr (false, [(0, 7)])), (5, .inr (false, [(3, 3)]))], [], kch1000),
  (11, [(0, .inl 33), (1, .inr (false, [(0, 3)])), (2, .inr (false, [(-9, -9), (0, 3)])), (3, .inr (false, [(0, 2147483647)])), (4, .inr (false, [(0, 7)])), (5, .inr (false, [(4, 4)]))], [], kch1001),
  (11, [(0, .inl 33), (1, .inr (false, [(0, 3)])), (2, .inr (false, [(-9, -9), (0, 4)])), (3, .inr (false, [(0, 2147483647)])), (4, .inr (false, [(0, 7)])), (5, .inr (false, [(5, 5)]))], [], kch1002),
  (11, [(0, .inl 33), (1, .inr (false, [(0, 3)])), (2, .inr (false, [(-9, -9), (0, 5)])), (3, .inr (false, [(0, 2147483647)])), (4, .inr (false, [(0, 7)])), (5, .inr (false, [(6, 6)]))], [], kch1003),
  (11, [(0, .inl 33), (1, .inr (false, [(0, 3)])), (2, .inr (false, [(-9, -9), (0, 6)])), (3, .inr (false, [(0, 2147483647)])), (4, .inr (false, [(0, 7)])), (5, .inr (false, [(7, 7)]))], [], kch1004),
  (11, [(0, .inl 33), (1, .inr (false, [(0, 3)])), (2, .inr (false, [(-9, -9), (0, 7)])), (3, .inr (false, [(0, 2147483647)])), (4, .inr (false, [(0, 7)])), (5, .inr (false, [(8, 8)]))], [], kch1005)] = true := by decide +kernel
def kch1006 : aw_H := [(33, kcx968), (36, .inr (.inl (0, 8, [], []))), (37, .inr (.inl (0, 8, [], []))), (41, kcx36)]
/-- Register.passYear -/
def kch1007 : aw_H := [(33, kcx968), (34, .inr (.inl (0, 8, [], []))), (36, .inr (.inl (0, 8, [], []))), (37, .inr (.inl (0, 8, [], []))), (38, .inr (.inl (0, 4, [], []))), (39, .inr (.inl (0, 4, [], []))), (41, kcx36)]
def kcc1047 : ak_C := (46, [.inl 33, .inr (false, ar_t32)], kch1007, [33, 36, 37, 41], [([], some (.inr (false, ar_t32)), kch1006)])
def kch1008 : aw_H := [(33, kcx987), (34, .inr (.inl (0, 8, [], []))), (36, .inr (.inl (0, 8, [], []))), (37, .inr (.inl (0, 8, [], []))), (38, .inr (.inl (0, 4, [], []))), (39, .inr (.inl (0, 4, [], []))), (41, kcx36)]
def kch1009 : aw_H := [(33, kcx989), (34, .inr (.inl (0, 8, [], []))), (36, .inr (.inl (0, 8, [], []))), (37, .inr (.inl (0, 8, [], []))), (38, .inr (.inl (0, 4, [], []))), (39, .inr (.inl (0, 4, [], []))), (41, kcx36)]
def kch1010 : aw_H := [(33, kcx991), (34, .inr (.inl (0, 8, [], []))), (36, .inr (.inl (0, 8, [], []))), (37, .inr (.inl (0, 8, [], []))), (38, .inr (.inl (0, 4, [], []))), (39, .inr (.inl (0, 4, [], []))), (41, kcx36)]
def kch1011 : aw_H := [(33, kcx993), (34, .inr (.inl (0, 8, [], []))), (36, .inr (.inl (0, 8, [], []))), (37, .inr (.inl (0, 8, [], []))), (38, .inr (.inl (0, 4, [], []))), (39, .inr (.inl (0, 4, [], []))), (41, kcx36)]
def kch1012 : aw_H := [(33, kcx971), (34, .inr (.inl (0, 8, [], []))), (36, .inr (.inl (0, 8, [], []))), (37, .inr (.inl (0, 8, [], []))), (38, .inr (.inl (0, 4, [], []))), (39, .inr (.inl (0, 4, [], []))), (41, kcx36)]
def kch1013 : aw_H := [(33, kcx973), (34, .inr (.inl (0, 8, [], []))), (36, .inr (.inl (0, 8, [], []))), (37, .inr (.inl (0, 8, [], []))), (38, .inr (.inl (0, 4, [], []))), (39, .inr (.inl (0, 4, [], []))), (41, kcx36)]
def kch1014 : aw_H := [(33, kcx975), (34, .inr (.inl (0, 8, [], []))), (36, .inr (.inl (0, 8, [], []))), (37, .inr (.inl (0, 8, [], []))), (38, .inr (.inl (0, 4, [], []))), (39, .inr (.inl (0, 4, [], []))), (41, kcx36)]
def kch1015 : aw_H := [(33, kcx977), (34, .inr (.inl (0, 8, [], []))), (36, .inr (.inl (0, 8, [], []))), (37, .inr (.inl (0, 8, [], []))), (38, .inr (.inl (0, 4, [], []))), (39, .inr (.inl (0, 4, [], []))), (41, kcx36)]
def kch1016 : aw_H := [(33, kcx979), (34, .inr (.inl (0, 8, [], []))), (36, .inr (.inl (0, 8, [], []))), (37, .inr (.inl (0, 8, [], []))), (38, .inr (.inl (0, 4, [], []))), (39, .inr (.inl (0, 4, [], []))), (41, kcx36)]
def kch1017 : aw_H := [(33, kcx981), (34, .inr (.inl (0, 8, [], []))), (36, .inr (.inl (0, 8, [], []))), (37, .inr (.inl (0, 8, [], []))), (38, .inr (.inl (0, 4, [], []))), (39, .inr (.inl (0, 4, [], []))), (41, kcx36)]
def kch1018 : aw_H := [(33, kcx983), (34, .inr (.inl (0, 8, [], []))), (36, .inr (.inl (0, 8, [], []))), (37, .inr (.inl (0, 8, [], []))), (38, .inr (.inl (0, 4, [], []))), (39, .inr (.inl (0, 4, [], []))), (41, kcx36)]
def kch1019 : aw_H := [(33, kcx985), (34, .inr (.inl (0, 8, [], []))), (36, .inr (.inl (0, 8, [], []))), (37, .inr (.inl (0, 8, [], []))), (38, .inr (.inl (0, 4, [], []))), (39, .inr (.inl (0, 4, [], []))), (41, kcx36)]
theorem kck1047 : ai_chk [kcc1046, kcc985] kcc1047 (fun pc => sm_ch sm_t46 pc, sm_Kn 1 6 none, fun x => sm_lk sm_ca1 x, some .int) [33, 36, 37, 41] 6 0 [4, 100] [] 2000 [(4, [(0, .inl 33), (1, .inr (false, ar_t32)), (2, .inr (false, [(0, 0)])), (3, .inr (false, [(0, 0)]))], [], kch1007),
  (4, [(0, .inl 33), (1, .inr (false, ar_t32)), (2, .inr (false, ar_t32)), (3, .inr (false, [(1, 1)])), (4, .inr (false, [(-9, -9), (0, 7)]))], [], kch1008),
  (4, [(0, .inl 33), (1, .inr (false, ar_t32)), (2, .inr (false, ar_t32)), (3, .inr (false, [(2, 2)])), (4, .inr (false, [(-9, -9), (0, 7)]))], [], kch1009),
  (4, [(0, .inl 33), (1, .inr (false, ar_t32)), (2, .inr (false, ar_t32)), (3, .inr (false, [(3, 3)])), (4, .inr (false, [(-9, -9), (0, 7)]))], [], kch1010),
  (4, [(0, .inl 33), (1, .inr (false, ar_t32)), (2, .inr (false, ar_t32)), (3, .inr (false, [(4, 4)])), (4, .inr (false, [(-9, -9), (0, 7)]))], [], kch1011),
  (100, [(0, .inl 33), (1, .inr (false, ar_t32)), (2, .inr (false, ar_t32)), (3, .inr (false, [(0, 0)]))], [], kch1007),
  (100, [(0, .inl 33), (1, .inr (false, ar_t32)), (2, .inr (false, ar_t32)), (3, .inr (false, [(1, 1)]))], [], kch1012),
  (100, [(0, .inl 33), (1, .inr (false, ar_t32)), (2, .inr (false, ar_t32)), (3, .inr (false, [(2, 2)]))], [], kch1013),
  (100, [(0, .inl 33), (1, .inr (false, ar_t32)), (2, .inr (false, ar_t32)), (3, .inr (false, [(3, 3)]))], [], kch1014),
  (100, [(0, .inl 33), (1, .inr (false, ar_t32)), (2, .inr (false, ar_t32)), (3, .inr (false, [(4, 4)]))], [], kch1015),
  (100, [(0, .inl 33), (1, .inr (false, ar_t32)), (2, .inr (false, ar_t32)), (3, .inr (false, [(5, 5)]))], [], kch1016),
  (100, [(0, .inl 33), (1, .inr (false, ar_t32)), (2, .inr (false, ar_t32)), (3, .inr (false, [(6, 6)]))], [], kch1017),
  (100, [(0, .inl 33), (1, .inr (false, ar_t32)), (2, .inr (false, ar_t32)), (3, .inr (false, [(7, 7)]))], [], kch1018),
  (100, [(0, .inl 33), (1, .inr (false, ar_t32)), (2, .inr (false, ar_t32)), (3, .inr (false, [(8, 8)]))], [], kch1019)] = true := by decide +kernel
/-- MiceRegisters.duelFrom -/
def kcc1048 : ak_C := (82, [.inl 24, .inl 33, .inr (false, [(0, 0)]), .inr (false, [(0, 7)]), .inr (false, [(0, 7)]), .inr (false, ar_t32), .inr (false, ar_t32)], kch970, [33, 34, 35, 36, 37, 38, 39, 40, 41], [([], some (.inr (false, ar_t32)), kch969)])
theorem kck1048 : ai_chk [kcc1043, kcc1047] kcc1048 (fun pc => sm_ch sm_t82 pc, sm_Kn 2 13 none, fun x => sm_lk sm_ca2 x, some .int) [33, 34, 35, 36, 37, 38, 39, 40, 41] 13 0 [63] [] 2000 [] = true := by decide +kernel
def kch1020 : aw_H := [(28, .inr (.inl (0, 8, [], []))), (33, kcx968), (34, .inr (.inl (0, 8, [], []))), (35, .inr (.inl (0, 8, [], []))), (36, .inr (.inl (0, 8, [], []))), (37, .inr (.inl (0, 8, [], []))), (38, .inr (.inl (0, 4, [], []))), (39, .inr (.inl (0, 4, [], []))), (40, kcx36), (41, kcx36)]
/-- MiceRegisters.duelFrom -/
def kcc1049 : ak_C := (82, [.inl 24, .inl 33, .inr (false, [(1, 1)]), .inr (false, [(0, 7)]), .inr (false, [(0, 7)]), .inr (false, ar_t32), .inr (false, ar_t32)], kch970, [28, 33, 34, 35, 36, 37, 38, 39, 40, 41], [([], some (.inr (false, ar_t32)), kch1020)])
def kch1021 : aw_H := [(24, kcx828), (25, .inr (.inl (0, 8, [], []))), (26, .inr (.inl (0, 8, [], []))), (27, .inr (.inl (0, 8, [], []))), (28, .inr (.inl (0, 8, [], [(0, ar_t32)]))), (29, .inr (.inl (0, 4, [], []))), (30, .inr (.inl (0, 4, [], []))), (31, kcx36), (32, kcx36), (33, kcx968), (34, .inr (.inl (0, 8, [], []))), (35, .inr (.inl (0, 8, [], []))), (36, .inr (.inl (0, 8, [], []))), (37, .inr (.inl (0, 8, [], []))), (38, .inr (.inl (0, 4, [], []))), (39, .inr (.inl (0, 4, [], []))), (40, kcx36), (41, kcx36)]
def kch1022 : aw_H := [(24, kcx830), (25, .inr (.inl (0, 8, [], []))), (26, .inr (.inl (0, 8, [], []))), (27, .inr (.inl (0, 8, [], []))), (28, kcx733), (29, .inr (.inl (0, 4, [], []))), (30, .inr (.inl (0, 4, [], []))), (31, kcx36), (32, kcx36), (33, kcx968), (34, .inr (.inl (0, 8, [], []))), (35, .inr (.inl (0, 8, [], []))), (36, .inr (.inl (0, 8, [], []))), (37, .inr (.inl (0, 8, [], []))), (38, .inr (.inl (0, 4, [], []))), (39, .inr (.inl (0, 4, [], []))), (40, kcx36), (41, kcx36)]
def kch1023 : aw_H := [(24, kcx832), (25, .inr (.inl (0, 8, [], []))), (26, .inr (.inl (0, 8, [], []))), (27, .inr (.inl (0, 8, [], []))), (28, kcx735), (29, .inr (.inl (0, 4, [], []))), (30, .inr (.inl (0, 4, [], []))), (31, kcx36), (32, kcx36), (33, kcx968), (34, .inr (.inl (0, 8, [], []))), (35, .inr (.inl (0, 8, [], []))), (36, .inr (.inl (0, 8, [], []))), (37, .inr (.inl (0, 8, [], []))), (38, .inr (.inl (0, 4, [], []))), (39, .inr (.inl (0, 4, [], []))), (40, kcx36), (41, kcx36)]
def kch1024 : aw_H := [(24, kcx834), (25, .inr (.inl (0, 8, [], []))), (26, .inr (.inl (0, 8, [], []))), (27, .inr (.inl (0, 8, [], []))), (28, kcx737), (29, .inr (.inl (0, 4, [], []))), (30, .inr (.inl (0, 4, [], []))), (31, kcx36), (32, kcx36), (33, kcx968), (34, .inr (.inl (0, 8, [], []))), (35, .inr (.inl (0, 8, [], []))), (36, .inr (.inl (0, 8, [], []))), (37, .inr (.inl (0, 8, [], []))), (38, .inr (.inl (0, 4, [], []))), (39, .inr (.inl (0, 4, [], []))), (40, kcx36), (41, kcx36)]
def kch1025 : aw_H := [(24, kcx836), (25, .inr (.inl (0, 8, [], []))), (26, .inr (.inl (0, 8, [], []))), (27, .inr (.inl (0, 8, [], []))), (28, kcx739), (29, .inr (.inl (0, 4, [], []))), (30, .inr (.inl (0, 4, [], []))), (31, kcx36), (32, kcx36), (33, kcx968), (34, .inr (.inl (0, 8, [], []))), (35, .inr (.inl (0, 8, [], []))), (36, .inr (.inl (0, 8, [], []))), (37, .inr (.inl (0, 8, [], []))), (38, .inr (.inl (0, 4, [], []))), (39, .inr (.inl (0, 4, [], []))), (40, kcx36), (41, kcx36)]
def kch1026 : aw_H := [(24, kcx838), (25, .inr (.inl (0, 8, [], []))), (26, .inr (.inl (0, 8, [], []))), (27, .inr (.inl (0, 8, [], []))), (28, kcx741), (29, .inr (.inl (0, 4, [], []))), (30, .inr (.inl (0, 4, [], []))), (31, kcx36), (32, kcx36), (33, kcx968), (34, .inr (.inl (0, 8, [], []))), (35, .inr (.inl (0, 8, [], []))), (36, .inr (.inl (0, 8, [], []))), (37, .inr (.inl (0, 8, [], []))), (38, .inr (.inl (0, 4, [], []))), (39, .inr (.inl (0, 4, [], []))), (40, kcx36), (41, kcx36)]
def kch1027 : aw_H := [(24, kcx840), (25, .inr (.inl (0, 8, [], []))), (26, .inr (.inl (0, 8, [], []))), (27, .inr (.inl (0, 8, [], []))), (28, kcx743), (29, .inr (.inl (0, 4, [], []))), (30, .inr (.inl (0, 4, [], []))), (31, kcx36), (32, kcx36), (33, kcx968), (34, .inr (.inl (0, 8, [], []))), (35, .inr (.inl (0, 8, [], []))), (36, .inr (.inl (0, 8, [], []))), (37, .inr (.inl (0, 8, [], []))), (38, .inr (.inl (0, 4, [], []))), (39, .inr (.inl (0, 4, [], []))), (40, kcx36), (41, kcx36)]
def kch1028 : aw_H := [(24, kcx842), (25, .inr (.inl (0, 8, [], []))), (26, .inr (.inl (0, 8, [], []))), (27, .inr (.inl (0, 8, [], []))), (28, kcx745), (29, .inr (.inl (0, 4, [], []))), (30, .inr (.inl (0, 4, [], []))), (31, kcx36), (32, kcx36), (33, kcx968), (34, .inr (.inl (0, 8, [], []))), (35, .inr (.inl (0, 8, [], []))), (36, .inr (.inl (0, 8, [], []))), (37, .inr (.inl (0, 8, [], []))), (38, .inr (.inl (0, 4, [], []))), (39, .inr (.inl (0, 4, [], []))), (40, kcx36), (41, kcx36)]
theorem kck1049 : ai_chk [kcc1048] kcc1049 (fun pc => sm_ch sm_t82 pc, sm_Kn 2 13 none, fun x => sm_lk sm_ca2 x, some .int) [28, 33, 34, 35, 36, 37, 38, 39, 40, 41] 13 0 [63] [] 2000 [(63, [(0, .inl 24), (1, .inl 33), (2, .inr (false, [(1, 1)])), (3, .inr (false, [(0, 7)])), (4, .inr (false, [(0, 7)])), (5, .inr (false, ar_t32)), (6, .inr (false, ar_t32)), (7, .inr (false, [(0, 0)])), (8, .inr (false, ar_t32)), (9, .inr (false, [(0, 0)]))], [], kch970),
  (63, [(0, .inl 24), (1, .inl 33), (2, .inr (false, [(1, 1)])), (3, .inr (false, [(0, 7)])), (4, .inr (false, [(0, 7)])), (5, .inr (false, ar_t32)), (6, .inr (false, ar_t32)), (7, .inr (false, [(0, 0)])), (8, .inr (false, ar_t32)), (9, .inr (false, [(1, 1)])), (10, .inr (false, [(-2147483648, 2147483646)])), (11, .inr (false, [(-2147483647, 2147483647)]))], [], kch1021),
  (63, [(0, .inl 24), (1, .inl 33), (2, .inr (false, [(1, 1)])), (3, .inr (false, [(0, 7)])), (4, .inr (false, [(0, 7)])), (5, .inr (false, ar_t32)), (6, .inr (false, ar_t32)), (7, .inr (false, [(0, 0)])), (8, .inr (false, ar_t32)), (9, .inr (false, [(2, 2)])), (10, .inr (false, [(-2147483648, 2147483646)])), (11, .inr (false, [(-2147483647, 2147483647)]))], [], kch1022),
  (63, [(0, .inl 24), (1, .inl 33), (2, .inr (false, [(1, 1)])), (3, .inr (false, [(0, 7)])), (4, .inr (false, [(0, 7)])), (5, .inr (false, ar_t32)), (6, .inr (false, ar_t32)), (7, .inr (false, [(0, 0)])), (8, .inr (false, ar_t32)), (9, .inr (false, [(3, 3)])), (10, .inr (false, [(-2147483648, 2147483646)])), (11, .inr (false, [(-2147483647, 2147483647)]))], [], kch1023),
  (63, [(0, .inl 24), (1, .inl 33), (2, .inr (false, [(1, 1)])), (3, .inr (false, [(0, 7)])), (4, .inr (false, [(0, 7)])), (5, .inr (false, ar_t32)), (6, .inr (false, ar_t32)), (7, .inr (false, [(0, 0)])), (8, .inr (false, ar_t32)), (9, .inr (false, [(4, 4)])), (10, .inr (false, [(-2147483648, 2147483646)])), (11, .inr (false, [(-2147483647, 2147483647)]))], [], kch1024),
  (63, [(0, .inl 24), (1, .inl 33), (2, .inr (false, [(1, 1)])), (3, .inr (false, [(0, 7)])), (4, .inr (false, [(0, 7)])), (5, .inr (false, ar_t32)), (6, .inr (false, ar_t32)), (7, .inr (false, [(0, 0)])), (8, .inr (false, ar_t32)), (9, .inr (false, [(5, 5)])), (10, .inr (false, [(-2147483648, 2147483646)])), (11, .inr (false, [(-2147483647, 2147483647)]))], [], kch1025),
  (63, [(0, .inl 24), (1, .inl 33), (2, .inr (false, [(1, 1)])), (3, .inr (false, [(0, 7)])), (4, .inr (false, [(0, 7)])), (5, .inr (false, ar_t32)), (6, .inr (false, ar_t32)), (7, .inr (false, [(0, 0)])), (8, .inr (false, ar_t32)), (9, .inr (false, [(6, 6)])), (10, .inr (false, [(-2147483648, 2147483646)])), (11, .inr (false, [(-2147483647, 2147483647)]))], [], kch1026),
  (63, [(0, .inl 24), (1, .inl 33), (2, .inr (false, [(1, 1)])), (3, .inr (false, [(0, 7)])), (4, .inr (false, [(0, 7)])), (5, .inr (false, ar_t32)), (6, .inr (false, ar_t32)), (7, .inr (false, [(0, 0)])), (8, .inr (false, ar_t32)), (9, .inr (false, [(7, 7)])), (10, .inr (false, [(-2147483648, 2147483646)])), (11, .inr (false, [(-2147483647, 2147483647)]))], [], kch1027),
  (63, [(0, .inl 24), (1, .inl 33), (2, .inr (false, [(1, 1)])), (3, .inr (false, [(0, 7)])), (4, .inr (false, [(0, 7)])), (5, .inr (false, ar_t32)), (6, .inr (false, ar_t32)), (7, .inr (false, [(0, 0)])), (8, .inr (false, ar_t32)), (9, .inr (false, [(8, 8)])), (10, .inr (false, [(-2147483648, 2147483646)])), (11, .inr (false, [(-2147483647, 2147483647)]))], [], kch1028)] = true := by decide +kernel
/-- MiceRegisters.duelFrom -/
def kcc1050 : ak_C := (82, [.inl 24, .inl 33, .inr (false, [(2, 2)]), .inr (false, [(0, 7)]), .inr (false, [(0, 7)]), .inr (false, ar_t32), .inr (false, ar_t32)], kch970, [28, 33, 34, 35, 36, 37, 38, 39, 40, 41], [([], some (.inr (false, ar_t32)), kch1020)])
def kch1029 : aw_H := [(24, kcx828), (25, .inr (.inl (0, 8, [], []))), (26, .inr (.inl (0, 8, [], []))), (27, .inr (.inl (0, 8, [], []))), (28, .inr (.inl (0, 8, [], []))), (29, .inr (.inl (0, 4, [], []))), (30, .inr (.inl (0, 4, [], []))), (31, kcx36), (32, kcx36), (33, kcx968), (34, .inr (.inl (0, 8, [], []))), (35, .inr (.inl (0, 8, [], []))), (36, .inr (.inl (0, 8, [], []))), (37, .inr (.inl (0, 8, [], []))), (38, .inr (.inl (0, 4, [], []))), (39, .inr (.inl (0, 4, [], []))), (40, kcx36), (41, kcx36)]
def kch1030 : aw_H := [(24, kcx830), (25, .inr (.inl (0, 8, [], []))), (26, .inr (.inl (0, 8, [], []))), (27, .inr (.inl (0, 8, [], []))), (28, .inr (.inl (0, 8, [], []))), (29, .inr (.inl (0, 4, [], []))), (30, .inr (.inl (0, 4, [], []))), (31, kcx36), (32, kcx36), (33, kcx968), (34, .inr (.inl (0, 8, [], []))), (35, .inr (.inl (0, 8, [], []))), (36, .inr (.inl (0, 8, [], []))), (37, .inr (.inl (0, 8, [], []))), (38, .inr (.inl (0, 4, [], []))), (39, .inr (.inl (0, 4, [], []))), (40, kcx36), (41, kcx36)]
def kch1031 : aw_H := [(24, kcx832), (25, .inr (.inl (0, 8, [], []))), (26, .inr (.inl (0, 8, [], []))), (27, .inr (.inl (0, 8, [], []))), (28, .inr (.inl (0, 8, [], []))), (29, .inr (.inl (0, 4, [], []))), (30, .inr (.inl (0, 4, [], []))), (31, kcx36), (32, kcx36), (33, kcx968), (34, .inr (.inl (0, 8, [], []))), (35, .inr (.inl (0, 8, [], []))), (36, .inr (.inl (0, 8, [], []))), (37, .inr (.inl (0, 8, [], []))), (38, .inr (.inl (0, 4, [], []))), (39, .inr (.inl (0, 4, [], []))), (40, kcx36), (41, kcx36)]
def kch1032 : aw_H := [(24, kcx834), (25, .inr (.inl (0, 8, [], []))), (26, .inr (.inl (0, 8, [], []))), (27, .inr (.inl (0, 8, [], []))), (28, .inr (.inl (0, 8, [], []))), (29, .inr (.inl (0, 4, [], []))), (30, .inr (.inl (0, 4, [], []))), (31, kcx36), (32, kcx36), (33, kcx968), (34, .inr (.inl (0, 8, [], []))), (35, .inr (.inl (0, 8, [], []))), (36, .inr (.inl (0, 8, [], []))), (37, .inr (.inl (0, 8, [], []))), (38, .inr (.inl (0, 4, [], []))), (39, .inr (.inl (0, 4, [], []))), (40, kcx36), (41, kcx36)]
def kch1033 : aw_H := [(24, kcx836), (25, .inr (.inl (0, 8, [], []))), (26, .inr (.inl (0, 8, [], []))), (27, .inr (.inl (0, 8, [], []))), (28, .inr (.inl (0, 8, [], []))), (29, .inr (.inl (0, 4, [], []))), (30, .inr (.inl (0, 4, [], []))), (31, kcx36), (32, kcx36), (33, kcx968), (34, .inr (.inl (0, 8, [], []))), (35, .inr (.inl (0, 8, [], []))), (36, .inr (.inl (0, 8, [], []))), (37, .inr (.inl (0, 8, [], []))), (38, .inr (.inl (0, 4, [], []))), (39, .inr (.inl (0, 4, [], []))), (40, kcx36), (41, kcx36)]
def kch1034 : aw_H := [(24, kcx838), (25, .inr (.inl (0, 8, [], []))), (26, .inr (.inl (0, 8, [], []))), (27, .inr (.inl (0, 8, [], []))), (28, .inr (.inl (0, 8, [], []))), (29, .inr (.inl (0, 4, [], []))), (30, .inr (.inl (0, 4, [], []))), (31, kcx36), (32, kcx36), (33, kcx968), (34, .inr (.inl (0, 8, [], []))), (35, .inr (.inl (0, 8, [], []))), (36, .inr (.inl (0, 8, [], []))), (37, .inr (.inl (0, 8, [], []))), (38, .inr (.inl (0, 4, [], []))), (39, .inr (.inl (0, 4, [], []))), (40, kcx36), (41, kcx36)]
def kch1035 : aw_H := [(24, kcx840), (25, .inr (.inl (0, 8, [], []))), (26, .inr (.inl (0, 8, [], []))), (27, .inr (.inl (0, 8, [], []))), (28, .inr (.inl (0, 8, [], []))), (29, .inr (.inl (0, 4, [], []))), (30, .inr (.inl (0, 4, [], []))), (31, kcx36), (32, kcx36), (33, kcx968), (34, .inr (.inl (0, 8, [], []))), (35, .inr (.inl (0, 8, [], []))), (36, .inr (.inl (0, 8, [], []))), (37, .inr (.inl (0, 8, [], []))), (38, .inr (.inl (0, 4, [], []))), (39, .inr (.inl (0, 4, [], []))), (40, kcx36), (41, kcx36)]
def kch1036 : aw_H := [(24, kcx842), (25, .inr (.inl (0, 8, [], []))), (26, .inr (.inl (0, 8, [], []))), (27, .inr (.inl (0, 8, [], []))), (28, .inr (.inl (0, 8, [], []))), (29, .inr (.inl (0, 4, [], []))), (30, .inr (.inl (0, 4, [], []))), (31, kcx36), (32, kcx36), (33, kcx968), (34, .inr (.inl (0, 8, [], []))), (35, .inr (.inl (0, 8, [], []))), (36, .inr (.inl (0, 8, [], []))), (37, .inr (.inl (0, 8, [], []))), (38, .inr (.inl (0, 4, [], []))), (39, .inr (.inl (0, 4, [], []))), (40, kcx36), (41, kcx36)]
theorem kck1050 : ai_chk [kcc1049] kcc1050 (fun pc => sm_ch sm_t82 pc, sm_Kn 2 13 none, fun x => sm_lk sm_ca2 x, some .int) [28, 33, 34, 35, 36, 37, 38, 39, 40, 41] 13 0 [63] [] 2000 [(63, [(0, .inl 24), (1, .inl 33), (2, .inr (false, [(2, 2)])), (3, .inr (false, [(0, 7)])), (4, .inr (false, [(0, 7)])), (5, .inr (false, ar_t32)), (6, .inr (false, ar_t32)), (7, .inr (false, [(1, 1)])), (8, .inr (false, ar_t32)), (9, .inr (false, [(0, 0)]))], [], kch970),
  (63, [(0, .inl 24), (1, .inl 33), (2, .inr (false, [(2, 2)])), (3, .inr (false, [(0, 7)])), (4, .inr (false, [(0, 7)])), (5, .inr (false, ar_t32)), (6, .inr (false, ar_t32)), (7, .inr (false, [(1, 1)])), (8, .inr (false, ar_t32)), (9, .inr (false, [(1, 1)])), (10, .inr (false, [(-2147483648, 2147483646)])), (11, .inr (false, [(-2147483647, 2147483647)]))], [], kch1029),
  (63, [(0, .inl 24), (1, .inl 33), (2, .inr (false, [(2, 2)])), (3, .inr (false, [(0, 7)])), (4, .inr (false, [(0, 7)])), (5, .inr (false, ar_t32)), (6, .inr (false, ar_t32)), (7, .inr (false, [(1, 1)])), (8, .inr (false, ar_t32)), (9, .inr (false, [(2, 2)])), (10, .inr (false, [(-2147483648, 2147483646)])), (11, .inr (false, [(-2147483647, 2147483647)]))], [], kch1030),
  (63, [(0, .inl 24), (1, .inl 33), (2, .inr (false, [(2, 2)])), (3, .inr (false, [(0, 7)])), (4, .inr (false, [(0, 7)])), (5, .inr (false, ar_t32)), (6, .inr (false, ar_t32)), (7, .inr (false, [(1, 1)])), (8, .inr (false, ar_t32)), (9, .inr (false, [(3, 3)])), (10, .inr (false, [(-2147483648, 2147483646)])), (11, .inr (false, [(-2147483647, 2147483647)]))], [], kch1031),
  (63, [(0, .inl 24), (1, .inl 33), (2, .inr (false, [(2, 2)])), (3, .inr (false, [(0, 7)])), (4, .inr (false, [(0, 7)])), (5, .inr (false, ar_t32)), (6, .inr (false, ar_t32)), (7, .inr (false, [(1, 1)])), (8, .inr (false, ar_t32)), (9, .inr (false, [(4, 4)])), (10, .inr (false, [(-2147483648, 2147483646)])), (11, .inr (false, [(-2147483647, 2147483647)]))], [], kch1032),
  (63, [(0, .inl 24), (1, .inl 33), (2, .inr (false, [(2, 2)])), (3, .inr (false, [(0, 7)])), (4, .inr (false, [(0, 7)])), (5, .inr (false, ar_t32)), (6, .inr (false, ar_t32)), (7, .inr (false, [(1, 1)])), (8, .inr (false, ar_t32)), (9, .inr (false, [(5, 5)])), (10, .inr (false, [(-2147483648, 2147483646)])), (11, .inr (false, [(-2147483647, 2147483647)]))], [], kch1033),
  (63, [(0, .inl 24), (1, .inl 33), (2, .inr (false, [(2, 2)])), (3, .inr (false, [(0, 7)])), (4, .inr (false, [(0, 7)])), (5, .inr (false, ar_t32)), (6, .inr (false, ar_t32)), (7, .inr (false, [(1, 1)])), (8, .inr (false, ar_t32)), (9, .inr (false, [(6, 6)])), (10, .inr (false, [(-2147483648, 2147483646)])), (11, .inr (false, [(-2147483647, 2147483647)]))], [], kch1034),
  (63, [(0, .inl 24), (1, .inl 33), (2, .inr (false, [(2, 2)])), (3, .inr (false, [(0, 7)])), (4, .inr (false, [(0, 7)])), (5, .inr (false, ar_t32)), (6, .inr (false, ar_t32)), (7, .inr (false, [(1, 1)])), (8, .inr (false, ar_t32)), (9, .inr (false, [(7, 7)])), (10, .inr (false, [(-2147483648, 2147483646)])), (11, .inr (false, [(-2147483647, 2147483647)]))], [], kch1035),
  (63, [(0, .inl 24), (1, .inl 33), (2, .inr (false, [(2, 2)])), (3, .inr (false, [(0, 7)])), (4, .inr (false, [(0, 7)])), (5, .inr (false, ar_t32)), (6, .inr (false, ar_t32)), (7, .inr (false, [(1, 1)])), (8, .inr (false, ar_t32)), (9, .inr (false, [(8, 8)])), (10, .inr (false, [(-2147483648, 2147483646)])), (11, .inr (false, [(-2147483647, 2147483647)]))], [], kch1036)] = true := by decide +kernel
/-- MiceRegisters.duelFrom -/
def kcc1051 : ak_C := (82, [.inl 24, .inl 33, .inr (false, [(3, 3)]), .inr (false, [(0, 7)]), .inr (false, [(0, 7)]), .inr (false, ar_t32), .inr (false, ar_t32)], kch970, [28, 33, 34, 35, 36, 37, 38, 39, 40, 41], [([], some (.inr (false, ar_t32)), kch1020)])
theorem kck1051 : ai_chk [kcc1050] kcc1051 (fun pc => sm_ch sm_t82 pc, sm_Kn 2 13 none, fun x => sm_lk sm_ca2 x, some .int) [28, 33, 34, 35, 36, 37, 38, 39, 40, 41] 13 0 [63] [] 2000 [(63, [(0, .inl 24), (1, .inl 33), (2, .inr (false, [(3, 3)])), (3, .inr (false, [(0, 7)])), (4, .inr (false, [(0, 7)])), (5, .inr (false, ar_t32)), (6, .inr (false, ar_t32)), (7, .inr (false, [(0, 0)])), (8, .inr (false, ar_t32)), (9, .inr (false, [(0, 0)]))], [], kch970),
  (63, [(0, .inl 24), (1, .inl 33), (2, .inr (false, [(3, 3)])), (3, .inr (false, [(0, 7)])), (4, .inr (false, [(0, 7)])), (5, .inr (false, ar_t32)), (6, .inr (false, ar_t32)), (7, .inr (false, [(0, 0)])), (8, .inr (false, ar_t32)), (9, .inr (false, [(1, 1)])), (10, .inr (false, [(-2147483648, 2147483646)])), (11, .inr (false, [(-2147483647, 2147483647)]))], [], kch1029),
  (63, [(0, .inl 24), (1, .inl 33), (2, .inr (false, [(3, 3)])), (3, .inr (false, [(0, 7)])), (4, .inr (false, [(0, 7)])), (5, .inr (false, ar_t32)), (6, .inr (false, ar_t32)), (7, .inr (false, [(0, 0)])), (8, .inr (false, ar_t32)), (9, .inr (false, [(2, 2)])), (10, .inr (false, [(-2147483648, 2147483646)])), (11, .inr (false, [(-2147483647, 2147483647)]))], [], kch1030),
  (63, [(0, .inl 24), (1, .inl 33), (2, .inr (false, [(3, 3)])), (3, .inr (false, [(0, 7)])), (4, .inr (false, [(0, 7)])), (5, .inr (false, ar_t32)), (6, .inr (false, ar_t32)), (7, .inr (false, [(0, 0)])), (8, .inr (false, ar_t32)), (9, .inr (false, [(3, 3)])), (10, .inr (false, [(-2147483648, 2147483646)])), (11, .inr (false, [(-2147483647, 2147483647)]))], [], kch1031),
  (63, [(0, .inl 24), (1, .inl 33), (2, .inr (false, [(3, 3)])), (3, .inr (false, [(0, 7)])), (4, .inr (false, [(0, 7)])), (5, .inr (false, ar_t32)), (6, .inr (false, ar_t32)), (7, .inr (false, [(0, 0)])), (8, .inr (false, ar_t32)), (9, .inr (false, [(4, 4)])), (10, .inr (false, [(-2147483648, 2147483646)])), (11, .inr (false, [(-2147483647, 2147483647)]))], [], kch1032),
  (63, [(0, .inl 24), (1, .inl 33), (2, .inr (false, [(3, 3)])), (3, .inr (false, [(0, 7)])), (4, .inr (false, [(0, 7)])), (5, .inr (false, ar_t32)), (6, .inr (false, ar_t32)), (7, .inr (false, [(0, 0)])), (8, .inr (false, ar_t32)), (9, .inr (false, [(5, 5)])), (10, .inr (false, [(-2147483648, 2147483646)])), (11, .inr (false, [(-2147483647, 2147483647)]))], [], kch1033),
  (63, [(0, .inl 24), (1, .inl 33), (2, .inr (false, [(3, 3)])), (3, .inr (false, [(0, 7)])), (4, .inr (false, [(0, 7)])), (5, .inr (false, ar_t32)), (6, .inr (false, ar_t32)), (7, .inr (false, [(0, 0)])), (8, .inr (false, ar_t32)), (9, .inr (false, [(6, 6)])), (10, .inr (false, [(-2147483648, 2147483646)])), (11, .inr (false, [(-2147483647, 2147483647)]))], [], kch1034),
  (63, [(0, .inl 24), (1, .inl 33), (2, .inr (false, [(3, 3)])), (3, .inr (false, [(0, 7)])), (4, .inr (false, [(0, 7)])), (5, .inr (false, ar_t32)), (6, .inr (false, ar_t32)), (7, .inr (false, [(0, 0)])), (8, .inr (false, ar_t32)), (9, .inr (false, [(7, 7)])), (10, .inr (false, [(-2147483648, 2147483646)])), (11, .inr (false, [(-2147483647, 2147483647)]))], [], kch1035),
  (63, [(0, .inl 24), (1, .inl 33), (2, .inr (false, [(3, 3)])), (3, .inr (false, [(0, 7)])), (4, .inr (false, [(0, 7)])), (5, .inr (false, ar_t32)), (6, .inr (false, ar_t32)), (7, .inr (false, [(0, 0)])), (8, .inr (false, ar_t32)), (9, .inr (false, [(8, 8)])), (10, .inr (false, [(-2147483648, 2147483646)])), (11, .inr (false, [(-2147483647, 2147483647)]))], [], kch1036)] = true := by decide +kernel
/-- MiceRegisters.duelFrom -/
def kcc1052 : ak_C := (82, [.inl 24, .inl 33, .inr (false, [(4, 4)]), .inr (false, [(0, 7)]), .inr (false, [(0, 7)]), .inr (false, ar_t32), .inr (false, ar_t32)], kch970, [28, 33, 34, 35, 36, 37, 38, 39, 40, 41], [([], some (.inr (false, ar_t32)), kch1020)])
theorem kck1052 : ai_chk [kcc1051] kcc1052 (fun pc => sm_ch sm_t82 pc, sm_Kn 2 13 none, fun x => sm_lk sm_ca2 x, some .int) [28, 33, 34, 35, 36, 37, 38, 39, 40, 41] 13 0 [63] [] 2000 [(63, [(0, .inl 24), (1, .inl 33), (2, .inr (false, [(4, 4)])), (3, .inr (false, [(0, 7)])), (4, .inr (false, [(0, 7)])), (5, .inr (false, ar_t32)), (6, .inr (false, ar_t32)), (7, .inr (false, [(1, 1)])), (8, .inr (false, ar_t32)), (9, .inr (false, [(0, 0)]))], [], kch970),
  (63, [(0, .inl 24), (1, .inl 33), (2, .inr (false, [(4, 4)])), (3, .inr (false, [(0, 7)])), (4, .inr (false, [(0, 7)])), (5, .inr (false, ar_t32)), (6, .inr (false, ar_t32)), (7, .inr (false, [(1, 1)])), (8, .inr (false, ar_t32)), (9, .inr (false, [(1, 1)])), (10, .inr (false, [(-2147483648, 2147483646)])), (11, .inr (false, [(-2147483647, 2147483647)]))], [], kch1029),
  (63, [(0, .inl 24), (1, .inl 33), (2, .inr (false, [(4, 4)])), (3, .inr (false, [(0, 7)])), (4, .inr (false, [(0, 7)])), (5, .inr (false, ar_t32)), (6, .inr (false, ar_t32)), (7, .inr (false, [(1, 1)])), (8, .inr (false, ar_t32)), (9, .inr (false, [(2, 2)])), (10, .inr (false, [(-2147483648, 2147483646)])), (11, .inr (false, [(-2147483647, 2147483647)]))], [], kch1030),
  (63, [(0, .inl 24), (1, .inl 33), (2, .inr (false, [(4, 4)])), (3, .inr (false, [(0, 7)])), (4, .inr (false, [(0, 7)])), (5, .inr (false, ar_t32)), (6, .inr (false, ar_t32)), (7, .inr (false, [(1, 1)])), (8, .inr (false, ar_t32)), (9, .inr (false, [(3, 3)])), (10, .inr (false, [(-2147483648, 2147483646)])), (11, .inr (false, [(-2147483647, 2147483647)]))], [], kch1031),
  (63, [(0, .inl 24), (1, .inl 33), (2, .inr (false, [(4, 4)])), (3, .inr (false, [(0, 7)])), (4, .inr (false, [(0, 7)])), (5, .inr (false, ar_t32)), (6, .inr (false, ar_t32)), (7, .inr (false, [(1, 1)])), (8, .inr (false, ar_t32)), (9, .inr (false, [(4, 4)])), (10, .inr (false, [(-2147483648, 2147483646)])), (11, .inr (false, [(-2147483647, 2147483647)]))], [], kch1032),
  (63, [(0, .inl 24), (1, .inl 33), (2, .inr (false, [(4, 4)])), (3, .inr (false, [(0, 7)])), (4, .inr (false, [(0, 7)])), (5, .inr (false, ar_t32)), (6, .inr (false, ar_t32)), (7, .inr (false, [(1, 1)])), (8, .inr (false, ar_t32)), (9, .inr (false, [(5, 5)])), (10, .inr (false, [(-2147483648, 2147483646)])), (11, .inr (false, [(-2147483647, 2147483647)]))], [], kch1033),
  (63, [(0, .inl 24), (1, .inl 33), (2, .inr (false, [(4, 4)])), (3, .inr (false, [(0, 7)])), (4, .inr (false, [(0, 7)])), (5, .inr (false, ar_t32)), (6, .inr (false, ar_t32)), (7, .inr (false, [(1, 1)])), (8, .inr (false, ar_t32)), (9, .inr (false, [(6, 6)])), (10, .inr (false, [(-2147483648, 2147483646)])), (11, .inr (false, [(-2147483647, 2147483647)]))], [], kch1034),
  (63, [(0, .inl 24), (1, .inl 33), (2, .inr (false, [(4, 4)])), (3, .inr (false, [(0, 7)])), (4, .inr (false, [(0, 7)])), (5, .inr (false, ar_t32)), (6, .inr (false, ar_t32)), (7, .inr (false, [(1, 1)])), (8, .inr (false, ar_t32)), (9, .inr (false, [(7, 7)])), (10, .inr (false, [(-2147483648, 2147483646)])), (11, .inr (false, [(-2147483647, 2147483647)]))], [], kch1035),
  (63, [(0, .inl 24), (1, .inl 33), (2, .inr (false, [(4, 4)])), (3, .inr (false, [(0, 7)])), (4, .inr (false, [(0, 7)])), (5, .inr (false, ar_t32)), (6, .inr (false, ar_t32)), (7, .inr (false, [(1, 1)])), (8, .inr (false, ar_t32)), (9, .inr (false, [(8, 8)])), (10, .inr (false, [(-2147483648, 2147483646)])), (11, .inr (false, [(-2147483647, 2147483647)]))], [], kch1036)] = true := by decide +kernel
def kch1037 : aw_H := [(0, kcx2), (24, kcx25), (25, .inr (.inl (0, 8, [], []))), (26, .inr (.inl (0, 8, [], []))), (27, .inr (.inl (0, 8, [], []))), (28, .inr (.inl (0, 8, [], []))), (29, .inr (.inl (0, 4, [], []))), (30, .inr (.inl (0, 4, [], []))), (31, kcx36), (32, kcx36), (33, kcx968), (34, .inr (.inl (0, 8, [], []))), (35, .inr (.inl (0, 8, [], []))), (36, .inr (.inl (0, 8, [], []))), (37, .inr (.inl (0, 8, [], []))), (38, .inr (.inl (0, 4, [], []))), (39, .inr (.inl (0, 4, [], []))), (40, kcx36), (41, kcx36)]
/-- MiceRegisters.duel -/
def kch1038 : aw_H := [(0, kcx2), (15, kcx669), (16, .inr (.inl (0, 8, [], []))), (17, .inr (.inl (0, 8, [], []))), (18, .inr (.inl (0, 8, [], []))), (19, .inr (.inl (0, 8, [], []))), (20, .inr (.inl (0, 4, [], []))), (21, .inr (.inl (0, 4, [], []))), (22, kcx36), (23, kcx36), (24, kcx25), (25, .inr (.inl (0, 8, [], []))), (26, .inr (.inl (0, 8, [], []))), (27, .inr (.inl (0, 8, [], []))), (28, .inr (.inl (0, 8, [], []))), (29, .inr (.inl (0, 4, [], []))), (30, .inr (.inl (0, 4, [], []))), (31, kcx36), (32, kcx36), (33, kcx968), (34, .inr (.inl (0, 8, [], []))), (35, .inr (.inl (0, 8, [], []))), (36, .inr (.inl (0, 8, [], []))), (37, .inr (.inl (0, 8, [], []))), (38, .inr (.inl (0, 4, [], []))), (39, .inr (.inl (0, 4, [], []))), (40, kcx36), (41, kcx36)]
def kcc1053 : ak_C := (81, [.inl 0, .inr (false, ar_t32), .inr (false, ar_t32), .inr (false, ar_t32)], kch1038, [0, 24, 25, 26, 27, 28, 29, 30, 31, 32, 33, 34, 35, 36, 37, 38, 39, 40, 41], [([[], [], [], []], some (.inr (false, [(-1, -1)])), kch1037), ([[], [(0, 7)], [(0, 7)], [(0, 2)]], some (.inr (false, [(1, 1)])), kch1037)])
theorem kck1053 : ai_chk [kcc976, kcc1014, kcc1052, kcc14, kcc1050, kcc1048] kcc1053 (fun pc => sm_ch sm_t81 pc, sm_Kn 2 4 none, fun x => sm_lk sm_ca2 x, some .int) [0, 24, 25, 26, 27, 28, 29, 30, 31, 32, 33, 34, 35, 36, 37, 38, 39, 40, 41] 4 4 [] [(5, some (0, 3, 0), 0, 3)] 2000 [] = true := by decide +kernel
/-- MiceRegisters.sleepAside -/
def kcc1054 : ak_C := (84, [.inl 0, .inr (false, ar_t32)], kch876, [24, 25, 26, 27, 28, 29, 30, 31, 32], [([], none, kch827)])
theorem kck1054 : ai_chk [kcc1014, kcc1018] kcc1054 (fun pc => sm_ch sm_t84 pc, sm_Kn 2 2 none, fun x => sm_lk sm_ca2 x, none) [24, 25, 26, 27, 28, 29, 30, 31, 32] 2 0 [] [] 2000 [] = true := by decide +kernel
/-- MiceRegisters.weightOf -/
def kcc1055 : ak_C := (85, [.inl 0, .inr (false, ar_t32), .inr (false, ar_t32)], kch712, [], [([], some (.inr (true, ar_t64)), [])])
def kch1039 : aw_H := [(0, kcx2), (15, kcx688)]
def kch1040 : aw_H := [(0, kcx2), (15, kcx690)]
def kch1041 : aw_H := [(0, kcx2), (15, kcx692)]
def kch1042 : aw_H := [(0, kcx2), (15, kcx694)]
theorem kck1055 : ai_chk [] kcc1055 (fun pc => sm_ch sm_t85 pc, sm_Kn 2 6 none, fun x => sm_lk sm_ca2 x, some .long) [] 6 0 [5] [] 2000 [(5, [(0, .inl 0), (1, .inr (false, ar_t32)), (2, .inr (false, ar_t32)), (3, .inr (true, [(1, 1)])), (5, .inr (false, [(0, 0)]))], [], kch712),
  (5, [(0, .inl 0), (1, .inr (false, ar_t32)), (2, .inr (false, ar_t32)), (3, .inr (true, ar_t32)), (5, .inr (false, [(1, 1)]))], [], kch1039),
  (5, [(0, .inl 0), (1, .inr (false, ar_t32)), (2, .inr (false, ar_t32)), (3, .inr (true, [(-4611686016279904256, 4611686018427387904)])), (5, .inr (false, [(2, 2)]))], [], kch1040),
  (5, [(0, .inl 0), (1, .inr (false, ar_t32)), (2, .inr (false, ar_t32)), (3, .inr (true, ar_t64)), (5, .inr (false, [(3, 3)]))], [], kch1041),
  (5, [(0, .inl 0), (1, .inr (false, ar_t32)), (2, .inr (false, ar_t32)), (3, .inr (true, ar_t64)), (5, .inr (false, [(4, 4)]))], [], kch1042)] = true := by decide +kernel
/-- MiceRegisters.allWeights -/
def kcc1056 : ak_C := (86, [.inl 0], kch712, [], [([], some (.inr (true, [(1, 20736)])), [])])
theorem kck1056 : ai_chk [] kcc1056 (fun pc => sm_ch sm_t86 pc, sm_Kn 2 4 none, fun x => sm_lk sm_ca2 x, some .long) [] 4 0 [4] [] 2000 [(4, [(0, .inl 0), (1, .inr (true, [(1, 1)])), (3, .inr (false, [(0, 0)]))], [], kch712),
  (4, [(0, .inl 0), (1, .inr (true, [(12, 12)])), (3, .inr (false, [(1, 1)]))], [], kch1039),
  (4, [(0, .inl 0), (1, .inr (true, [(144, 144)])), (3, .inr (false, [(2, 2)]))], [], kch1040),
  (4, [(0, .inl 0), (1, .inr (true, [(1728, 1728)])), (3, .inr (false, [(3, 3)]))], [], kch1041),
  (4, [(0, .inl 0), (1, .inr (true, [(20736, 20736)])), (3, .inr (false, [(4, 4)]))], [], kch1042)] = true := by decide +kernel
/-- MiceRegisters.odds -/
def kcc1057 : ak_C := (83, [.inl 0, .inr (false, ar_t32), .inr (false, ar_t32)], kch876, [0, 24, 25, 26, 27, 28, 29, 30, 31, 32], [([[], [], []], some (.inr (false, [(-1, -1)])), kch885), ([[], [(0, 7)], [(0, 12)]], some (.inr (false, [(1, 1)])), kch885)])
theorem kck1057 : ai_chk [kcc976, kcc1054, kcc1055, kcc1056, kcc1040] kcc1057 (fun pc => sm_ch sm_t83 pc, sm_Kn 2 6 none, fun x => sm_lk sm_ca2 x, some .int) [0, 24, 25, 26, 27, 28, 29, 30, 31, 32] 6 3 [25] [] 2000 [(25, [(0, .inl 0), (1, .inr (false, [(0, 7)])), (2, .inr (false, [(0, 12)])), (3, .inr (true, [(0, 0)])), (5, .inr (false, [(0, 0)]))], [], kch876),
  (25, [(0, .inl 0), (1, .inr (false, [(0, 7)])), (2, .inr (false, [(0, 12)])), (3, .inr (true, ar_t64)), (5, .inr (false, [(1, 1)]))], [], kch876),
  (25, [(0, .inl 0), (1, .inr (false, [(0, 7)])), (2, .inr (false, [(0, 12)])), (3, .inr (true, ar_t64)), (5, .inr (false, [(2, 2)]))], [], kch876),
  (25, [(0, .inl 0), (1, .inr (false, [(0, 7)])), (2, .inr (false, [(0, 12)])), (3, .inr (true, ar_t64)), (5, .inr (false, [(3, 3)]))], [], kch876),
  (25, [(0, .inl 0), (1, .inr (false, [(0, 7)])), (2, .inr (false, [(0, 12)])), (3, .inr (true, ar_t64)), (5, .inr (false, [(4, 4)]))], [], kch876),
  (25, [(0, .inl 0), (1, .inr (false, [(0, 7)])), (2, .inr (false, [(0, 12)])), (3, .inr (true, ar_t64)), (5, .inr (false, [(5, 5)]))], [], kch876),
  (25, [(0, .inl 0), (1, .inr (false, [(0, 7)])), (2, .inr (false, [(0, 12)])), (3, .inr (true, ar_t64)), (5, .inr (false, [(6, 6)]))], [], kch876),
  (25, [(0, .inl 0), (1, .inr (false, [(0, 7)])), (2, .inr (false, [(0, 12)])), (3, .inr (true, ar_t64)), (5, .inr (false, [(7, 7)]))], [], kch876),
  (25, [(0, .inl 0), (1, .inr (false, [(0, 7)])), (2, .inr (false, [(0, 12)])), (3, .inr (true, ar_t64)), (5, .inr (false, [(8, 8)]))], [], kch876),
  (25, [(0, .inl 0), (1, .inr (false, [(0, 7)])), (2, .inr (false, [(0, 12)])), (3, .inr (true, ar_t64)), (5, .inr (false, [(9, 9)]))], [], kch876),
  (25, [(0, .inl 0), (1, .inr (false, [(0, 7)])), (2, .inr (false, [(0, 12)])), (3, .inr (true, ar_t64)), (5, .inr (false, [(10, 10)]))], [], kch876),
  (25, [(0, .inl 0), (1, .inr (false, [(0, 7)])), (2, .inr (false, [(0, 12)])), (3, .inr (true, ar_t64)), (5, .inr (false, [(11, 11)]))], [], kch876),
  (25, [(0, .inl 0), (1, .inr (false, [(0, 7)])), (2, .inr (false, [(0, 12)])), (3, .inr (true, ar_t64)), (5, .inr (false, [(12, 12)]))], [], kch876),
  (25, [(0, .inl 0), (1, .inr (false, [(0, 7)])), (2, .inr (false, [(0, 12)])), (3, .inr (true, ar_t64)), (5, .inr (false, [(13, 13)]))], [], kch876),
  (25, [(0, .inl 0), (1, .inr (false, [(0, 7)])), (2, .inr (false, [(0, 12)])), (3, .inr (true, ar_t64)), (5, .inr (false, [(14, 14)]))], [], kch876),
  (25, [(0, .inl 0), (1, .inr (false, [(0, 7)])), (2, .inr (false, [(0, 12)])), (3, .inr (true, ar_t64)), (5, .inr (false, [(15, 15)]))], [], kch876),
  (25, [(0, .inl 0), (1, .inr (false, [(0, 7)])), (2, .inr (false, [(0, 12)])), (3, .inr (true, ar_t64)), (5, .inr (false, [(16, 16)]))], [], kch876)] = true := by decide +kernel
/-- MiceRegisters.mid -/
def kcc1058 : ak_C := (87, [.inl 0, .inr (false, ar_t32)], kch876, [0, 24, 25, 26, 27, 28, 29, 30, 31, 32], [([[], [(-2147483648, -1), (13, 2147483647)]], some (.inr (false, [(-1, -1)])), kch885), ([[], [(0, 12)]], some (.inr (false, [(-4, -4)])), kch885), ([[], [(0, 12)]], some (.inr (false, [(1, 1)])), kch885)])
theorem kck1058 : ai_chk [kcc1054, kcc1055, kcc1027, kcc1056, kcc1040] kcc1058 (fun pc => sm_ch sm_t87 pc, sm_Kn 2 5 none, fun x => sm_lk sm_ca2 x, some .int) [0, 24, 25, 26, 27, 28, 29, 30, 31, 32] 5 2 [30] [] 2000 [(30, [(0, .inl 0), (1, .inr (false, [(0, 12)])), (2, .inr (true, [(0, 0)])), (4, .inr (false, [(0, 0)]))], [], kch918),
  (30, [(0, .inl 0), (1, .inr (false, [(0, 12)])), (2, .inr (true, ar_t64)), (4, .inr (false, [(1, 1)]))], [], kch918),
  (30, [(0, .inl 0), (1, .inr (false, [(0, 12)])), (2, .inr (true, ar_t64)), (4, .inr (false, [(2, 2)]))], [], kch918),
  (30, [(0, .inl 0), (1, .inr (false, [(0, 12)])), (2, .inr (true, ar_t64)), (4, .inr (false, [(3, 3)]))], [], kch918),
  (30, [(0, .inl 0), (1, .inr (false, [(0, 12)])), (2, .inr (true, ar_t64)), (4, .inr (false, [(4, 4)]))], [], kch918),
  (30, [(0, .inl 0), (1, .inr (false, [(0, 12)])), (2, .inr (true, ar_t64)), (4, .inr (false, [(5, 5)]))], [], kch918),
  (30, [(0, .inl 0), (1, .inr (false, [(0, 12)])), (2, .inr (true, ar_t64)), (4, .inr (false, [(6, 6)]))], [], kch918),
  (30, [(0, .inl 0), (1, .inr (false, [(0, 12)])), (2, .inr (true, ar_t64)), (4, .inr (false, [(7, 7)]))], [], kch918),
  (30, [(0, .inl 0), (1, .inr (false, [(0, 12)])), (2, .inr (true, ar_t64)), (4, .inr (false, [(8, 8)]))], [], kch918),
  (30, [(0, .inl 0), (1, .inr (false, [(0, 12)])), (2, .inr (true, ar_t64)), (4, .inr (false, [(9, 9)]))], [], kch918),
  (30, [(0, .inl 0), (1, .inr (false, [(0, 12)])), (2, .inr (true, ar_t64)), (4, .inr (false, [(10, 10)]))], [], kch918),
  (30, [(0, .inl 0), (1, .inr (false, [(0, 12)])), (2, .inr (true, ar_t64)), (4, .inr (false, [(11, 11)]))], [], kch918),
  (30, [(0, .inl 0), (1, .inr (false, [(0, 12)])), (2, .inr (true, ar_t64)), (4, .inr (false, [(12, 12)]))], [], kch918),
  (30, [(0, .inl 0), (1, .inr (false, [(0, 12)])), (2, .inr (true, ar_t64)), (4, .inr (false, [(13, 13)]))], [], kch918),
  (30, [(0, .inl 0), (1, .inr (false, [(0, 12)])), (2, .inr (true, ar_t64)), (4, .inr (false, [(14, 14)]))], [], kch918),
  (30, [(0, .inl 0), (1, .inr (false, [(0, 12)])), (2, .inr (true, ar_t64)), (4, .inr (false, [(15, 15)]))], [], kch918),
  (30, [(0, .inl 0), (1, .inr (false, [(0, 12)])), (2, .inr (true, ar_t64)), (4, .inr (false, [(16, 16)]))], [], kch918)] = true := by decide +kernel
/-- Register.change -/
def kcc1059 : ak_C := (45, [.inl 15, .inr (false, [(3, 3)]), .inr (false, [(0, 0)]), .inr (false, ar_t32)], kch794, [15], [([], some (.inr (false, [(0, 1)])), kch794)])
theorem kck1059 : ai_chk [] kcc1059 (fun pc => sm_ch sm_t45 pc, sm_Kn 1 5 none, fun x => sm_lk sm_ca1 x, some .int) [15] 5 0 [] [] 2000 [] = true := by decide +kernel
/-- MiceRegisters.doTruly -/
def kcc1060 : ak_C := (43, [.inl 0, .inr (false, [(3, 3)]), .inr (false, [(0, 0)]), .inr (false, ar_t32)], kch796, [15, 42, 43, 44, 45], [([], some (.inr (false, [(0, 1)])), kch800)])
theorem kck1060 : ai_chk [kcc0, kcc1059] kcc1060 (fun pc => sm_ch sm_t43 pc, sm_Kn 2 4 none, fun x => sm_lk sm_ca2 x, some .int) [15, 42] 4 0 [] [] 2000 [] = true := by decide +kernel
def kcx1043 : aw_A := .inl (1, [.inr (false, [(0, 8)]), .inr (false, [(0, 4)]), .inr (false, ar_t32), .inr (false, [(0, 0)]), .inr (false, ar_t32), .inl 16, .inl 17, .inl 18, .inl 19, .inl 20, .inl 21, .inl 22, .inl 23])
def kch1044 : aw_H := [(15, kcx1043)]
/-- Register.change -/
def kcc1061 : ak_C := (45, [.inl 15, .inr (false, [(2, 2)]), .inr (false, [(0, 0)]), .inr (false, ar_t32)], kch794, [15], [([], some (.inr (false, ar_t32)), kch1044)])
theorem kck1061 : ai_chk [] kcc1061 (fun pc => sm_ch sm_t45 pc, sm_Kn 1 5 none, fun x => sm_lk sm_ca1 x, some .int) [15] 5 0 [] [] 2000 [] = true := by decide +kernel
def kch1045 : aw_H := [(15, kcx1043), (42, kcx696), (43, .inr (.inr (.inr ()))), (44, .inr (.inr (.inr ()))), (45, .inr (.inr (.inr ())))]
/-- MiceRegisters.doTruly -/
def kcc1062 : ak_C := (43, [.inl 0, .inr (false, [(2, 2)]), .inr (false, [(0, 0)]), .inr (false, ar_t32)], kch796, [15, 42, 43, 44, 45], [([], some (.inr (false, ar_t32)), kch1045)])
theorem kck1062 : ai_chk [kcc0, kcc1061] kcc1062 (fun pc => sm_ch sm_t43 pc, sm_Kn 2 4 none, fun x => sm_lk sm_ca2 x, some .int) [15, 42] 4 0 [] [] 2000 [] = true := by decide +kernel
/-- Register.change -/
def kcc1063 : ak_C := (45, [.inl 15, .inr (false, [(1, 1)]), .inr (false, [(0, 0)]), .inr (false, ar_t32)], kch756, [19], [([], some (.inr (false, ar_t32)), kch788)])
theorem kck1063 : ai_chk [] kcc1063 (fun pc => sm_ch sm_t45 pc, sm_Kn 1 5 none, fun x => sm_lk sm_ca1 x, some .int) [19] 5 0 [] [] 2000 [] = true := by decide +kernel
/-- MiceRegisters.doTruly -/
def kcc1064 : ak_C := (43, [.inl 0, .inr (false, [(1, 1)]), .inr (false, [(0, 0)]), .inr (false, ar_t32)], kch790, [19, 42, 43, 44, 45], [([], some (.inr (false, ar_t32)), kch789)])
theorem kck1064 : ai_chk [kcc1, kcc1063] kcc1064 (fun pc => sm_ch sm_t43 pc, sm_Kn 2 4 none, fun x => sm_lk sm_ca2 x, some .int) [19, 42] 4 0 [] [] 2000 [] = true := by decide +kernel
/-- MiceRegisters.doByLot -/
def kcc1065 : ak_C := (89, [.inl 0, .inr (false, [(0, 2147483646)])], kch783, [15, 18, 19, 23, 42, 43, 44, 45], [([], none, kch782)])
theorem kck1065 : ai_chk [kcc1007, kcc1002, kcc999, kcc996, kcc1060, kcc1062, kcc1064] kcc1065 (fun pc => sm_ch sm_t89 pc, sm_Kn 2 3 none, fun x => sm_lk sm_ca2 x, none) [15, 18, 19, 23, 42] 3 0 [] [] 2000 [] = true := by decide +kernel
/-- Register.allLeft -/
def kcc1066 : ak_C := (66, [.inl 15], kch713, [], [([], some (.inr (false, [(0, 0)])), []), ([], some (.inr (false, ar_t32)), [])])
theorem kck1066 : ai_chk [] kcc1066 (fun pc => sm_ch sm_t66 pc, sm_Kn 1 3 none, fun x => sm_lk sm_ca1 x, some .int) [] 3 0 [4] [] 2000 [(4, [(0, .inl 15), (1, .inr (false, [(0, 0)])), (2, .inr (false, [(0, 0)]))], [], kch713),
  (4, [(0, .inl 15), (1, .inr (false, ar_t32)), (2, .inr (false, [(1, 1)]))], [], kch956),
  (4, [(0, .inl 15), (1, .inr (false, ar_t32)), (2, .inr (false, [(2, 2)]))], [], kch957),
  (4, [(0, .inl 15), (1, .inr (false, ar_t32)), (2, .inr (false, [(3, 3)]))], [], kch958),
  (4, [(0, .inl 15), (1, .inr (false, ar_t32)), (2, .inr (false, [(4, 4)]))], [], kch959),
  (4, [(0, .inl 15), (1, .inr (false, ar_t32)), (2, .inr (false, [(5, 5)]))], [], kch960),
  (4, [(0, .inl 15), (1, .inr (false, ar_t32)), (2, .inr (false, [(6, 6)]))], [], kch961),
  (4, [(0, .inl 15), (1, .inr (false, ar_t32)), (2, .inr (false, [(7, 7)]))], [], kch962),
  (4, [(0, .inl 15), (1, .inr (false, ar_t32)), (2, .inr (false, [(8, 8)]))], [], kch963)] = true := by decide +kernel
def kch1046 : aw_H := [(15, kcx688), (18, .inr (.inl (0, 8, [], []))), (19, .inr (.inl (0, 8, [], []))), (23, kcx36), (42, kcx696), (43, .inr (.inr (.inr ()))), (44, .inr (.inr (.inr ()))), (45, .inr (.inr (.inr ())))]
/-- MiceRegisters.lots -/
def kcc1067 : ak_C := (88, [.inl 0, .inr (false, ar_t32), .inr (false, ar_t32)], kch783, [15, 18, 19, 23, 42, 43, 44, 45], [([[], [], []], some (.inr (false, [(-1, -1)])), kch782), ([[], [(1, 20)], [(1, 2147483646)]], some (.inr (false, [(-4, -4)])), kch785), ([[], [(1, 20)], [(1, 2147483646)]], some (.inr (false, [(-2, -2)])), kch1046), ([[], [(1, 20)], [(1, 2147483646)]], some (.inr (false, ar_t32)), kch782), ([[], [(1, 20)], [(1, 2147483646)]], some (.inr (false, [(0, 0)])), kch782)])
def kch1047 : aw_H := [(0, kcx2), (15, kcx688), (16, .inr (.inl (0, 8, [], []))), (18, .inr (.inl (0, 8, [], []))), (19, .inr (.inl (0, 8, [], []))), (20, .inr (.inl (0, 4, [], []))), (21, .inr (.inl (0, 4, [], []))), (23, kcx36), (42, kcx696), (43, .inr (.inr (.inr ()))), (44, .inr (.inr (.inr ()))), (45, .inr (.inr (.inr ())))]
theorem kck1067 : ai_chk [kcc1065, kcc1066] kcc1067 (fun pc => sm_ch sm_t88 pc, sm_Kn 2 6 none, fun x => sm_lk sm_ca2 x, some .int) [15, 18, 19, 23, 42] 6 3 [60] [] 2000 [(60, [(0, .inl 0), (1, .inr (false, [(1, 20)])), (2, .inr (false, [(1, 2147483646)])), (3, .inr (true, [(1, 2147483646)])), (5, .inr (false, [(0, 0)]))], [], kch1047),
  (60, [(0, .inl 0), (1, .inr (false, [(1, 20)])), (2, .inr (false, [(1, 2147483646)])), (3, .inr (true, [(0, 2147483646)])), (5, .inr (false, [(1, 1)]))], [], kch783),
  (60, [(0, .inl 0), (1, .inr (false, [(2, 20)])), (2, .inr (false, [(1, 2147483646)])), (3, .inr (true, [(0, 2147483646)])), (5, .inr (false, [(2, 2)]))], [], kch783),
  (60, [(0, .inl 0), (1, .inr (false, [(3, 20)])), (2, .inr (false, [(1, 2147483646)])), (3, .inr (true, [(0, 2147483646)])), (5, .inr (false, [(3, 3)]))], [], kch783),
  (60, [(0, .inl 0), (1, .inr (false, [(4, 20)])), (2, .inr (false, [(1, 2147483646)])), (3, .inr (true, [(0, 2147483646)])), (5, .inr (false, [(4, 4)]))], [], kch783),
  (60, [(0, .inl 0), (1, .inr (false, [(5, 20)])), (2, .inr (false, [(1, 2147483646)])), (3, .inr (true, [(0, 2147483646)])), (5, .inr (false, [(5, 5)]))], [], kch783),
  (60, [(0, .inl 0), (1, .inr (false, [(6, 20)])), (2, .inr (false, [(1, 2147483646)])), (3, .inr (true, [(0, 2147483646)])), (5, .inr (false, [(6, 6)]))], [], kch783),
  (60, [(0, .inl 0), (1, .inr (false, [(7, 20)])), (2, .inr (false, [(1, 2147483646)])), (3, .inr (true, [(0, 2147483646)])), (5, .inr (false, [(7, 7)]))], [], kch783),
  (60, [(0, .inl 0), (1, .inr (false, [(8, 20)])), (2, .inr (false, [(1, 2147483646)])), (3, .inr (true, [(0, 2147483646)])), (5, .inr (false, [(8, 8)]))], [], kch783),
  (60, [(0, .inl 0), (1, .inr (false, [(9, 20)])), (2, .inr (false, [(1, 2147483646)])), (3, .inr (true, [(0, 2147483646)])), (5, .inr (false, [(9, 9)]))], [], kch783),
  (60, [(0, .inl 0), (1, .inr (false, [(10, 20)])), (2, .inr (false, [(1, 2147483646)])), (3, .inr (true, [(0, 2147483646)])), (5, .inr (false, [(10, 10)]))], [], kch783),
  (60, [(0, .inl 0), (1, .inr (false, [(11, 20)])), (2, .inr (false, [(1, 2147483646)])), (3, .inr (true, [(0, 2147483646)])), (5, .inr (false, [(11, 11)]))], [], kch783),
  (60, [(0, .inl 0), (1, .inr (false, [(12, 20)])), (2, .inr (false, [(1, 2147483646)])), (3, .inr (true, [(0, 2147483646)])), (5, .inr (false, [(12, 12)]))], [], kch783),
  (60, [(0, .inl 0), (1, .inr (false, [(13, 20)])), (2, .inr (false, [(1, 2147483646)])), (3, .inr (true, [(0, 2147483646)])), (5, .inr (false, [(13, 13)]))], [], kch783),
  (60, [(0, .inl 0), (1, .inr (false, [(14, 20)])), (2, .inr (false, [(1, 2147483646)])), (3, .inr (true, [(0, 2147483646)])), (5, .inr (false, [(14, 14)]))], [], kch783),
  (60, [(0, .inl 0), (1, .inr (false, [(15, 20)])), (2, .inr (false, [(1, 2147483646)])), (3, .inr (true, [(0, 2147483646)])), (5, .inr (false, [(15, 15)]))], [], kch783),
  (60, [(0, .inl 0), (1, .inr (false, [(16, 20)])), (2, .inr (false, [(1, 2147483646)])), (3, .inr (true, [(0, 2147483646)])), (5, .inr (false, [(16, 16)]))], [], kch783),
  (60, [(0, .inl 0), (1, .inr (false, [(17, 20)])), (2, .inr (false, [(1, 2147483646)])), (3, .inr (true, [(0, 2147483646)])), (5, .inr (false, [(17, 17)]))], [], kch783),
  (60, [(0, .inl 0), (1, .inr (false, [(18, 20)])), (2, .inr (false, [(1, 2147483646)])), (3, .inr (true, [(0, 2147483646)])), (5, .inr (false, [(18, 18)]))], [], kch783),
  (60, [(0, .inl 0), (1, .inr (false, [(19, 20)])), (2, .inr (false, [(1, 2147483646)])), (3, .inr (true, [(0, 2147483646)])), (5, .inr (false, [(19, 19)]))], [], kch783),
  (60, [(0, .inl 0), (1, .inr (false, [(20, 20)])), (2, .inr (false, [(1, 2147483646)])), (3, .inr (true, [(0, 2147483646)])), (5, .inr (false, [(20, 20)]))], [], kch783)] = true := by decide +kernel
/-- MiceRegisters.asked -/
def kcc1068 : ak_C := (90, [.inl 0], kch10, [], [([], some (.inr (false, ar_t32)), [])])
theorem kck1068 : ai_chk [] kcc1068 (fun pc => sm_ch sm_t90 pc, sm_Kn 2 1 none, fun x => sm_lk sm_ca2 x, some .int) [] 1 0 [] [] 2000 [] = true := by decide +kernel
/-- MiceRegisters.upper -/
def kcc1069 : ak_C := (91, [.inl 0], kch10, [], [([], some (.inr (true, ar_t64)), [])])
theorem kck1069 : ai_chk [] kcc1069 (fun pc => sm_ch sm_t91 pc, sm_Kn 2 1 none, fun x => sm_lk sm_ca2 x, some .long) [] 1 0 [] [] 2000 [] = true := by decide +kernel
/-- MiceRegisters.lower -/
def kcc1070 : ak_C := (92, [.inl 0], kch10, [], [([], some (.inr (true, ar_t64)), [])])
theorem kck1070 : ai_chk [] kcc1070 (fun pc => sm_ch sm_t92 pc, sm_Kn 2 1 none, fun x => sm_lk sm_ca2 x, some .long) [] 1 0 [] [] 2000 [] = true := by decide +kernel
/-- MiceRegisters.howManyThere -/
def kch1048 : aw_H := [(9, kcx14)]
def kcc1071 : ak_C := (96, [.inl 9], kch1048, [], [([], some (.inr (false, [(0, 4)])), [])])
theorem kck1071 : ai_chk [] kcc1071 (fun pc => sm_ch sm_t96 pc, sm_Kn 2 6 none, fun x => sm_lk sm_ca2 x, some .int) [] 6 0 [10] [] 2000 [(10, [(0, .inl 9), (1, .inr (false, [(0, 0)])), (2, .inl 9), (3, .inr (false, [(4, 4)])), (4, .inr (false, [(0, 0)]))], [], kch1048),
  (10, [(0, .inl 9), (1, .inr (false, [(0, 1)])), (2, .inl 9), (3, .inr (false, [(4, 4)])), (4, .inr (false, [(1, 1)])), (5, .inr (false, [(-1, 60)]))], [], kch1048),
  (10, [(0, .inl 9), (1, .inr (false, [(0, 2)])), (2, .inl 9), (3, .inr (false, [(4, 4)])), (4, .inr (false, [(2, 2)])), (5, .inr (false, [(-1, 60)]))], [], kch1048),
  (10, [(0, .inl 9), (1, .inr (false, [(0, 3)])), (2, .inl 9), (3, .inr (false, [(4, 4)])), (4, .inr (false, [(3, 3)])), (5, .inr (false, [(-1, 60)]))], [], kch1048),
  (10, [(0, .inl 9), (1, .inr (false, [(0, 4)])), (2, .inl 9), (3, .inr (false, [(4, 4)])), (4, .inr (false, [(4, 4)])), (5, .inr (false, [(-1, 60)]))], [], kch1048)] = true := by decide +kernel
/-- MiceRegisters.howManyThere -/
def kch1049 : aw_H := [(1, kcx4)]
def kcc1072 : ak_C := (96, [.inl 1], kch1049, [], [([], some (.inr (false, [(0, 6)])), [])])
theorem kck1072 : ai_chk [] kcc1072 (fun pc => sm_ch sm_t96 pc, sm_Kn 2 6 none, fun x => sm_lk sm_ca2 x, some .int) [] 6 0 [10] [] 2000 [(10, [(0, .inl 1), (1, .inr (false, [(0, 0)])), (2, .inl 1), (3, .inr (false, [(6, 6)])), (4, .inr (false, [(0, 0)]))], [], kch1049),
  (10, [(0, .inl 1), (1, .inr (false, [(0, 1)])), (2, .inl 1), (3, .inr (false, [(6, 6)])), (4, .inr (false, [(1, 1)])), (5, .inr (false, [(-1, 40)]))], [], kch1049),
  (10, [(0, .inl 1), (1, .inr (false, [(0, 2)])), (2, .inl 1), (3, .inr (false, [(6, 6)])), (4, .inr (false, [(2, 2)])), (5, .inr (false, [(-1, 40)]))], [], kch1049),
  (10, [(0, .inl 1), (1, .inr (false, [(0, 3)])), (2, .inl 1), (3, .inr (false, [(6, 6)])), (4, .inr (false, [(3, 3)])), (5, .inr (false, [(-1, 40)]))], [], kch1049),
  (10, [(0, .inl 1), (1, .inr (false, [(0, 4)])), (2, .inl 1), (3, .inr (false, [(6, 6)])), (4, .inr (false, [(4, 4)])), (5, .inr (false, [(-1, 40)]))], [], kch1049),
  (10, [(0, .inl 1), (1, .inr (false, [(0, 5)])), (2, .inl 1), (3, .inr (false, [(6, 6)])), (4, .inr (false, [(5, 5)])), (5, .inr (false, [(-1, 40)]))], [], kch1049),
  (10, [(0, .inl 1), (1, .inr (false, [(0, 6)])), (2, .inl 1), (3, .inr (false, [(6, 6)])), (4, .inr (false, [(6, 6)])), (5, .inr (false, [(-1, 40)]))], [], kch1049)] = true := by decide +kernel
/-- Register.miceOfKind -/
def kch1050 : aw_H := [(15, kcx669), (20, .inr (.inl (0, 4, [], [])))]
def kcc1073 : ak_C := (95, [.inl 15, .inr (false, ar_t32)], kch1050, [], [([], some (.inr (false, [(0, 0)])), []), ([], some (.inr (false, [(0, 4)])), [])])
def kch1051 : aw_H := [(15, kcx688), (20, .inr (.inl (0, 4, [], [])))]
def kch1052 : aw_H := [(15, kcx690), (20, .inr (.inl (0, 4, [], [])))]
def kch1053 : aw_H := [(15, kcx692), (20, .inr (.inl (0, 4, [], [])))]
def kch1054 : aw_H := [(15, kcx694), (20, .inr (.inl (0, 4, [], [])))]
theorem kck1073 : ai_chk [kcc988] kcc1073 (fun pc => sm_ch sm_t95 pc, sm_Kn 1 4 none, fun x => sm_lk sm_ca1 x, some .int) [] 4 0 [4] [] 2000 [(4, [(0, .inl 15), (1, .inr (false, ar_t32)), (2, .inr (false, [(0, 0)])), (3, .inr (false, [(0, 0)]))], [], kch1050),
  (4, [(0, .inl 15), (1, .inr (false, ar_t32)), (2, .inr (false, [(0, 1)])), (3, .inr (false, [(1, 1)]))], [], kch1051),
  (4, [(0, .inl 15), (1, .inr (false, ar_t32)), (2, .inr (false, [(0, 2)])), (3, .inr (false, [(2, 2)]))], [], kch1052),
  (4, [(0, .inl 15), (1, .inr (false, ar_t32)), (2, .inr (false, [(0, 3)])), (3, .inr (false, [(3, 3)]))], [], kch1053),
  (4, [(0, .inl 15), (1, .inr (false, ar_t32)), (2, .inr (false, [(0, 4)])), (3, .inr (false, [(4, 4)]))], [], kch1054)] = true := by decide +kernel
/-- Register.linesEatenUp -/
def kcc1074 : ak_C := (61, [.inl 15], kch713, [], [([], some (.inr (false, [(0, 0)])), []), ([], some (.inr (false, ar_t32)), [])])
def kch1055 : aw_H := [(15, kcx672), (18, .inr (.inl (0, 8, [], [(0, ar_t32)])))]
def kch1056 : aw_H := [(15, kcx674), (18, kcx733)]
def kch1057 : aw_H := [(15, kcx676), (18, kcx735)]
def kch1058 : aw_H := [(15, kcx678), (18, kcx737)]
def kch1059 : aw_H := [(15, kcx680), (18, kcx739)]
def kch1060 : aw_H := [(15, kcx682), (18, kcx741)]
def kch1061 : aw_H := [(15, kcx684), (18, kcx743)]
def kch1062 : aw_H := [(15, kcx686), (18, kcx745)]
theorem kck1074 : ai_chk [] kcc1074 (fun pc => sm_ch sm_t61 pc, sm_Kn 1 3 none, fun x => sm_lk sm_ca1 x, some .int) [] 3 0 [4] [] 2000 [(4, [(0, .inl 15), (1, .inr (false, [(0, 0)])), (2, .inr (false, [(0, 0)]))], [], kch713),
  (4, [(0, .inl 15), (1, .inr (false, [(0, 1)])), (2, .inr (false, [(1, 1)]))], [], kch1055),
  (4, [(0, .inl 15), (1, .inr (false, ar_t32)), (2, .inr (false, [(2, 2)]))], [], kch1056),
  (4, [(0, .inl 15), (1, .inr (false, ar_t32)), (2, .inr (false, [(3, 3)]))], [], kch1057),
  (4, [(0, .inl 15), (1, .inr (false, ar_t32)), (2, .inr (false, [(4, 4)]))], [], kch1058),
  (4, [(0, .inl 15), (1, .inr (false, ar_t32)), (2, .inr (false, [(5, 5)]))], [], kch1059),
  (4, [(0, .inl 15), (1, .inr (false, ar_t32)), (2, .inr (false, [(6, 6)]))], [], kch1060),
  (4, [(0, .inl 15), (1, .inr (false, ar_t32)), (2, .inr (false, [(7, 7)]))], [], kch1061),
  (4, [(0, .inl 15), (1, .inr (false, ar_t32)), (2, .inr (false, [(8, 8)]))], [], kch1062)] = true := by decide +kernel
/-- MiceRegisters.howManyKept -/
def kch1063 : aw_H := [(0, kcx2), (46, .inr (.inr (.inl (4, [47, 51, 55])))), (47, kcx697), (51, kcx698), (55, kcx699)]
def kcc1075 : ak_C := (97, [.inl 0], kch1063, [], [([], some (.inr (false, [(0, 3)])), [])])
theorem kck1075 : ai_chk [] kcc1075 (fun pc => sm_ch sm_t97 pc, sm_Kn 2 3 none, fun x => sm_lk sm_ca2 x, some .int) [] 3 0 [4] [] 2000 [(4, [(0, .inl 0), (1, .inr (false, [(0, 0)])), (2, .inr (false, [(0, 0)]))], [], kch1063),
  (4, [(0, .inl 0), (1, .inr (false, [(0, 1)])), (2, .inr (false, [(1, 1)]))], [], kch1063),
  (4, [(0, .inl 0), (1, .inr (false, [(0, 2)])), (2, .inr (false, [(2, 2)]))], [], kch1063),
  (4, [(0, .inl 0), (1, .inr (false, [(0, 3)])), (2, .inr (false, [(3, 3)]))], [], kch1063)] = true := by decide +kernel
/-- MiceRegisters.countOf -/
def kch1064 : aw_H := [(0, kcx2), (1, kcx4), (9, kcx14), (15, kcx669), (18, .inr (.inl (0, 8, [], []))), (19, .inr (.inl (0, 8, [], []))), (20, .inr (.inl (0, 4, [], []))), (42, kcx696), (46, .inr (.inr (.inl (4, [47, 51, 55])))), (47, kcx697), (51, kcx698), (55, kcx699)]
def kcc1076 : ak_C := (94, [.inl 0, .inr (false, ar_t32)], kch1064, [], [([[], []], some (.inr (false, ar_t32)), []), ([[], [(4, 5), (8, 10)]], some (.inr (false, [(0, 0)])), [])])
theorem kck1076 : ai_chk [kcc1071, kcc1072, kcc1073, kcc992, kcc1074, kcc1066, kcc1075] kcc1076 (fun pc => sm_ch sm_t94 pc, sm_Kn 2 2 none, fun x => sm_lk sm_ca2 x, some .int) [] 2 2 [] [] 2000 [] = true := by decide +kernel
/-- MiceRegisters.count -/
def kcc1077 : ak_C := (93, [.inl 0, .inr (false, ar_t32)], kch1064, [], [([[], [(-2147483648, -1), (14, 2147483647)]], some (.inr (false, [(-1, -1)])), []), ([[], [(4, 5), (8, 10)]], some (.inr (false, [(0, 0)])), []), ([[], [(0, 13)]], some (.inr (false, ar_t32)), [])])
theorem kck1077 : ai_chk [kcc1076] kcc1077 (fun pc => sm_ch sm_t93 pc, sm_Kn 2 2 none, fun x => sm_lk sm_ca2 x, some .int) [] 2 2 [] [] 2000 [] = true := by decide +kernel
/-- MiceRegisters.finding -/
def kcc1078 : ak_C := (98, [.inl 0], kch10, [], [([], some (.inr (false, ar_t32)), [])])
theorem kck1078 : ai_chk [] kcc1078 (fun pc => sm_ch sm_t98 pc, sm_Kn 2 1 none, fun x => sm_lk sm_ca2 x, some .int) [] 1 0 [] [] 2000 [] = true := by decide +kernel
/-- MiceRegisters.findings -/
def kcc1079 : ak_C := (99, [.inl 0, .inr (false, ar_t32)], kch3, [], [([[], [(-2147483648, 0), (6, 2147483647)]], some (.inr (false, [(-1, -1)])), []), ([[], [(1, 5)]], some (.inr (false, ar_t32)), [])])
theorem kck1079 : ai_chk [] kcc1079 (fun pc => sm_ch sm_t99 pc, sm_Kn 2 2 none, fun x => sm_lk sm_ca2 x, some .int) [] 2 2 [] [] 2000 [] = true := by decide +kernel
/-- MiceRegisters.digestOfRows -/
def kch1065 : aw_H := [(0, kcx2), (1, kcx4), (2, kcx7), (3, .inr (.inl (0, 40, [], []))), (4, .inr (.inl (0, 40, [], []))), (5, .inr (.inl (0, 40, [], []))), (6, .inr (.inl (0, 40, [], []))), (7, .inr (.inl (0, 40, [], []))), (8, .inr (.inl (0, 40, [], [])))]
def kcc1080 : ak_C := (101, [.inl 0, .inr (true, ar_t64)], kch1065, [], [([], some (.inr (true, ar_t64)), [])])
def kcx1066 : aw_A := .inr (.inl (0, 6, [(0, 5, [(-1, 40)])], [(0, [(1, 40)])]))
def kch1067 : aw_H := [(0, kcx2), (1, kcx1066), (2, kcx7), (3, .inr (.inl (0, 40, [], []))), (4, .inr (.inl (0, 40, [], []))), (5, .inr (.inl (0, 40, [], []))), (6, .inr (.inl (0, 40, [], []))), (7, .inr (.inl (0, 40, [], []))), (8, .inr (.inl (0, 40, [], [])))]
def kcx1068 : aw_A := .inr (.inl (0, 6, [(0, 5, [(-1, 40)])], [(0, [(1, 1)])]))
def kch1069 : aw_H := [(0, kcx2), (1, kcx1068), (2, kcx7), (3, .inr (.inl (0, 40, [], []))), (4, .inr (.inl (0, 40, [], []))), (5, .inr (.inl (0, 40, [], []))), (6, .inr (.inl (0, 40, [], []))), (7, .inr (.inl (0, 40, [], []))), (8, .inr (.inl (0, 40, [], [])))]
def kcx1070 : aw_A := .inr (.inl (0, 6, [(0, 5, [(-1, 40)])], [(0, [(2, 40)])]))
def kch1071 : aw_H := [(0, kcx2), (1, kcx1070), (2, kcx7), (3, .inr (.inl (0, 40, [], []))), (4, .inr (.inl (0, 40, [], []))), (5, .inr (.inl (0, 40, [], []))), (6, .inr (.inl (0, 40, [], []))), (7, .inr (.inl (0, 40, [], []))), (8, .inr (.inl (0, 40, [], [])))]
def kcx1072 : aw_A := .inr (.inl (0, 6, [(0, 5, [(-1, 40)])], [(0, [(2, 2)])]))
def kch1073 : aw_H := [(0, kcx2), (1, kcx1072), (2, kcx7), (3, .inr (.inl (0, 40, [], []))), (4, .inr (.inl (0, 40, [], []))), (5, .inr (.inl (0, 40, [], []))), (6, .inr (.inl (0, 40, [], []))), (7, .inr (.inl (0, 40, [], []))), (8, .inr (.inl (0, 40, [], [])))]
def kcx1074 : aw_A := .inr (.inl (0, 6, [(0, 5, [(-1, 40)])], [(0, [(3, 40)])]))
def kch1075 : aw_H := [(0, kcx2), (1, kcx1074), (2, kcx7), (3, .inr (.inl (0, 40, [], []))), (4, .inr (.inl (0, 40, [], []))), (5, .inr (.inl (0, 40, [], []))), (6, .inr (.inl (0, 40, [], []))), (7, .inr (.inl (0, 40, [], []))), (8, .inr (.inl (0, 40, [], [])))]
def kcx1076 : aw_A := .inr (.inl (0, 6, [(0, 5, [(-1, 40)])], [(0, [(3, 3)])]))
def kch1077 : aw_H := [(0, kcx2), (1, kcx1076), (2, kcx7), (3, .inr (.inl (0, 40, [], []))), (4, .inr (.inl (0, 40, [], []))), (5, .inr (.inl (0, 40, [], []))), (6, .inr (.inl (0, 40, [], []))), (7, .inr (.inl (0, 40, [], []))), (8, .inr (.inl (0, 40, [], [])))]
def kcx1078 : aw_A := .inr (.inl (0, 6, [(0, 5, [(-1, 40)])], [(0, [(4, 40)])]))
def kch1079 : aw_H := [(0, kcx2), (1, kcx1078), (2, kcx7), (3, .inr (.inl (0, 40, [], []))), (4, .inr (.inl (0, 40, [], []))), (5, .inr (.inl (0, 40, [], []))), (6, .inr (.inl (0, 40, [], []))), (7, .inr (.inl (0, 40, [], []))), (8, .inr (.inl (0, 40, [], [])))]
def kcx1080 : aw_A := .inr (.inl (0, 6, [(0, 5, [(-1, 40)])], [(0, [(4, 4)])]))
def kch1081 : aw_H := [(0, kcx2), (1, kcx1080), (2, kcx7), (3, .inr (.inl (0, 40, [], []))), (4, .inr (.inl (0, 40, [], []))), (5, .inr (.inl (0, 40, [], []))), (6, .inr (.inl (0, 40, [], []))), (7, .inr (.inl (0, 40, [], []))), (8, .inr (.inl (0, 40, [], [])))]
def kcx1082 : aw_A := .inr (.inl (0, 6, [(0, 5, [(-1, 40)])], [(0, [(5, 40)])]))
def kch1083 : aw_H := [(0, kcx2), (1, kcx1082), (2, kcx7), (3, .inr (.inl (0, 40, [], []))), (4, .inr (.inl (0, 40, [], []))), (5, .inr (.inl (0, 40, [], []))), (6, .inr (.inl (0, 40, [], []))), (7, .inr (.inl (0, 40, [], []))), (8, .inr (.inl (0, 40, [], [])))]
def kcx1084 : aw_A := .inr (.inl (0, 6, [(0, 5, [(-1, 40)])], [(0, [(6, 40)])]))
def kch1085 : aw_H := [(0, kcx2), (1, kcx1084), (2, kcx7), (3, .inr (.inl (0, 40, [], []))), (4, .inr (.inl (0, 40, [], []))), (5, .inr (.inl (0, 40, [], []))), (6, .inr (.inl (0, 40, [], []))), (7, .inr (.inl (0, 40, [], []))), (8, .inr (.inl (0, 40, [], [])))]
def kcx1086 : aw_A := .inr (.inl (0, 6, [(0, 5, [(-1, 40)])], [(0, [(7, 40)])]))
def kch1087 : aw_H := [(0, kcx2), (1, kcx1086), (2, kcx7), (3, .inr (.inl (0, 40, [], []))), (4, .inr (.inl (0, 40, [], []))), (5, .inr (.inl (0, 40, [], []))), (6, .inr (.inl (0, 40, [], []))), (7, .inr (.inl (0, 40, [], []))), (8, .inr (.inl (0, 40, [], [])))]
def kcx1088 : aw_A := .inr (.inl (0, 6, [(0, 5, [(-1, 40)])], [(0, [(7, 7)])]))
def kch1089 : aw_H := [(0, kcx2), (1, kcx1088), (2, kcx7), (3, .inr (.inl (0, 40, [], []))), (4, .inr (.inl (0, 40, [], []))), (5, .inr (.inl (0, 40, [], []))), (6, .inr (.inl (0, 40, [], []))), (7, .inr (.inl (0, 40, [], []))), (8, .inr (.inl (0, 40, [], [])))]
def kcx1090 : aw_A := .inr (.inl (0, 6, [(0, 5, [(-1, 40)])], [(0, [(8, 40)])]))
def kch1091 : aw_H := [(0, kcx2), (1, kcx1090), (2, kcx7), (3, .inr (.inl (0, 40, [], []))), (4, .inr (.inl (0, 40, [], []))), (5, .inr (.inl (0, 40, [], []))), (6, .inr (.inl (0, 40, [], []))), (7, .inr (.inl (0, 40, [], []))), (8, .inr (.inl (0, 40, [], [])))]
def kcx1092 : aw_A := .inr (.inl (0, 6, [(0, 5, [(-1, 40)])], [(0, [(8, 8)])]))
def kch1093 : aw_H := [(0, kcx2), (1, kcx1092), (2, kcx7), (3, .inr (.inl (0, 40, [], []))), (4, .inr (.inl (0, 40, [], []))), (5, .inr (.inl (0, 40, [], []))), (6, .inr (.inl (0, 40, [], []))), (7, .inr (.inl (0, 40, [], []))), (8, .inr (.inl (0, 40, [], [])))]
def kcx1094 : aw_A := .inr (.inl (0, 6, [(0, 5, [(-1, 40)])], [(0, [(9, 40)])]))
def kch1095 : aw_H := [(0, kcx2), (1, kcx1094), (2, kcx7), (3, .inr (.inl (0, 40, [], []))), (4, .inr (.inl (0, 40, [], []))), (5, .inr (.inl (0, 40, [], []))), (6, .inr (.inl (0, 40, [], []))), (7, .inr (.inl (0, 40, [], []))), (8, .inr (.inl (0, 40, [], [])))]
def kcx1096 : aw_A := .inr (.inl (0, 6, [(0, 5, [(-1, 40)])], [(0, [(9, 9)])]))
def kch1097 : aw_H := [(0, kcx2), (1, kcx1096), (2, kcx7), (3, .inr (.inl (0, 40, [], []))), (4, .inr (.inl (0, 40, [], []))), (5, .inr (.inl (0, 40, [], []))), (6, .inr (.inl (0, 40, [], []))), (7, .inr (.inl (0, 40, [], []))), (8, .inr (.inl (0, 40, [], [])))]
def kcx1098 : aw_A := .inr (.inl (0, 6, [(0, 5, [(-1, 40)])], [(0, [(10, 40)])]))
def kch1099 : aw_H := [(0, kcx2), (1, kcx1098), (2, kcx7), (3, .inr (.inl (0, 40, [], []))), (4, .inr (.inl (0, 40, [], []))), (5, .inr (.inl (0, 40, [], []))), (6, .inr (.inl (0, 40, [], []))), (7, .inr (.inl (0, 40, [], []))), (8, .inr (.inl (0, 40, [], [])))]
def kcx1100 : aw_A := .inr (.inl (0, 6, [(0, 5, [(-1, 40)])], [(0, [(10, 10)])]))
def kch1101 : aw_H := [(0, kcx2), (1, kcx1100), (2, kcx7), (3, .inr (.inl (0, 40, [], []))), (4, .inr (.inl (0, 40, [], []))), (5, .inr (.inl (0, 40, [], []))), (6, .inr (.inl (0, 40, [], []))), (7, .inr (.inl (0, 40, [], []))), (8, .inr (.inl (0, 40, [], [])))]
def kcx1102 : aw_A := .inr (.inl (0, 6, [(0, 5, [(-1, 40)])], [(0, [(11, 40)])]))
def kch1103 : aw_H := [(0, kcx2), (1, kcx1102), (2, kcx7), (3, .inr (.inl (0, 40, [], []))), (4, .inr (.inl (0, 40, [], []))), (5, .inr (.inl (0, 40, [], []))), (6, .inr (.inl (0, 40, [], []))), (7, .inr (.inl (0, 40, [], []))), (8, .inr (.inl (0, 40, [], [])))]
def kcx1104 : aw_A := .inr (.inl (0, 6, [(0, 5, [(-1, 40)])], [(0, [(12, 40)])]))
def kch1105 : aw_H := [(0, kcx2), (1, kcx1104), (2, kcx7), (3, .inr (.inl (0, 40, [], []))), (4, .inr (.inl (0, 40, [], []))), (5, .inr (.inl (0, 40, [], []))), (6, .inr (.inl (0, 40, [], []))), (7, .inr (.inl (0, 40, [], []))), (8, .inr (.inl (0, 40, [], [])))]
def kcx1106 : aw_A := .inr (.inl (0, 6, [(0, 5, [(-1, 40)])], [(0, [(12, 12)])]))
def kch1107 : aw_H := [(0, kcx2), (1, kcx1106), (2, kcx7), (3, .inr (.inl (0, 40, [], []))), (4, .inr (.inl (0, 40, [], []))), (5, .inr (.inl (0, 40, [], []))), (6, .inr (.inl (0, 40, [], []))), (7, .inr (.inl (0, 40, [], []))), (8, .inr (.inl (0, 40, [], [])))]
def kcx1108 : aw_A := .inr (.inl (0, 6, [(0, 5, [(-1, 40)])], [(0, [(13, 40)])]))
def kch1109 : aw_H := [(0, kcx2), (1, kcx1108), (2, kcx7), (3, .inr (.inl (0, 40, [], []))), (4, .inr (.inl (0, 40, [], []))), (5, .inr (.inl (0, 40, [], []))), (6, .inr (.inl (0, 40, [], []))), (7, .inr (.inl (0, 40, [], []))), (8, .inr (.inl (0, 40, [], [])))]
def kcx1110 : aw_A := .inr (.inl (0, 6, [(0, 5, [(-1, 40)])], [(0, [(14, 40)])]))
def kch1111 : aw_H := [(0, kcx2), (1, kcx1110), (2, kcx7), (3, .inr (.inl (0, 40, [], []))), (4, .inr (.inl (0, 40, [], []))), (5, .inr (.inl (0, 40, [], []))), (6, .inr (.inl (0, 40, [], []))), (7, .inr (.inl (0, 40, [], []))), (8, .inr (.inl (0, 40, [], [])))]
def kcx1112 : aw_A := .inr (.inl (0, 6, [(0, 5, [(-1, 40)])], [(0, [(15, 40)])]))
def kch1113 : aw_H := [(0, kcx2), (1, kcx1112), (2, kcx7), (3, .inr (.inl (0, 40, [], []))), (4, .inr (.inl (0, 40, [], []))), (5, .inr (.inl (0, 40, [], []))), (6, .inr (.inl (0, 40, [], []))), (7, .inr (.inl (0, 40, [], []))), (8, .inr (.inl (0, 40, [], [])))]
def kcx1114 : aw_A := .inr (.inl (0, 6, [(0, 5, [(-1, 40)])], [(0, [(15, 15)])]))
def kch1115 : aw_H := [(0, kcx2), (1, kcx1114), (2, kcx7), (3, .inr (.inl (0, 40, [], []))), (4, .inr (.inl (0, 40, [], []))), (5, .inr (.inl (0, 40, [], []))), (6, .inr (.inl (0, 40, [], []))), (7, .inr (.inl (0, 40, [], []))), (8, .inr (.inl (0, 40, [], [])))]
def kcx1116 : aw_A := .inr (.inl (0, 6, [(0, 5, [(-1, 40)])], [(0, [(16, 40)])]))
def kch1117 : aw_H := [(0, kcx2), (1, kcx1116), (2, kcx7), (3, .inr (.inl (0, 40, [], []))), (4, .inr (.inl (0, 40, [], []))), (5, .inr (.inl (0, 40, [], []))), (6, .inr (.inl (0, 40, [], []))), (7, .inr (.inl (0, 40, [], []))), (8, .inr (.inl (0, 40, [], [])))]
def kcx1118 : aw_A := .inr (.inl (0, 6, [(0, 5, [(-1, 40)])], [(0, [(16, 16)])]))
def kch1119 : aw_H := [(0, kcx2), (1, kcx1118), (2, kcx7), (3, .inr (.inl (0, 40, [], []))), (4, .inr (.inl (0, 40, [], []))), (5, .inr (.inl (0, 40, [], []))), (6, .inr (.inl (0, 40, [], []))), (7, .inr (.inl (0, 40, [], []))), (8, .inr (.inl (0, 40, [], [])))]
def kcx1120 : aw_A := .inr (.inl (0, 6, [(0, 5, [(-1, 40)])], [(0, [(17, 40)])]))
def kch1121 : aw_H := [(0, kcx2), (1, kcx1120), (2, kcx7), (3, .inr (.inl (0, 40, [], []))), (4, .inr (.inl (0, 40, [], []))), (5, .inr (.inl (0, 40, [], []))), (6, .inr (.inl (0, 40, [], []))), (7, .inr (.inl (0, 40, [], []))), (8, .inr (.inl (0, 40, [], [])))]
def kcx1122 : aw_A := .inr (.inl (0, 6, [(0, 5, [(-1, 40)])], [(0, [(18, 40)])]))
def kch1123 : aw_H := [(0, kcx2), (1, kcx1122), (2, kcx7), (3, .inr (.inl (0, 40, [], []))), (4, .inr (.inl (0, 40, [], []))), (5, .inr (.inl (0, 40, [], []))), (6, .inr (.inl (0, 40, [], []))), (7, .inr (.inl (0, 40, [], []))), (8, .inr (.inl (0, 40, [], [])))]
def kcx1124 : aw_A := .inr (.inl (0, 6, [(0, 5, [(-1, 40)])], [(0, [(18, 18)])]))
def kch1125 : aw_H := [(0, kcx2), (1, kcx1124), (2, kcx7), (3, .inr (.inl (0, 40, [], []))), (4, .inr (.inl (0, 40, [], []))), (5, .inr (.inl (0, 40, [], []))), (6, .inr (.inl (0, 40, [], []))), (7, .inr (.inl (0, 40, [], []))), (8, .inr (.inl (0, 40, [], [])))]
def kcx1126 : aw_A := .inr (.inl (0, 6, [(0, 5, [(-1, 40)])], [(0, [(19, 40)])]))
def kch1127 : aw_H := [(0, kcx2), (1, kcx1126), (2, kcx7), (3, .inr (.inl (0, 40, [], []))), (4, .inr (.inl (0, 40, [], []))), (5, .inr (.inl (0, 40, [], []))), (6, .inr (.inl (0, 40, [], []))), (7, .inr (.inl (0, 40, [], []))), (8, .inr (.inl (0, 40, [], [])))]
def kcx1128 : aw_A := .inr (.inl (0, 6, [(0, 5, [(-1, 40)])], [(0, [(19, 19)])]))
def kch1129 : aw_H := [(0, kcx2), (1, kcx1128), (2, kcx7), (3, .inr (.inl (0, 40, [], []))), (4, .inr (.inl (0, 40, [], []))), (5, .inr (.inl (0, 40, [], []))), (6, .inr (.inl (0, 40, [], []))), (7, .inr (.inl (0, 40, [], []))), (8, .inr (.inl (0, 40, [], [])))]
def kcx1130 : aw_A := .inr (.inl (0, 6, [(0, 5, [(-1, 40)])], [(0, [(20, 40)])]))
def kch1131 : aw_H := [(0, kcx2), (1, kcx1130), (2, kcx7), (3, .inr (.inl (0, 40, [], []))), (4, .inr (.inl (0, 40, [], []))), (5, .inr (.inl (0, 40, [], []))), (6, .inr (.inl (0, 40, [], []))), (7, .inr (.inl (0, 40, [], []))), (8, .inr (.inl (0, 40, [], [])))]
def kcx1132 : aw_A := .inr (.inl (0, 6, [(0, 5, [(-1, 40)])], [(0, [(20, 20)])]))
def kch1133 : aw_H := [(0, kcx2), (1, kcx1132), (2, kcx7), (3, .inr (.inl (0, 40, [], []))), (4, .inr (.inl (0, 40, [], []))), (5, .inr (.inl (0, 40, [], []))), (6, .inr (.inl (0, 40, [], []))), (7, .inr (.inl (0, 40, [], []))), (8, .inr (.inl (0, 40, [], [])))]
def kcx1134 : aw_A := .inr (.inl (0, 6, [(0, 5, [(-1, 40)])], [(0, [(21, 40)])]))
def kch1135 : aw_H := [(0, kcx2), (1, kcx1134), (2, kcx7), (3, .inr (.inl (0, 40, [], []))), (4, .inr (.inl (0, 40, [], []))), (5, .inr (.inl (0, 40, [], []))), (6, .inr (.inl (0, 40, [], []))), (7, .inr (.inl (0, 40, [], []))), (8, .inr (.inl (0, 40, [], [])))]
def kcx1136 : aw_A := .inr (.inl (0, 6, [(0, 5, [(-1, 40)])], [(0, [(22, 40)])]))
def kch1137 : aw_H := [(0, kcx2), (1, kcx1136), (2, kcx7), (3, .inr (.inl (0, 40, [], []))), (4, .inr (.inl (0, 40, [], []))), (5, .inr (.inl (0, 40, [], []))), (6, .inr (.inl (0, 40, [], []))), (7, .inr (.inl (0, 40, [], []))), (8, .inr (.inl (0, 40, [], [])))]
def kcx1138 : aw_A := .inr (.inl (0, 6, [(0, 5, [(-1, 40)])], [(0, [(23, 40)])]))
def kch1139 : aw_H := [(0, kcx2), (1, kcx1138), (2, kcx7), (3, .inr (.inl (0, 40, [], []))), (4, .inr (.inl (0, 40, [], []))), (5, .inr (.inl (0, 40, [], []))), (6, .inr (.inl (0, 40, [], []))), (7, .inr (.inl (0, 40, [], []))), (8, .inr (.inl (0, 40, [], [])))]
def kcx1140 : aw_A := .inr (.inl (0, 6, [(0, 5, [(-1, 40)])], [(0, [(23, 23)])]))
def kch1141 : aw_H := [(0, kcx2), (1, kcx1140), (2, kcx7), (3, .inr (.inl (0, 40, [], []))), (4, .inr (.inl (0, 40, [], []))), (5, .inr (.inl (0, 40, [], []))), (6, .inr (.inl (0, 40, [], []))), (7, .inr (.inl (0, 40, [], []))), (8, .inr (.inl (0, 40, [], [])))]
def kcx1142 : aw_A := .inr (.inl (0, 6, [(0, 5, [(-1, 40)])], [(0, [(24, 40)])]))
def kch1143 : aw_H := [(0, kcx2), (1, kcx1142), (2, kcx7), (3, .inr (.inl (0, 40, [], []))), (4, .inr (.inl (0, 40, [], []))), (5, .inr (.inl (0, 40, [], []))), (6, .inr (.inl (0, 40, [], []))), (7, .inr (.inl (0, 40, [], []))), (8, .inr (.inl (0, 40, [], [])))]
def kcx1144 : aw_A := .inr (.inl (0, 6, [(0, 5, [(-1, 40)])], [(0, [(25, 40)])]))
def kch1145 : aw_H := [(0, kcx2), (1, kcx1144), (2, kcx7), (3, .inr (.inl (0, 40, [], []))), (4, .inr (.inl (0, 40, [], []))), (5, .inr (.inl (0, 40, [], []))), (6, .inr (.inl (0, 40, [], []))), (7, .inr (.inl (0, 40, [], []))), (8, .inr (.inl (0, 40, [], [])))]
def kcx1146 : aw_A := .inr (.inl (0, 6, [(0, 5, [(-1, 40)])], [(0, [(26, 40)])]))
def kch1147 : aw_H := [(0, kcx2), (1, kcx1146), (2, kcx7), (3, .inr (.inl (0, 40, [], []))), (4, .inr (.inl (0, 40, [], []))), (5, .inr (.inl (0, 40, [], []))), (6, .inr (.inl (0, 40, [], []))), (7, .inr (.inl (0, 40, [], []))), (8, .inr (.inl (0, 40, [], [])))]
def kcx1148 : aw_A := .inr (.inl (0, 6, [(0, 5, [(-1, 40)])], [(0, [(26, 26)])]))
def kch1149 : aw_H := [(0, kcx2), (1, kcx1148), (2, kcx7), (3, .inr (.inl (0, 40, [], []))), (4, .inr (.inl (0, 40, [], []))), (5, .inr (.inl (0, 40, [], []))), (6, .inr (.inl (0, 40, [], []))), (7, .inr (.inl (0, 40, [], []))), (8, .inr (.inl (0, 40, [], [])))]
def kcx1150 : aw_A := .inr (.inl (0, 6, [(0, 5, [(-1, 40)])], [(0, [(27, 40)])]))
def kch1151 : aw_H := [(0, kcx2), (1, kcx1150), (2, kcx7), (3, .inr (.inl (0, 40, [], []))), (4, .inr (.inl (0, 40, [], []))), (5, .inr (.inl (0, 40, [], []))), (6, .inr (.inl (0, 40, [], []))), (7, .inr (.inl (0, 40, [], []))), (8, .inr (.inl (0, 40, [], [])))]
def kcx1152 : aw_A := .inr (.inl (0, 6, [(0, 5, [(-1, 40)])], [(0, [(28, 40)])]))
def kch1153 : aw_H := [(0, kcx2), (1, kcx1152), (2, kcx7), (3, .inr (.inl (0, 40, [], []))), (4, .inr (.inl (0, 40, [], []))), (5, .inr (.inl (0, 40, [], []))), (6, .inr (.inl (0, 40, [], []))), (7, .inr (.inl (0, 40, [], []))), (8, .inr (.inl (0, 40, [], [])))]
def kcx1154 : aw_A := .inr (.inl (0, 6, [(0, 5, [(-1, 40)])], [(0, [(28, 28)])]))
def kch1155 : aw_H := [(0, kcx2), (1, kcx1154), (2, kcx7), (3, .inr (.inl (0, 40, [], []))), (4, .inr (.inl (0, 40, [], []))), (5, .inr (.inl (0, 40, [], []))), (6, .inr (.inl (0, 40, [], []))), (7, .inr (.inl (0, 40, [], []))), (8, .inr (.inl (0, 40, [], [])))]
def kcx1156 : aw_A := .inr (.inl (0, 6, [(0, 5, [(-1, 40)])], [(0, [(29, 40)])]))
def kch1157 : aw_H := [(0, kcx2), (1, kcx1156), (2, kcx7), (3, .inr (.inl (0, 40, [], []))), (4, .inr (.inl (0, 40, [], []))), (5, .inr (.inl (0, 40, [], []))), (6, .inr (.inl (0, 40, [], []))), (7, .inr (.inl (0, 40, [], []))), (8, .inr (.inl (0, 40, [], [])))]
def kcx1158 : aw_A := .inr (.inl (0, 6, [(0, 5, [(-1, 40)])], [(0, [(29, 29)])]))
def kch1159 : aw_H := [(0, kcx2), (1, kcx1158), (2, kcx7), (3, .inr (.inl (0, 40, [], []))), (4, .inr (.inl (0, 40, [], []))), (5, .inr (.inl (0, 40, [], []))), (6, .inr (.inl (0, 40, [], []))), (7, .inr (.inl (0, 40, [], []))), (8, .inr (.inl (0, 40, [], [])))]
def kcx1160 : aw_A := .inr (.inl (0, 6, [(0, 5, [(-1, 40)])], [(0, [(30, 40)])]))
def kch1161 : aw_H := [(0, kcx2), (1, kcx1160), (2, kcx7), (3, .inr (.inl (0, 40, [], []))), (4, .inr (.inl (0, 40, [], []))), (5, .inr (.inl (0, 40, [], []))), (6, .inr (.inl (0, 40, [], []))), (7, .inr (.inl (0, 40, [], []))), (8, .inr (.inl (0, 40, [], [])))]
def kcx1162 : aw_A := .inr (.inl (0, 6, [(0, 5, [(-1, 40)])], [(0, [(31, 40)])]))
def kch1163 : aw_H := [(0, kcx2), (1, kcx1162), (2, kcx7), (3, .inr (.inl (0, 40, [], []))), (4, .inr (.inl (0, 40, [], []))), (5, .inr (.inl (0, 40, [], []))), (6, .inr (.inl (0, 40, [], []))), (7, .inr (.inl (0, 40, [], []))), (8, .inr (.inl (0, 40, [], [])))]
def kcx1164 : aw_A := .inr (.inl (0, 6, [(0, 5, [(-1, 40)])], [(0, [(31, 31)])]))
def kch1165 : aw_H := [(0, kcx2), (1, kcx1164), (2, kcx7), (3, .inr (.inl (0, 40, [], []))), (4, .inr (.inl (0, 40, [], []))), (5, .inr (.inl (0, 40, [], []))), (6, .inr (.inl (0, 40, [], []))), (7, .inr (.inl (0, 40, [], []))), (8, .inr (.inl (0, 40, [], [])))]
def kcx1166 : aw_A := .inr (.inl (0, 6, [(0, 5, [(-1, 40)])], [(0, [(32, 40)])]))
def kch1167 : aw_H := [(0, kcx2), (1, kcx1166), (2, kcx7), (3, .inr (.inl (0, 40, [], []))), (4, .inr (.inl (0, 40, [], []))), (5, .inr (.inl (0, 40, [], []))), (6, .inr (.inl (0, 40, [], []))), (7, .inr (.inl (0, 40, [], []))), (8, .inr (.inl (0, 40, [], [])))]
def kcx1168 : aw_A := .inr (.inl (0, 6, [(0, 5, [(-1, 40)])], [(0, [(32, 32)])]))
def kch1169 : aw_H := [(0, kcx2), (1, kcx1168), (2, kcx7), (3, .inr (.inl (0, 40, [], []))), (4, .inr (.inl (0, 40, [], []))), (5, .inr (.inl (0, 40, [], []))), (6, .inr (.inl (0, 40, [], []))), (7, .inr (.inl (0, 40, [], []))), (8, .inr (.inl (0, 40, [], [])))]
def kcx1170 : aw_A := .inr (.inl (0, 6, [(0, 5, [(-1, 40)])], [(0, [(33, 40)])]))
def kch1171 : aw_H := [(0, kcx2), (1, kcx1170), (2, kcx7), (3, .inr (.inl (0, 40, [], []))), (4, .inr (.inl (0, 40, [], []))), (5, .inr (.inl (0, 40, [], []))), (6, .inr (.inl (0, 40, [], []))), (7, .inr (.inl (0, 40, [], []))), (8, .inr (.inl (0, 40, [], [])))]
def kcx1172 : aw_A := .inr (.inl (0, 6, [(0, 5, [(-1, 40)])], [(0, [(34, 40)])]))
def kch1173 : aw_H := [(0, kcx2), (1, kcx1172), (2, kcx7), (3, .inr (.inl (0, 40, [], []))), (4, .inr (.inl (0, 40, [], []))), (5, .inr (.inl (0, 40, [], []))), (6, .inr (.inl (0, 40, [], []))), (7, .inr (.inl (0, 40, [], []))), (8, .inr (.inl (0, 40, [], [])))]
def kcx1174 : aw_A := .inr (.inl (0, 6, [(0, 5, [(-1, 40)])], [(0, [(35, 40)])]))
def kch1175 : aw_H := [(0, kcx2), (1, kcx1174), (2, kcx7), (3, .inr (.inl (0, 40, [], []))), (4, .inr (.inl (0, 40, [], []))), (5, .inr (.inl (0, 40, [], []))), (6, .inr (.inl (0, 40, [], []))), (7, .inr (.inl (0, 40, [], []))), (8, .inr (.inl (0, 40, [], [])))]
def kcx1176 : aw_A := .inr (.inl (0, 6, [(0, 5, [(-1, 40)])], [(0, [(35, 35)])]))
def kch1177 : aw_H := [(0, kcx2), (1, kcx1176), (2, kcx7), (3, .inr (.inl (0, 40, [], []))), (4, .inr (.inl (0, 40, [], []))), (5, .inr (.inl (0, 40, [], []))), (6, .inr (.inl (0, 40, [], []))), (7, .inr (.inl (0, 40, [], []))), (8, .inr (.inl (0, 40, [], [])))]
def kcx1178 : aw_A := .inr (.inl (0, 6, [(0, 5, [(-1, 40)])], [(0, [(36, 40)])]))
def kch1179 : aw_H := [(0, kcx2), (1, kcx1178), (2, kcx7), (3, .inr (.inl (0, 40, [], []))), (4, .inr (.inl (0, 40, [], []))), (5, .inr (.inl (0, 40, [], []))), (6, .inr (.inl (0, 40, [], []))), (7, .inr (.inl (0, 40, [], []))), (8, .inr (.inl (0, 40, [], [])))]
def kcx1180 : aw_A := .inr (.inl (0, 6, [(0, 5, [(-1, 40)])], [(0, [(36, 36)])]))
def kch1181 : aw_H := [(0, kcx2), (1, kcx1180), (2, kcx7), (3, .inr (.inl (0, 40, [], []))), (4, .inr (.inl (0, 40, [], []))), (5, .inr (.inl (0, 40, [], []))), (6, .inr (.inl (0, 40, [], []))), (7, .inr (.inl (0, 40, [], []))), (8, .inr (.inl (0, 40, [], [])))]
def kcx1182 : aw_A := .inr (.inl (0, 6, [(0, 5, [(-1, 40)])], [(0, [(37, 40)])]))
def kch1183 : aw_H := [(0, kcx2), (1, kcx1182), (2, kcx7), (3, .inr (.inl (0, 40, [], []))), (4, .inr (.inl (0, 40, [], []))), (5, .inr (.inl (0, 40, [], []))), (6, .inr (.inl (0, 40, [], []))), (7, .inr (.inl (0, 40, [], []))), (8, .inr (.inl (0, 40, [], [])))]
def kcx1184 : aw_A := .inr (.inl (0, 6, [(0, 5, [(-1, 40)])], [(0, [(38, 40)])]))
def kch1185 : aw_H := [(0, kcx2), (1, kcx1184), (2, kcx7), (3, .inr (.inl (0, 40, [], []))), (4, .inr (.inl (0, 40, [], []))), (5, .inr (.inl (0, 40, [], []))), (6, .inr (.inl (0, 40, [], []))), (7, .inr (.inl (0, 40, [], []))), (8, .inr (.inl (0, 40, [], [])))]
def kcx1186 : aw_A := .inr (.inl (0, 6, [(0, 5, [(-1, 40)])], [(0, [(39, 40)])]))
def kch1187 : aw_H := [(0, kcx2), (1, kcx1186), (2, kcx7), (3, .inr (.inl (0, 40, [], []))), (4, .inr (.inl (0, 40, [], []))), (5, .inr (.inl (0, 40, [], []))), (6, .inr (.inl (0, 40, [], []))), (7, .inr (.inl (0, 40, [], []))), (8, .inr (.inl (0, 40, [], [])))]
def kcx1188 : aw_A := .inr (.inl (0, 6, [(0, 5, [(-1, 40)])], [(0, [(39, 39)])]))
def kch1189 : aw_H := [(0, kcx2), (1, kcx1188), (2, kcx7), (3, .inr (.inl (0, 40, [], []))), (4, .inr (.inl (0, 40, [], []))), (5, .inr (.inl (0, 40, [], []))), (6, .inr (.inl (0, 40, [], []))), (7, .inr (.inl (0, 40, [], []))), (8, .inr (.inl (0, 40, [], [])))]
def kcx1190 : aw_A := .inr (.inl (0, 6, [(0, 5, [(-1, 40)])], [(0, [(40, 40)])]))
def kch1191 : aw_H := [(0, kcx2), (1, kcx1190), (2, kcx7), (3, .inr (.inl (0, 40, [], []))), (4, .inr (.inl (0, 40, [], []))), (5, .inr (.inl (0, 40, [], []))), (6, .inr (.inl (0, 40, [], []))), (7, .inr (.inl (0, 40, [], []))), (8, .inr (.inl (0, 40, [], [])))]
def kcx1192 : aw_A := .inr (.inl (0, 6, [(0, 5, [(-1, 40)])], [(0, [(38, 38)])]))
def kch1193 : aw_H := [(0, kcx2), (1, kcx1192), (2, kcx7), (3, .inr (.inl (0, 40, [], []))), (4, .inr (.inl (0, 40, [], []))), (5, .inr (.inl (0, 40, [], []))), (6, .inr (.inl (0, 40, [], []))), (7, .inr (.inl (0, 40, [], []))), (8, .inr (.inl (0, 40, [], [])))]
def kcx1194 : aw_A := .inr (.inl (0, 6, [(0, 5, [(-1, 40)])], [(0, [(37, 37)])]))
def kch1195 : aw_H := [(0, kcx2), (1, kcx1194), (2, kcx7), (3, .inr (.inl (0, 40, [], []))), (4, .inr (.inl (0, 40, [], []))), (5, .inr (.inl (0, 40, [], []))), (6, .inr (.inl (0, 40, [], []))), (7, .inr (.inl (0, 40, [], []))), (8, .inr (.inl (0, 40, [], [])))]
def kcx1196 : aw_A := .inr (.inl (0, 6, [(0, 5, [(-1, 40)])], [(0, [(34, 34)])]))
def kch1197 : aw_H := [(0, kcx2), (1, kcx1196), (2, kcx7), (3, .inr (.inl (0, 40, [], []))), (4, .inr (.inl (0, 40, [], []))), (5, .inr (.inl (0, 40, [], []))), (6, .inr (.inl (0, 40, [], []))), (7, .inr (.inl (0, 40, [], []))), (8, .inr (.inl (0, 40, [], [])))]
def kcx1198 : aw_A := .inr (.inl (0, 6, [(0, 5, [(-1, 40)])], [(0, [(33, 33)])]))
def kch1199 : aw_H := [(0, kcx2), (1, kcx1198), (2, kcx7), (3, .inr (.inl (0, 40, [], []))), (4, .inr (.inl (0, 40, [], []))), (5, .inr (.inl (0, 40, [], []))), (6, .inr (.inl (0, 40, [], []))), (7, .inr (.inl (0, 40, [], []))), (8, .inr (.inl (0, 40, [], [])))]
def kcx1200 : aw_A := .inr (.inl (0, 6, [(0, 5, [(-1, 40)])], [(0, [(30, 30)])]))
def kch1201 : aw_H := [(0, kcx2), (1, kcx1200), (2, kcx7), (3, .inr (.inl (0, 40, [], []))), (4, .inr (.inl (0, 40, [], []))), (5, .inr (.inl (0, 40, [], []))), (6, .inr (.inl (0, 40, [], []))), (7, .inr (.inl (0, 40, [], []))), (8, .inr (.inl (0, 40, [], [])))]
def kcx1202 : aw_A := .inr (.inl (0, 6, [(0, 5, [(-1, 40)])], [(0, [(27, 27)])]))
def kch1203 : aw_H := [(0, kcx2), (1, kcx1202), (2, kcx7), (3, .inr (.inl (0, 40, [], []))), (4, .inr (.inl (0, 40, [], []))), (5, .inr (.inl (0, 40, [], []))), (6, .inr (.inl (0, 40, [], []))), (7, .inr (.inl (0, 40, [], []))), (8, .inr (.inl (0, 40, [], [])))]
def kcx1204 : aw_A := .inr (.inl (0, 6, [(0, 5, [(-1, 40)])], [(0, [(25, 25)])]))
def kch1205 : aw_H := [(0, kcx2), (1, kcx1204), (2, kcx7), (3, .inr (.inl (0, 40, [], []))), (4, .inr (.inl (0, 40, [], []))), (5, .inr (.inl (0, 40, [], []))), (6, .inr (.inl (0, 40, [], []))), (7, .inr (.inl (0, 40, [], []))), (8, .inr (.inl (0, 40, [], [])))]
def kcx1206 : aw_A := .inr (.inl (0, 6, [(0, 5, [(-1, 40)])], [(0, [(24, 24)])]))
def kch1207 : aw_H := [(0, kcx2), (1, kcx1206), (2, kcx7), (3, .inr (.inl (0, 40, [], []))), (4, .inr (.inl (0, 40, [], []))), (5, .inr (.inl (0, 40, [], []))), (6, .inr (.inl (0, 40, [], []))), (7, .inr (.inl (0, 40, [], []))), (8, .inr (.inl (0, 40, [], [])))]
def kcx1208 : aw_A := .inr (.inl (0, 6, [(0, 5, [(-1, 40)])], [(0, [(22, 22)])]))
def kch1209 : aw_H := [(0, kcx2), (1, kcx1208), (2, kcx7), (3, .inr (.inl (0, 40, [], []))), (4, .inr (.inl (0, 40, [], []))), (5, .inr (.inl (0, 40, [], []))), (6, .inr (.inl (0, 40, [], []))), (7, .inr (.inl (0, 40, [], []))), (8, .inr (.inl (0, 40, [], [])))]
def kcx1210 : aw_A := .inr (.inl (0, 6, [(0, 5, [(-1, 40)])], [(0, [(21, 21)])]))
def kch1211 : aw_H := [(0, kcx2), (1, kcx1210), (2, kcx7), (3, .inr (.inl (0, 40, [], []))), (4, .inr (.inl (0, 40, [], []))), (5, .inr (.inl (0, 40, [], []))), (6, .inr (.inl (0, 40, [], []))), (7, .inr (.inl (0, 40, [], []))), (8, .inr (.inl (0, 40, [], [])))]
def kcx1212 : aw_A := .inr (.inl (0, 6, [(0, 5, [(-1, 40)])], [(0, [(17, 17)])]))
def kch1213 : aw_H := [(0, kcx2), (1, kcx1212), (2, kcx7), (3, .inr (.inl (0, 40, [], []))), (4, .inr (.inl (0, 40, [], []))), (5, .inr (.inl (0, 40, [], []))), (6, .inr (.inl (0, 40, [], []))), (7, .inr (.inl (0, 40, [], []))), (8, .inr (.inl (0, 40, [], [])))]
def kcx1214 : aw_A := .inr (.inl (0, 6, [(0, 5, [(-1, 40)])], [(0, [(14, 14)])]))
def kch1215 : aw_H := [(0, kcx2), (1, kcx1214), (2, kcx7), (3, .inr (.inl (0, 40, [], []))), (4, .inr (.inl (0, 40, [], []))), (5, .inr (.inl (0, 40, [], []))), (6, .inr (.inl (0, 40, [], []))), (7, .inr (.inl (0, 40, [], []))), (8, .inr (.inl (0, 40, [], [])))]
def kcx1216 : aw_A := .inr (.inl (0, 6, [(0, 5, [(-1, 40)])], [(0, [(13, 13)])]))
def kch1217 : aw_H := [(0, kcx2), (1, kcx1216), (2, kcx7), (3, .inr (.inl (0, 40, [], []))), (4, .inr (.inl (0, 40, [], []))), (5, .inr (.inl (0, 40, [], []))), (6, .inr (.inl (0, 40, [], []))), (7, .inr (.inl (0, 40, [], []))), (8, .inr (.inl (0, 40, [], [])))]
def kcx1218 : aw_A := .inr (.inl (0, 6, [(0, 5, [(-1, 40)])], [(0, [(11, 11)])]))
def kch1219 : aw_H := [(0, kcx2), (1, kcx1218), (2, kcx7), (3, .inr (.inl (0, 40, [], []))), (4, .inr (.inl (0, 40, [], []))), (5, .inr (.inl (0, 40, [], []))), (6, .inr (.inl (0, 40, [], []))), (7, .inr (.inl (0, 40, [], []))), (8, .inr (.inl (0, 40, [], [])))]
def kcx1220 : aw_A := .inr (.inl (0, 6, [(0, 5, [(-1, 40)])], [(0, [(6, 6)])]))
def kch1221 : aw_H := [(0, kcx2), (1, kcx1220), (2, kcx7), (3, .inr (.inl (0, 40, [], []))), (4, .inr (.inl (0, 40, [], []))), (5, .inr (.inl (0, 40, [], []))), (6, .inr (.inl (0, 40, [], []))), (7, .inr (.inl (0, 40, [], []))), (8, .inr (.inl (0, 40, [], [])))]
def kcx1222 : aw_A := .inr (.inl (0, 6, [(0, 5, [(-1, 40)])], [(0, [(5, 5)])]))
def kch1223 : aw_H := [(0, kcx2), (1, kcx1222), (2, kcx7), (3, .inr (.inl (0, 40, [], []))), (4, .inr (.inl (0, 40, [], []))), (5, .inr (.inl (0, 40, [], []))), (6, .inr (.inl (0, 40, [], []))), (7, .inr (.inl (0, 40, [], []))), (8, .inr (.inl (0, 40, [], [])))]
def kcx1224 : aw_A := .inr (.inl (0, 6, [(0, 5, [(-1, 40)])], [(0, [(-1, 0)])]))
def kch1225 : aw_H := [(0, kcx2), (1, kcx1224), (2, kcx7), (3, .inr (.inl (0, 40, [], []))), (4, .inr (.inl (0, 40, [], []))), (5, .inr (.inl (0, 40, [], []))), (6, .inr (.inl (0, 40, [], []))), (7, .inr (.inl (0, 40, [], []))), (8, .inr (.inl (0, 40, [], [])))]
def kcx1226 : aw_A := .inr (.inl (0, 6, [(0, 5, [(-1, 40)])], [(0, [(-1, 40)])]))
def kch1227 : aw_H := [(0, kcx2), (1, kcx1226), (2, kcx7), (3, .inr (.inl (0, 40, [], []))), (4, .inr (.inl (0, 40, [], []))), (5, .inr (.inl (0, 40, [], []))), (6, .inr (.inl (0, 40, [], []))), (7, .inr (.inl (0, 40, [], []))), (8, .inr (.inl (0, 40, [], [])))]
def kcx1228 : aw_A := .inr (.inl (0, 6, [(0, 5, [(-1, 40)])], [(1, [(1, 40)]), (0, [(-1, 40)])]))
def kch1229 : aw_H := [(0, kcx2), (1, kcx1228), (2, kcx7), (3, .inr (.inl (0, 40, [], []))), (4, .inr (.inl (0, 40, [], []))), (5, .inr (.inl (0, 40, [], []))), (6, .inr (.inl (0, 40, [], []))), (7, .inr (.inl (0, 40, [], []))), (8, .inr (.inl (0, 40, [], [])))]
def kcx1230 : aw_A := .inr (.inl (0, 6, [(0, 5, [(-1, 40)])], [(1, [(1, 1)]), (0, [(-1, 40)])]))
def kch1231 : aw_H := [(0, kcx2), (1, kcx1230), (2, kcx7), (3, .inr (.inl (0, 40, [], []))), (4, .inr (.inl (0, 40, [], []))), (5, .inr (.inl (0, 40, [], []))), (6, .inr (.inl (0, 40, [], []))), (7, .inr (.inl (0, 40, [], []))), (8, .inr (.inl (0, 40, [], [])))]
def kcx1232 : aw_A := .inr (.inl (0, 6, [(0, 5, [(-1, 40)])], [(1, [(2, 40)]), (0, [(-1, 40)])]))
def kch1233 : aw_H := [(0, kcx2), (1, kcx1232), (2, kcx7), (3, .inr (.inl (0, 40, [], []))), (4, .inr (.inl (0, 40, [], []))), (5, .inr (.inl (0, 40, [], []))), (6, .inr (.inl (0, 40, [], []))), (7, .inr (.inl (0, 40, [], []))), (8, .inr (.inl (0, 40, [], [])))]
def kcx1234 : aw_A := .inr (.inl (0, 6, [(0, 5, [(-1, 40)])], [(1, [(3, 40)]), (0, [(-1, 40)])]))
def kch1235 : aw_H := [(0, kcx2), (1, kcx1234), (2, kcx7), (3, .inr (.inl (0, 40, [], []))), (4, .inr (.inl (0, 40, [], []))), (5, .inr (.inl (0, 40, [], []))), (6, .inr (.inl (0, 40, [], []))), (7, .inr (.inl (0, 40, [], []))), (8, .inr (.inl (0, 40, [], [])))]
def kcx1236 : aw_A := .inr (.inl (0, 6, [(0, 5, [(-1, 40)])], [(1, [(4, 40)]), (0, [(-1, 40)])]))
def kch1237 : aw_H := [(0, kcx2), (1, kcx1236), (2, kcx7), (3, .inr (.inl (0, 40, [], []))), (4, .inr (.inl (0, 40, [], []))), (5, .inr (.inl (0, 40, [], []))), (6, .inr (.inl (0, 40, [], []))), (7, .inr (.inl (0, 40, [], []))), (8, .inr (.inl (0, 40, [], [])))]
def kcx1238 : aw_A := .inr (.inl (0, 6, [(0, 5, [(-1, 40)])], [(1, [(5, 40)]), (0, [(-1, 40)])]))
def kch1239 : aw_H := [(0, kcx2), (1, kcx1238), (2, kcx7), (3, .inr (.inl (0, 40, [], []))), (4, .inr (.inl (0, 40, [], []))), (5, .inr (.inl (0, 40, [], []))), (6, .inr (.inl (0, 40, [], []))), (7, .inr (.inl (0, 40, [], []))), (8, .inr (.inl (0, 40, [], [])))]
def kcx1240 : aw_A := .inr (.inl (0, 6, [(0, 5, [(-1, 40)])], [(1, [(6, 40)]), (0, [(-1, 40)])]))
def kch1241 : aw_H := [(0, kcx2), (1, kcx1240), (2, kcx7), (3, .inr (.inl (0, 40, [], []))), (4, .inr (.inl (0, 40, [], []))), (5, .inr (.inl (0, 40, [], []))), (6, .inr (.inl (0, 40, [], []))), (7, .inr (.inl (0, 40, [], []))), (8, .inr (.inl (0, 40, [], [])))]
def kcx1242 : aw_A := .inr (.inl (0, 6, [(0, 5, [(-1, 40)])], [(1, [(7, 40)]), (0, [(-1, 40)])]))
def kch1243 : aw_H := [(0, kcx2), (1, kcx1242), (2, kcx7), (3, .inr (.inl (0, 40, [], []))), (4, .inr (.inl (0, 40, [], []))), (5, .inr (.inl (0, 40, [], []))), (6, .inr (.inl (0, 40, [], []))), (7, .inr (.inl (0, 40, [], []))), (8, .inr (.inl (0, 40, [], [])))]
def kcx1244 : aw_A := .inr (.inl (0, 6, [(0, 5, [(-1, 40)])], [(1, [(8, 40)]), (0, [(-1, 40)])]))
def kch1245 : aw_H := [(0, kcx2), (1, kcx1244), (2, kcx7), (3, .inr (.inl (0, 40, [], []))), (4, .inr (.inl (0, 40, [], []))), (5, .inr (.inl (0, 40, [], []))), (6, .inr (.inl (0, 40, [], []))), (7, .inr (.inl (0, 40, [], []))), (8, .inr (.inl (0, 40, [], [])))]
def kcx1246 : aw_A := .inr (.inl (0, 6, [(0, 5, [(-1, 40)])], [(1, [(9, 40)]), (0, [(-1, 40)])]))
def kch1247 : aw_H := [(0, kcx2), (1, kcx1246), (2, kcx7), (3, .inr (.inl (0, 40, [], []))), (4, .inr (.inl (0, 40, [], []))), (5, .inr (.inl (0, 40, [], []))), (6, .inr (.inl (0, 40, [], []))), (7, .inr (.inl (0, 40, [], []))), (8, .inr (.inl (0, 40, [], [])))]
def kcx1248 : aw_A := .inr (.inl (0, 6, [(0, 5, [(-1, 40)])], [(1, [(10, 40)]), (0, [(-1, 40)])]))
def kch1249 : aw_H := [(0, kcx2), (1, kcx1248), (2, kcx7), (3, .inr (.inl (0, 40, [], []))), (4, .inr (.inl (0, 40, [], []))), (5, .inr (.inl (0, 40, [], []))), (6, .inr (.inl (0, 40, [], []))), (7, .inr (.inl (0, 40, [], []))), (8, .inr (.inl (0, 40, [], [])))]
def kcx1250 : aw_A := .inr (.inl (0, 6, [(0, 5, [(-1, 40)])], [(1, [(10, 10)]), (0, [(-1, 40)])]))
def kch1251 : aw_H := [(0, kcx2), (1, kcx1250), (2, kcx7), (3, .inr (.inl (0, 40, [], []))), (4, .inr (.inl (0, 40, [], []))), (5, .inr (.inl (0, 40, [], []))), (6, .inr (.inl (0, 40, [], []))), (7, .inr (.inl (0, 40, [], []))), (8, .inr (.inl (0, 40, [], [])))]
def kcx1252 : aw_A := .inr (.inl (0, 6, [(0, 5, [(-1, 40)])], [(1, [(11, 40)]), (0, [(-1, 40)])]))
def kch1253 : aw_H := [(0, kcx2), (1, kcx1252), (2, kcx7), (3, .inr (.inl (0, 40, [], []))), (4, .inr (.inl (0, 40, [], []))), (5, .inr (.inl (0, 40, [], []))), (6, .inr (.inl (0, 40, [], []))), (7, .inr (.inl (0, 40, [], []))), (8, .inr (.inl (0, 40, [], [])))]
def kcx1254 : aw_A := .inr (.inl (0, 6, [(0, 5, [(-1, 40)])], [(1, [(12, 40)]), (0, [(-1, 40)])]))
def kch1255 : aw_H := [(0, kcx2), (1, kcx1254), (2, kcx7), (3, .inr (.inl (0, 40, [], []))), (4, .inr (.inl (0, 40, [], []))), (5, .inr (.inl (0, 40, [], []))), (6, .inr (.inl (0, 40, [], []))), (7, .inr (.inl (0, 40, [], []))), (8, .inr (.inl (0, 40, [], [])))]
def kcx1256 : aw_A := .inr (.inl (0, 6, [(0, 5, [(-1, 40)])], [(1, [(13, 40)]), (0, [(-1, 40)])]))
def kch1257 : aw_H := [(0, kcx2), (1, kcx1256), (2, kcx7), (3, .inr (.inl (0, 40, [], []))), (4, .inr (.inl (0, 40, [], []))), (5, .inr (.inl (0, 40, [], []))), (6, .inr (.inl (0, 40, [], []))), (7, .inr (.inl (0, 40, [], []))), (8, .inr (.inl (0, 40, [], [])))]
def kcx1258 : aw_A := .inr (.inl (0, 6, [(0, 5, [(-1, 40)])], [(1, [(14, 40)]), (0, [(-1, 40)])]))
def kch1259 : aw_H := [(0, kcx2), (1, kcx1258), (2, kcx7), (3, .inr (.inl (0, 40, [], []))), (4, .inr (.inl (0, 40, [], []))), (5, .inr (.inl (0, 40, [], []))), (6, .inr (.inl (0, 40, [], []))), (7, .inr (.inl (0, 40, [], []))), (8, .inr (.inl (0, 40, [], [])))]
def kcx1260 : aw_A := .inr (.inl (0, 6, [(0, 5, [(-1, 40)])], [(1, [(15, 40)]), (0, [(-1, 40)])]))
def kch1261 : aw_H := [(0, kcx2), (1, kcx1260), (2, kcx7), (3, .inr (.inl (0, 40, [], []))), (4, .inr (.inl (0, 40, [], []))), (5, .inr (.inl (0, 40, [], []))), (6, .inr (.inl (0, 40, [], []))), (7, .inr (.inl (0, 40, [], []))), (8, .inr (.inl (0, 40, [], [])))]
def kcx1262 : aw_A := .inr (.inl (0, 6, [(0, 5, [(-1, 40)])], [(1, [(16, 40)]), (0, [(-1, 40)])]))
def kch1263 : aw_H := [(0, kcx2), (1, kcx1262), (2, kcx7), (3, .inr (.inl (0, 40, [], []))), (4, .inr (.inl (0, 40, [], []))), (5, .inr (.inl (0, 40, [], []))), (6, .inr (.inl (0, 40, [], []))), (7, .inr (.inl (0, 40, [], []))), (8, .inr (.inl (0, 40, [], [])))]
def kcx1264 : aw_A := .inr (.inl (0, 6, [(0, 5, [(-1, 40)])], [(1, [(17, 40)]), (0, [(-1, 40)])]))
def kch1265 : aw_H := [(0, kcx2), (1, kcx1264), (2, kcx7), (3, .inr (.inl (0, 40, [], []))), (4, .inr (.inl (0, 40, [], []))), (5, .inr (.inl (0, 40, [], []))), (6, .inr (.inl (0, 40, [], []))), (7, .inr (.inl (0, 40, [], []))), (8, .inr (.inl (0, 40, [], [])))]
def kcx1266 : aw_A := .inr (.inl (0, 6, [(0, 5, [(-1, 40)])], [(1, [(18, 40)]), (0, [(-1, 40)])]))
def kch1267 : aw_H := [(0, kcx2), (1, kcx1266), (2, kcx7), (3, .inr (.inl (0, 40, [], []))), (4, .inr (.inl (0, 40, [], []))), (5, .inr (.inl (0, 40, [], []))), (6, .inr (.inl (0, 40, [], []))), (7, .inr (.inl (0, 40, [], []))), (8, .inr (.inl (0, 40, [], [])))]
def kcx1268 : aw_A := .inr (.inl (0, 6, [(0, 5, [(-1, 40)])], [(1, [(18, 18)]), (0, [(-1, 40)])]))
def kch1269 : aw_H := [(0, kcx2), (1, kcx1268), (2, kcx7), (3, .inr (.inl (0, 40, [], []))), (4, .inr (.inl (0, 40, [], []))), (5, .inr (.inl (0, 40, [], []))), (6, .inr (.inl (0, 40, [], []))), (7, .inr (.inl (0, 40, [], []))), (8, .inr (.inl (0, 40, [], [])))]
def kcx1270 : aw_A := .inr (.inl (0, 6, [(0, 5, [(-1, 40)])], [(1, [(19, 40)]), (0, [(-1, 40)])]))
def kch1271 : aw_H := [(0, kcx2), (1, kcx1270), (2, kcx7), (3, .inr (.inl (0, 40, [], []))), (4, .inr (.inl (0, 40, [], []))), (5, .inr (.inl (0, 40, [], []))), (6, .inr (.inl (0, 40, [], []))), (7, .inr (.inl (0, 40, [], []))), (8, .inr (.inl (0, 40, [], [])))]
def kcx1272 : aw_A := .inr (.inl (0, 6, [(0, 5, [(-1, 40)])], [(1, [(20, 40)]), (0, [(-1, 40)])]))
def kch1273 : aw_H := [(0, kcx2), (1, kcx1272), (2, kcx7), (3, .inr (.inl (0, 40, [], []))), (4, .inr (.inl (0, 40, [], []))), (5, .inr (.inl (0, 40, [], []))), (6, .inr (.inl (0, 40, [], []))), (7, .inr (.inl (0, 40, [], []))), (8, .inr (.inl (0, 40, [], [])))]
def kcx1274 : aw_A := .inr (.inl (0, 6, [(0, 5, [(-1, 40)])], [(1, [(21, 40)]), (0, [(-1, 40)])]))
def kch1275 : aw_H := [(0, kcx2), (1, kcx1274), (2, kcx7), (3, .inr (.inl (0, 40, [], []))), (4, .inr (.inl (0, 40, [], []))), (5, .inr (.inl (0, 40, [], []))), (6, .inr (.inl (0, 40, [], []))), (7, .inr (.inl (0, 40, [], []))), (8, .inr (.inl (0, 40, [], [])))]
def kcx1276 : aw_A := .inr (.inl (0, 6, [(0, 5, [(-1, 40)])], [(1, [(22, 40)]), (0, [(-1, 40)])]))
def kch1277 : aw_H := [(0, kcx2), (1, kcx1276), (2, kcx7), (3, .inr (.inl (0, 40, [], []))), (4, .inr (.inl (0, 40, [], []))), (5, .inr (.inl (0, 40, [], []))), (6, .inr (.inl (0, 40, [], []))), (7, .inr (.inl (0, 40, [], []))), (8, .inr (.inl (0, 40, [], [])))]
def kcx1278 : aw_A := .inr (.inl (0, 6, [(0, 5, [(-1, 40)])], [(1, [(23, 40)]), (0, [(-1, 40)])]))
def kch1279 : aw_H := [(0, kcx2), (1, kcx1278), (2, kcx7), (3, .inr (.inl (0, 40, [], []))), (4, .inr (.inl (0, 40, [], []))), (5, .inr (.inl (0, 40, [], []))), (6, .inr (.inl (0, 40, [], []))), (7, .inr (.inl (0, 40, [], []))), (8, .inr (.inl (0, 40, [], [])))]
def kcx1280 : aw_A := .inr (.inl (0, 6, [(0, 5, [(-1, 40)])], [(1, [(24, 40)]), (0, [(-1, 40)])]))
def kch1281 : aw_H := [(0, kcx2), (1, kcx1280), (2, kcx7), (3, .inr (.inl (0, 40, [], []))), (4, .inr (.inl (0, 40, [], []))), (5, .inr (.inl (0, 40, [], []))), (6, .inr (.inl (0, 40, [], []))), (7, .inr (.inl (0, 40, [], []))), (8, .inr (.inl (0, 40, [], [])))]
def kcx1282 : aw_A := .inr (.inl (0, 6, [(0, 5, [(-1, 40)])], [(1, [(25, 40)]), (0, [(-1, 40)])]))
def kch1283 : aw_H := [(0, kcx2), (1, kcx1282), (2, kcx7), (3, .inr (.inl (0, 40, [], []))), (4, .inr (.inl (0, 40, [], []))), (5, .inr (.inl (0, 40, [], []))), (6, .inr (.inl (0, 40, [], []))), (7, .inr (.inl (0, 40, [], []))), (8, .inr (.inl (0, 40, [], [])))]
def kcx1284 : aw_A := .inr (.inl (0, 6, [(0, 5, [(-1, 40)])], [(1, [(26, 40)]), (0, [(-1, 40)])]))
def kch1285 : aw_H := [(0, kcx2), (1, kcx1284), (2, kcx7), (3, .inr (.inl (0, 40, [], []))), (4, .inr (.inl (0, 40, [], []))), (5, .inr (.inl (0, 40, [], []))), (6, .inr (.inl (0, 40, [], []))), (7, .inr (.inl (0, 40, [], []))), (8, .inr (.inl (0, 40, [], [])))]
def kcx1286 : aw_A := .inr (.inl (0, 6, [(0, 5, [(-1, 40)])], [(1, [(26, 26)]), (0, [(-1, 40)])]))
def kch1287 : aw_H := [(0, kcx2), (1, kcx1286), (2, kcx7), (3, .inr (.inl (0, 40, [], []))), (4, .inr (.inl (0, 40, [], []))), (5, .inr (.inl (0, 40, [], []))), (6, .inr (.inl (0, 40, [], []))), (7, .inr (.inl (0, 40, [], []))), (8, .inr (.inl (0, 40, [], [])))]
def kcx1288 : aw_A := .inr (.inl (0, 6, [(0, 5, [(-1, 40)])], [(1, [(27, 40)]), (0, [(-1, 40)])]))
def kch1289 : aw_H := [(0, kcx2), (1, kcx1288), (2, kcx7), (3, .inr (.inl (0, 40, [], []))), (4, .inr (.inl (0, 40, [], []))), (5, .inr (.inl (0, 40, [], []))), (6, .inr (.inl (0, 40, [], []))), (7, .inr (.inl (0, 40, [], []))), (8, .inr (.inl (0, 40, [], [])))]
def kcx1290 : aw_A := .inr (.inl (0, 6, [(0, 5, [(-1, 40)])], [(1, [(28, 40)]), (0, [(-1, 40)])]))
def kch1291 : aw_H := [(0, kcx2), (1, kcx1290), (2, kcx7), (3, .inr (.inl (0, 40, [], []))), (4, .inr (.inl (0, 40, [], []))), (5, .inr (.inl (0, 40, [], []))), (6, .inr (.inl (0, 40, [], []))), (7, .inr (.inl (0, 40, [], []))), (8, .inr (.inl (0, 40, [], [])))]
def kcx1292 : aw_A := .inr (.inl (0, 6, [(0, 5, [(-1, 40)])], [(1, [(29, 40)]), (0, [(-1, 40)])]))
def kch1293 : aw_H := [(0, kcx2), (1, kcx1292), (2, kcx7), (3, .inr (.inl (0, 40, [], []))), (4, .inr (.inl (0, 40, [], []))), (5, .inr (.inl (0, 40, [], []))), (6, .inr (.inl (0, 40, [], []))), (7, .inr (.inl (0, 40, [], []))), (8, .inr (.inl (0, 40, [], [])))]
def kcx1294 : aw_A := .inr (.inl (0, 6, [(0, 5, [(-1, 40)])], [(1, [(30, 40)]), (0, [(-1, 40)])]))
def kch1295 : aw_H := [(0, kcx2), (1, kcx1294), (2, kcx7), (3, .inr (.inl (0, 40, [], []))), (4, .inr (.inl (0, 40, [], []))), (5, .inr (.inl (0, 40, [], []))), (6, .inr (.inl (0, 40, [], []))), (7, .inr (.inl (0, 40, [], []))), (8, .inr (.inl (0, 40, [], [])))]
def kcx1296 : aw_A := .inr (.inl (0, 6, [(0, 5, [(-1, 40)])], [(1, [(31, 40)]), (0, [(-1, 40)])]))
def kch1297 : aw_H := [(0, kcx2), (1, kcx1296), (2, kcx7), (3, .inr (.inl (0, 40, [], []))), (4, .inr (.inl (0, 40, [], []))), (5, .inr (.inl (0, 40, [], []))), (6, .inr (.inl (0, 40, [], []))), (7, .inr (.inl (0, 40, [], []))), (8, .inr (.inl (0, 40, [], [])))]
def kcx1298 : aw_A := .inr (.inl (0, 6, [(0, 5, [(-1, 40)])], [(1, [(32, 40)]), (0, [(-1, 40)])]))
def kch1299 : aw_H := [(0, kcx2), (1, kcx1298), (2, kcx7), (3, .inr (.inl (0, 40, [], []))), (4, .inr (.inl (0, 40, [], []))), (5, .inr (.inl (0, 40, [], []))), (6, .inr (.inl (0, 40, [], []))), (7, .inr (.inl (0, 40, [], []))), (8, .inr (.inl (0, 40, [], [])))]
def kcx1300 : aw_A := .inr (.inl (0, 6, [(0, 5, [(-1, 40)])], [(1, [(33, 40)]), (0, [(-1, 40)])]))
def kch1301 : aw_H := [(0, kcx2), (1, kcx1300), (2, kcx7), (3, .inr (.inl (0, 40, [], []))), (4, .inr (.inl (0, 40, [], []))), (5, .inr (.inl (0, 40, [], []))), (6, .inr (.inl (0, 40, [], []))), (7, .inr (.inl (0, 40, [], []))), (8, .inr (.inl (0, 40, [], [])))]
def kcx1302 : aw_A := .inr (.inl (0, 6, [(0, 5, [(-1, 40)])], [(1, [(34, 40)]), (0, [(-1, 40)])]))
def kch1303 : aw_H := [(0, kcx2), (1, kcx1302), (2, kcx7), (3, .inr (.inl (0, 40, [], []))), (4, .inr (.inl (0, 40, [], []))), (5, .inr (.inl (0, 40, [], []))), (6, .inr (.inl (0, 40, [], []))), (7, .inr (.inl (0, 40, [], []))), (8, .inr (.inl (0, 40, [], [])))]
def kcx1304 : aw_A := .inr (.inl (0, 6, [(0, 5, [(-1, 40)])], [(1, [(34, 34)]), (0, [(-1, 40)])]))
def kch1305 : aw_H := [(0, kcx2), (1, kcx1304), (2, kcx7), (3, .inr (.inl (0, 40, [], []))), (4, .inr (.inl (0, 40, [], []))), (5, .inr (.inl (0, 40, [], []))), (6, .inr (.inl (0, 40, [], []))), (7, .inr (.inl (0, 40, [], []))), (8, .inr (.inl (0, 40, [], [])))]
def kcx1306 : aw_A := .inr (.inl (0, 6, [(0, 5, [(-1, 40)])], [(1, [(35, 40)]), (0, [(-1, 40)])]))
def kch1307 : aw_H := [(0, kcx2), (1, kcx1306), (2, kcx7), (3, .inr (.inl (0, 40, [], []))), (4, .inr (.inl (0, 40, [], []))), (5, .inr (.inl (0, 40, [], []))), (6, .inr (.inl (0, 40, [], []))), (7, .inr (.inl (0, 40, [], []))), (8, .inr (.inl (0, 40, [], [])))]
def kcx1308 : aw_A := .inr (.inl (0, 6, [(0, 5, [(-1, 40)])], [(1, [(36, 40)]), (0, [(-1, 40)])]))
def kch1309 : aw_H := [(0, kcx2), (1, kcx1308), (2, kcx7), (3, .inr (.inl (0, 40, [], []))), (4, .inr (.inl (0, 40, [], []))), (5, .inr (.inl (0, 40, [], []))), (6, .inr (.inl (0, 40, [], []))), (7, .inr (.inl (0, 40, [], []))), (8, .inr (.inl (0, 40, [], [])))]
def kcx1310 : aw_A := .inr (.inl (0, 6, [(0, 5, [(-1, 40)])], [(1, [(37, 40)]), (0, [(-1, 40)])]))
def kch1311 : aw_H := [(0, kcx2), (1, kcx1310), (2, kcx7), (3, .inr (.inl (0, 40, [], []))), (4, .inr (.inl (0, 40, [], []))), (5, .inr (.inl (0, 40, [], []))), (6, .inr (.inl (0, 40, [], []))), (7, .inr (.inl (0, 40, [], []))), (8, .inr (.inl (0, 40, [], [])))]
def kcx1312 : aw_A := .inr (.inl (0, 6, [(0, 5, [(-1, 40)])], [(1, [(38, 40)]), (0, [(-1, 40)])]))
def kch1313 : aw_H := [(0, kcx2), (1, kcx1312), (2, kcx7), (3, .inr (.inl (0, 40, [], []))), (4, .inr (.inl (0, 40, [], []))), (5, .inr (.inl (0, 40, [], []))), (6, .inr (.inl (0, 40, [], []))), (7, .inr (.inl (0, 40, [], []))), (8, .inr (.inl (0, 40, [], [])))]
def kcx1314 : aw_A := .inr (.inl (0, 6, [(0, 5, [(-1, 40)])], [(1, [(39, 40)]), (0, [(-1, 40)])]))
def kch1315 : aw_H := [(0, kcx2), (1, kcx1314), (2, kcx7), (3, .inr (.inl (0, 40, [], []))), (4, .inr (.inl (0, 40, [], []))), (5, .inr (.inl (0, 40, [], []))), (6, .inr (.inl (0, 40, [], []))), (7, .inr (.inl (0, 40, [], []))), (8, .inr (.inl (0, 40, [], [])))]
def kcx1316 : aw_A := .inr (.inl (0, 6, [(0, 5, [(-1, 40)])], [(1, [(40, 40)]), (0, [(-1, 40)])]))
def kch1317 : aw_H := [(0, kcx2), (1, kcx1316), (2, kcx7), (3, .inr (.inl (0, 40, [], []))), (4, .inr (.inl (0, 40, [], []))), (5, .inr (.inl (0, 40, [], []))), (6, .inr (.inl (0, 40, [], []))), (7, .inr (.inl (0, 40, [], []))), (8, .inr (.inl (0, 40, [], [])))]
def kcx1318 : aw_A := .inr (.inl (0, 6, [(0, 5, [(-1, 40)])], [(1, [(39, 39)]), (0, [(-1, 40)])]))
def kch1319 : aw_H := [(0, kcx2), (1, kcx1318), (2, kcx7), (3, .inr (.inl (0, 40, [], []))), (4, .inr (.inl (0, 40, [], []))), (5, .inr (.inl (0, 40, [], []))), (6, .inr (.inl (0, 40, [], []))), (7, .inr (.inl (0, 40, [], []))), (8, .inr (.inl (0, 40, [], [])))]
def kcx1320 : aw_A := .inr (.inl (0, 6, [(0, 5, [(-1, 40)])], [(1, [(38, 38)]), (0, [(-1, 40)])]))
def kch1321 : aw_H := [(0, kcx2), (1, kcx1320), (2, kcx7), (3, .inr (.inl (0, 40, [], []))), (4, .inr (.inl (0, 40, [], []))), (5, .inr (.inl (0, 40, [], []))), (6, .inr (.inl (0, 40, [], []))), (7, .inr (.inl (0, 40, [], []))), (8, .inr (.inl (0, 40, [], [])))]
def kcx1322 : aw_A := .inr (.inl (0, 6, [(0, 5, [(-1, 40)])], [(1, [(37, 37)]), (0, [(-1, 40)])]))
def kch1323 : aw_H := [(0, kcx2), (1, kcx1322), (2, kcx7), (3, .inr (.inl (0, 40, [], []))), (4, .inr (.inl (0, 40, [], []))), (5, .inr (.inl (0, 40, [], []))), (6, .inr (.inl (0, 40, [], []))), (7, .inr (.inl (0, 40, [], []))), (8, .inr (.inl (0, 40, [], [])))]
def kcx1324 : aw_A := .inr (.inl (0, 6, [(0, 5, [(-1, 40)])], [(1, [(36, 36)]), (0, [(-1, 40)])]))
def kch1325 : aw_H := [(0, kcx2), (1, kcx1324), (2, kcx7), (3, .inr (.inl (0, 40, [], []))), (4, .inr (.inl (0, 40, [], []))), (5, .inr (.inl (0, 40, [], []))), (6, .inr (.inl (0, 40, [], []))), (7, .inr (.inl (0, 40, [], []))), (8, .inr (.inl (0, 40, [], [])))]
def kcx1326 : aw_A := .inr (.inl (0, 6, [(0, 5, [(-1, 40)])], [(1, [(35, 35)]), (0, [(-1, 40)])]))
def kch1327 : aw_H := [(0, kcx2), (1, kcx1326), (2, kcx7), (3, .inr (.inl (0, 40, [], []))), (4, .inr (.inl (0, 40, [], []))), (5, .inr (.inl (0, 40, [], []))), (6, .inr (.inl (0, 40, [], []))), (7, .inr (.inl (0, 40, [], []))), (8, .inr (.inl (0, 40, [], [])))]
def kcx1328 : aw_A := .inr (.inl (0, 6, [(0, 5, [(-1, 40)])], [(1, [(33, 33)]), (0, [(-1, 40)])]))
def kch1329 : aw_H := [(0, kcx2), (1, kcx1328), (2, kcx7), (3, .inr (.inl (0, 40, [], []))), (4, .inr (.inl (0, 40, [], []))), (5, .inr (.inl (0, 40, [], []))), (6, .inr (.inl (0, 40, [], []))), (7, .inr (.inl (0, 40, [], []))), (8, .inr (.inl (0, 40, [], [])))]
def kcx1330 : aw_A := .inr (.inl (0, 6, [(0, 5, [(-1, 40)])], [(1, [(32, 32)]), (0, [(-1, 40)])]))
def kch1331 : aw_H := [(0, kcx2), (1, kcx1330), (2, kcx7), (3, .inr (.inl (0, 40, [], []))), (4, .inr (.inl (0, 40, [], []))), (5, .inr (.inl (0, 40, [], []))), (6, .inr (.inl (0, 40, [], []))), (7, .inr (.inl (0, 40, [], []))), (8, .inr (.inl (0, 40, [], [])))]
def kcx1332 : aw_A := .inr (.inl (0, 6, [(0, 5, [(-1, 40)])], [(1, [(31, 31)]), (0, [(-1, 40)])]))
def kch1333 : aw_H := [(0, kcx2), (1, kcx1332), (2, kcx7), (3, .inr (.inl (0, 40, [], []))), (4, .inr (.inl (0, 40, [], []))), (5, .inr (.inl (0, 40, [], []))), (6, .inr (.inl (0, 40, [], []))), (7, .inr (.inl (0, 40, [], []))), (8, .inr (.inl (0, 40, [], [])))]
def kcx1334 : aw_A := .inr (.inl (0, 6, [(0, 5, [(-1, 40)])], [(1, [(30, 30)]), (0, [(-1, 40)])]))
def kch1335 : aw_H := [(0, kcx2), (1, kcx1334), (2, kcx7), (3, .inr (.inl (0, 40, [], []))), (4, .inr (.inl (0, 40, [], []))), (5, .inr (.inl (0, 40, [], []))), (6, .inr (.inl (0, 40, [], []))), (7, .inr (.inl (0, 40, [], []))), (8, .inr (.inl (0, 40, [], [])))]
def kcx1336 : aw_A := .inr (.inl (0, 6, [(0, 5, [(-1, 40)])], [(1, [(29, 29)]), (0, [(-1, 40)])]))
def kch1337 : aw_H := [(0, kcx2), (1, kcx1336), (2, kcx7), (3, .inr (.inl (0, 40, [], []))), (4, .inr (.inl (0, 40, [], []))), (5, .inr (.inl (0, 40, [], []))), (6, .inr (.inl (0, 40, [], []))), (7, .inr (.inl (0, 40, [], []))), (8, .inr (.inl (0, 40, [], [])))]
def kcx1338 : aw_A := .inr (.inl (0, 6, [(0, 5, [(-1, 40)])], [(1, [(28, 28)]), (0, [(-1, 40)])]))
def kch1339 : aw_H := [(0, kcx2), (1, kcx1338), (2, kcx7), (3, .inr (.inl (0, 40, [], []))), (4, .inr (.inl (0, 40, [], []))), (5, .inr (.inl (0, 40, [], []))), (6, .inr (.inl (0, 40, [], []))), (7, .inr (.inl (0, 40, [], []))), (8, .inr (.inl (0, 40, [], [])))]
def kcx1340 : aw_A := .inr (.inl (0, 6, [(0, 5, [(-1, 40)])], [(1, [(27, 27)]), (0, [(-1, 40)])]))
def kch1341 : aw_H := [(0, kcx2), (1, kcx1340), (2, kcx7), (3, .inr (.inl (0, 40, [], []))), (4, .inr (.inl (0, 40, [], []))), (5, .inr (.inl (0, 40, [], []))), (6, .inr (.inl (0, 40, [], []))), (7, .inr (.inl (0, 40, [], []))), (8, .inr (.inl (0, 40, [], [])))]
def kcx1342 : aw_A := .inr (.inl (0, 6, [(0, 5, [(-1, 40)])], [(1, [(25, 25)]), (0, [(-1, 40)])]))
def kch1343 : aw_H := [(0, kcx2), (1, kcx1342), (2, kcx7), (3, .inr (.inl (0, 40, [], []))), (4, .inr (.inl (0, 40, [], []))), (5, .inr (.inl (0, 40, [], []))), (6, .inr (.inl (0, 40, [], []))), (7, .inr (.inl (0, 40, [], []))), (8, .inr (.inl (0, 40, [], [])))]
def kcx1344 : aw_A := .inr (.inl (0, 6, [(0, 5, [(-1, 40)])], [(1, [(24, 24)]), (0, [(-1, 40)])]))
def kch1345 : aw_H := [(0, kcx2), (1, kcx1344), (2, kcx7), (3, .inr (.inl (0, 40, [], []))), (4, .inr (.inl (0, 40, [], []))), (5, .inr (.inl (0, 40, [], []))), (6, .inr (.inl (0, 40, [], []))), (7, .inr (.inl (0, 40, [], []))), (8, .inr (.inl (0, 40, [], [])))]
def kcx1346 : aw_A := .inr (.inl (0, 6, [(0, 5, [(-1, 40)])], [(1, [(23, 23)]), (0, [(-1, 40)])]))
def kch1347 : aw_H := [(0, kcx2), (1, kcx1346), (2, kcx7), (3, .inr (.inl (0, 40, [], []))), (4, .inr (.inl (0, 40, [], []))), (5, .inr (.inl (0, 40, [], []))), (6, .inr (.inl (0, 40, [], []))), (7, .inr (.inl (0, 40, [], []))), (8, .inr (.inl (0, 40, [], [])))]
def kcx1348 : aw_A := .inr (.inl (0, 6, [(0, 5, [(-1, 40)])], [(1, [(22, 22)]), (0, [(-1, 40)])]))
def kch1349 : aw_H := [(0, kcx2), (1, kcx1348), (2, kcx7), (3, .inr (.inl (0, 40, [], []))), (4, .inr (.inl (0, 40, [], []))), (5, .inr (.inl (0, 40, [], []))), (6, .inr (.inl (0, 40, [], []))), (7, .inr (.inl (0, 40, [], []))), (8, .inr (.inl (0, 40, [], [])))]
def kcx1350 : aw_A := .inr (.inl (0, 6, [(0, 5, [(-1, 40)])], [(1, [(21, 21)]), (0, [(-1, 40)])]))
def kch1351 : aw_H := [(0, kcx2), (1, kcx1350), (2, kcx7), (3, .inr (.inl (0, 40, [], []))), (4, .inr (.inl (0, 40, [], []))), (5, .inr (.inl (0, 40, [], []))), (6, .inr (.inl (0, 40, [], []))), (7, .inr (.inl (0, 40, [], []))), (8, .inr (.inl (0, 40, [], [])))]
def kcx1352 : aw_A := .inr (.inl (0, 6, [(0, 5, [(-1, 40)])], [(1, [(20, 20)]), (0, [(-1, 40)])]))
def kch1353 : aw_H := [(0, kcx2), (1, kcx1352), (2, kcx7), (3, .inr (.inl (0, 40, [], []))), (4, .inr (.inl (0, 40, [], []))), (5, .inr (.inl (0, 40, [], []))), (6, .inr (.inl (0, 40, [], []))), (7, .inr (.inl (0, 40, [], []))), (8, .inr (.inl (0, 40, [], [])))]
def kcx1354 : aw_A := .inr (.inl (0, 6, [(0, 5, [(-1, 40)])], [(1, [(19, 19)]), (0, [(-1, 40)])]))
def kch1355 : aw_H := [(0, kcx2), (1, kcx1354), (2, kcx7), (3, .inr (.inl (0, 40, [], []))), (4, .inr (.inl (0, 40, [], []))), (5, .inr (.inl (0, 40, [], []))), (6, .inr (.inl (0, 40, [], []))), (7, .inr (.inl (0, 40, [], []))), (8, .inr (.inl (0, 40, [], [])))]
def kcx1356 : aw_A := .inr (.inl (0, 6, [(0, 5, [(-1, 40)])], [(1, [(17, 17)]), (0, [(-1, 40)])]))
def kch1357 : aw_H := [(0, kcx2), (1, kcx1356), (2, kcx7), (3, .inr (.inl (0, 40, [], []))), (4, .inr (.inl (0, 40, [], []))), (5, .inr (.inl (0, 40, [], []))), (6, .inr (.inl (0, 40, [], []))), (7, .inr (.inl (0, 40, [], []))), (8, .inr (.inl (0, 40, [], [])))]
def kcx1358 : aw_A := .inr (.inl (0, 6, [(0, 5, [(-1, 40)])], [(1, [(16, 16)]), (0, [(-1, 40)])]))
def kch1359 : aw_H := [(0, kcx2), (1, kcx1358), (2, kcx7), (3, .inr (.inl (0, 40, [], []))), (4, .inr (.inl (0, 40, [], []))), (5, .inr (.inl (0, 40, [], []))), (6, .inr (.inl (0, 40, [], []))), (7, .inr (.inl (0, 40, [], []))), (8, .inr (.inl (0, 40, [], [])))]
def kcx1360 : aw_A := .inr (.inl (0, 6, [(0, 5, [(-1, 40)])], [(1, [(15, 15)]), (0, [(-1, 40)])]))
def kch1361 : aw_H := [(0, kcx2), (1, kcx1360), (2, kcx7), (3, .inr (.inl (0, 40, [], []))), (4, .inr (.inl (0, 40, [], []))), (5, .inr (.inl (0, 40, [], []))), (6, .inr (.inl (0, 40, [], []))), (7, .inr (.inl (0, 40, [], []))), (8, .inr (.inl (0, 40, [], [])))]
def kcx1362 : aw_A := .inr (.inl (0, 6, [(0, 5, [(-1, 40)])], [(1, [(14, 14)]), (0, [(-1, 40)])]))
def kch1363 : aw_H := [(0, kcx2), (1, kcx1362), (2, kcx7), (3, .inr (.inl (0, 40, [], []))), (4, .inr (.inl (0, 40, [], []))), (5, .inr (.inl (0, 40, [], []))), (6, .inr (.inl (0, 40, [], []))), (7, .inr (.inl (0, 40, [], []))), (8, .inr (.inl (0, 40, [], [])))]
def kcx1364 : aw_A := .inr (.inl (0, 6, [(0, 5, [(-1, 40)])], [(1, [(13, 13)]), (0, [(-1, 40)])]))
def kch1365 : aw_H := [(0, kcx2), (1, kcx1364), (2, kcx7), (3, .inr (.inl (0, 40, [], []))), (4, .inr (.inl (0, 40, [], []))), (5, .inr (.inl (0, 40, [], []))), (6, .inr (.inl (0, 40, [], []))), (7, .inr (.inl (0, 40, [], []))), (8, .inr (.inl (0, 40, [], [])))]
def kcx1366 : aw_A := .inr (.inl (0, 6, [(0, 5, [(-1, 40)])], [(1, [(12, 12)]), (0, [(-1, 40)])]))
def kch1367 : aw_H := [(0, kcx2), (1, kcx1366), (2, kcx7), (3, .inr (.inl (0, 40, [], []))), (4, .inr (.inl (0, 40, [], []))), (5, .inr (.inl (0, 40, [], []))), (6, .inr (.inl (0, 40, [], []))), (7, .inr (.inl (0, 40, [], []))), (8, .inr (.inl (0, 40, [], [])))]
def kcx1368 : aw_A := .inr (.inl (0, 6, [(0, 5, [(-1, 40)])], [(1, [(11, 11)]), (0, [(-1, 40)])]))
def kch1369 : aw_H := [(0, kcx2), (1, kcx1368), (2, kcx7), (3, .inr (.inl (0, 40, [], []))), (4, .inr (.inl (0, 40, [], []))), (5, .inr (.inl (0, 40, [], []))), (6, .inr (.inl (0, 40, [], []))), (7, .inr (.inl (0, 40, [], []))), (8, .inr (.inl (0, 40, [], [])))]
def kcx1370 : aw_A := .inr (.inl (0, 6, [(0, 5, [(-1, 40)])], [(1, [(9, 9)]), (0, [(-1, 40)])]))
def kch1371 : aw_H := [(0, kcx2), (1, kcx1370), (2, kcx7), (3, .inr (.inl (0, 40, [], []))), (4, .inr (.inl (0, 40, [], []))), (5, .inr (.inl (0, 40, [], []))), (6, .inr (.inl (0, 40, [], []))), (7, .inr (.inl (0, 40, [], []))), (8, .inr (.inl (0, 40, [], [])))]
def kcx1372 : aw_A := .inr (.inl (0, 6, [(0, 5, [(-1, 40)])], [(1, [(8, 8)]), (0, [(-1, 40)])]))
def kch1373 : aw_H := [(0, kcx2), (1, kcx1372), (2, kcx7), (3, .inr (.inl (0, 40, [], []))), (4, .inr (.inl (0, 40, [], []))), (5, .inr (.inl (0, 40, [], []))), (6, .inr (.inl (0, 40, [], []))), (7, .inr (.inl (0, 40, [], []))), (8, .inr (.inl (0, 40, [], [])))]
def kcx1374 : aw_A := .inr (.inl (0, 6, [(0, 5, [(-1, 40)])], [(1, [(7, 7)]), (0, [(-1, 40)])]))
def kch1375 : aw_H := [(0, kcx2), (1, kcx1374), (2, kcx7), (3, .inr (.inl (0, 40, [], []))), (4, .inr (.inl (0, 40, [], []))), (5, .inr (.inl (0, 40, [], []))), (6, .inr (.inl (0, 40, [], []))), (7, .inr (.inl (0, 40, [], []))), (8, .inr (.inl (0, 40, [], [])))]
def kcx1376 : aw_A := .inr (.inl (0, 6, [(0, 5, [(-1, 40)])], [(1, [(6, 6)]), (0, [(-1, 40)])]))
def kch1377 : aw_H := [(0, kcx2), (1, kcx1376), (2, kcx7), (3, .inr (.inl (0, 40, [], []))), (4, .inr (.inl (0, 40, [], []))), (5, .inr (.inl (0, 40, [], []))), (6, .inr (.inl (0, 40, [], []))), (7, .inr (.inl (0, 40, [], []))), (8, .inr (.inl (0, 40, [], [])))]
def kcx1378 : aw_A := .inr (.inl (0, 6, [(0, 5, [(-1, 40)])], [(1, [(5, 5)]), (0, [(-1, 40)])]))
def kch1379 : aw_H := [(0, kcx2), (1, kcx1378), (2, kcx7), (3, .inr (.inl (0, 40, [], []))), (4, .inr (.inl (0, 40, [], []))), (5, .inr (.inl (0, 40, [], []))), (6, .inr (.inl (0, 40, [], []))), (7, .inr (.inl (0, 40, [], []))), (8, .inr (.inl (0, 40, [], [])))]
def kcx1380 : aw_A := .inr (.inl (0, 6, [(0, 5, [(-1, 40)])], [(1, [(4, 4)]), (0, [(-1, 40)])]))
def kch1381 : aw_H := [(0, kcx2), (1, kcx1380), (2, kcx7), (3, .inr (.inl (0, 40, [], []))), (4, .inr (.inl (0, 40, [], []))), (5, .inr (.inl (0, 40, [], []))), (6, .inr (.inl (0, 40, [], []))), (7, .inr (.inl (0, 40, [], []))), (8, .inr (.inl (0, 40, [], [])))]
def kcx1382 : aw_A := .inr (.inl (0, 6, [(0, 5, [(-1, 40)])], [(1, [(3, 3)]), (0, [(-1, 40)])]))
def kch1383 : aw_H := [(0, kcx2), (1, kcx1382), (2, kcx7), (3, .inr (.inl (0, 40, [], []))), (4, .inr (.inl (0, 40, [], []))), (5, .inr (.inl (0, 40, [], []))), (6, .inr (.inl (0, 40, [], []))), (7, .inr (.inl (0, 40, [], []))), (8, .inr (.inl (0, 40, [], [])))]
def kcx1384 : aw_A := .inr (.inl (0, 6, [(0, 5, [(-1, 40)])], [(1, [(2, 2)]), (0, [(-1, 40)])]))
def kch1385 : aw_H := [(0, kcx2), (1, kcx1384), (2, kcx7), (3, .inr (.inl (0, 40, [], []))), (4, .inr (.inl (0, 40, [], []))), (5, .inr (.inl (0, 40, [], []))), (6, .inr (.inl (0, 40, [], []))), (7, .inr (.inl (0, 40, [], []))), (8, .inr (.inl (0, 40, [], [])))]
def kcx1386 : aw_A := .inr (.inl (0, 6, [(0, 5, [(-1, 40)])], [(1, [(-1, 0)]), (0, [(-1, 40)])]))
def kch1387 : aw_H := [(0, kcx2), (1, kcx1386), (2, kcx7), (3, .inr (.inl (0, 40, [], []))), (4, .inr (.inl (0, 40, [], []))), (5, .inr (.inl (0, 40, [], []))), (6, .inr (.inl (0, 40, [], []))), (7, .inr (.inl (0, 40, [], []))), (8, .inr (.inl (0, 40, [], [])))]
def kcx1388 : aw_A := .inr (.inl (0, 6, [(0, 5, [(-1, 40)])], [(0, [(-1, 40)]), (1, [(-1, 40)])]))
def kch1389 : aw_H := [(0, kcx2), (1, kcx1388), (2, kcx7), (3, .inr (.inl (0, 40, [], []))), (4, .inr (.inl (0, 40, [], []))), (5, .inr (.inl (0, 40, [], []))), (6, .inr (.inl (0, 40, [], []))), (7, .inr (.inl (0, 40, [], []))), (8, .inr (.inl (0, 40, [], [])))]
def kcx1390 : aw_A := .inr (.inl (0, 6, [(0, 5, [(-1, 40)])], [(2, [(1, 40)]), (0, [(-1, 40)]), (1, [(-1, 40)])]))
def kch1391 : aw_H := [(0, kcx2), (1, kcx1390), (2, kcx7), (3, .inr (.inl (0, 40, [], []))), (4, .inr (.inl (0, 40, [], []))), (5, .inr (.inl (0, 40, [], []))), (6, .inr (.inl (0, 40, [], []))), (7, .inr (.inl (0, 40, [], []))), (8, .inr (.inl (0, 40, [], [])))]
def kcx1392 : aw_A := .inr (.inl (0, 6, [(0, 5, [(-1, 40)])], [(2, [(2, 40)]), (0, [(-1, 40)]), (1, [(-1, 40)])]))
def kch1393 : aw_H := [(0, kcx2), (1, kcx1392), (2, kcx7), (3, .inr (.inl (0, 40, [], []))), (4, .inr (.inl (0, 40, [], []))), (5, .inr (.inl (0, 40, [], []))), (6, .inr (.inl (0, 40, [], []))), (7, .inr (.inl (0, 40, [], []))), (8, .inr (.inl (0, 40, [], [])))]
def kcx1394 : aw_A := .inr (.inl (0, 6, [(0, 5, [(-1, 40)])], [(2, [(3, 40)]), (0, [(-1, 40)]), (1, [(-1, 40)])]))
def kch1395 : aw_H := [(0, kcx2), (1, kcx1394), (2, kcx7), (3, .inr (.inl (0, 40, [], []))), (4, .inr (.inl (0, 40, [], []))), (5, .inr (.inl (0, 40, [], []))), (6, .inr (.inl (0, 40, [], []))), (7, .inr (.inl (0, 40, [], []))), (8, .inr (.inl (0, 40, [], [])))]
def kcx1396 : aw_A := .inr (.inl (0, 6, [(0, 5, [(-1, 40)])], [(2, [(4, 40)]), (0, [(-1, 40)]), (1, [(-1, 40)])]))
def kch1397 : aw_H := [(0, kcx2), (1, kcx1396), (2, kcx7), (3, .inr (.inl (0, 40, [], []))), (4, .inr (.inl (0, 40, [], []))), (5, .inr (.inl (0, 40, [], []))), (6, .inr (.inl (0, 40, [], []))), (7, .inr (.inl (0, 40, [], []))), (8, .inr (.inl (0, 40, [], [])))]
def kcx1398 : aw_A := .inr (.inl (0, 6, [(0, 5, [(-1, 40)])], [(2, [(4, 4)]), (0, [(-1, 40)]), (1, [(-1, 40)])]))
def kch1399 : aw_H := [(0, kcx2), (1, kcx1398), (2, kcx7), (3, .inr (.inl (0, 40, [], []))), (4, .inr (.inl (0, 40, [], []))), (5, .inr (.inl (0, 40, [], []))), (6, .inr (.inl (0, 40, [], []))), (7, .inr (.inl (0, 40, [], []))), (8, .inr (.inl (0, 40, [], [])))]
def kcx1400 : aw_A := .inr (.inl (0, 6, [(0, 5, [(-1, 40)])], [(2, [(5, 40)]), (0, [(-1, 40)]), (1, [(-1, 40)])]))
def kch1401 : aw_H := [(0, kcx2), (1, kcx1400), (2, kcx7), (3, .inr (.inl (0, 40, [], []))), (4, .inr (.inl (0, 40, [], []))), (5, .inr (.inl (0, 40, [], []))), (6, .inr (.inl (0, 40, [], []))), (7, .inr (.inl (0, 40, [], []))), (8, .inr (.inl (0, 40, [], [])))]
def kcx1402 : aw_A := .inr (.inl (0, 6, [(0, 5, [(-1, 40)])], [(2, [(6, 40)]), (0, [(-1, 40)]), (1, [(-1, 40)])]))
def kch1403 : aw_H := [(0, kcx2), (1, kcx1402), (2, kcx7), (3, .inr (.inl (0, 40, [], []))), (4, .inr (.inl (0, 40, [], []))), (5, .inr (.inl (0, 40, [], []))), (6, .inr (.inl (0, 40, [], []))), (7, .inr (.inl (0, 40, [], []))), (8, .inr (.inl (0, 40, [], [])))]
def kcx1404 : aw_A := .inr (.inl (0, 6, [(0, 5, [(-1, 40)])], [(2, [(6, 6)]), (0, [(-1, 40)]), (1, [(-1, 40)])]))
def kch1405 : aw_H := [(0, kcx2), (1, kcx1404), (2, kcx7), (3, .inr (.inl (0, 40, [], []))), (4, .inr (.inl (0, 40, [], []))), (5, .inr (.inl (0, 40, [], []))), (6, .inr (.inl (0, 40, [], []))), (7, .inr (.inl (0, 40, [], []))), (8, .inr (.inl (0, 40, [], [])))]
def kcx1406 : aw_A := .inr (.inl (0, 6, [(0, 5, [(-1, 40)])], [(2, [(7, 40)]), (0, [(-1, 40)]), (1, [(-1, 40)])]))
def kch1407 : aw_H := [(0, kcx2), (1, kcx1406), (2, kcx7), (3, .inr (.inl (0, 40, [], []))), (4, .inr (.inl (0, 40, [], []))), (5, .inr (.inl (0, 40, [], []))), (6, .inr (.inl (0, 40, [], []))), (7, .inr (.inl (0, 40, [], []))), (8, .inr (.inl (0, 40, [], [])))]
def kcx1408 : aw_A := .inr (.inl (0, 6, [(0, 5, [(-1, 40)])], [(2, [(7, 7)]), (0, [(-1, 40)]), (1, [(-1, 40)])]))
def kch1409 : aw_H := [(0, kcx2), (1, kcx1408), (2, kcx7), (3, .inr (.inl (0, 40, [], []))), (4, .inr (.inl (0, 40, [], []))), (5, .inr (.inl (0, 40, [], []))), (6, .inr (.inl (0, 40, [], []))), (7, .inr (.inl (0, 40, [], []))), (8, .inr (.inl (0, 40, [], [])))]
def kcx1410 : aw_A := .inr (.inl (0, 6, [(0, 5, [(-1, 40)])], [(2, [(8, 40)]), (0, [(-1, 40)]), (1, [(-1, 40)])]))
def kch1411 : aw_H := [(0, kcx2), (1, kcx1410), (2, kcx7), (3, .inr (.inl (0, 40, [], []))), (4, .inr (.inl (0, 40, [], []))), (5, .inr (.inl (0, 40, [], []))), (6, .inr (.inl (0, 40, [], []))), (7, .inr (.inl (0, 40, [], []))), (8, .inr (.inl (0, 40, [], [])))]
def kcx1412 : aw_A := .inr (.inl (0, 6, [(0, 5, [(-1, 40)])], [(2, [(8, 8)]), (0, [(-1, 40)]), (1, [(-1, 40)])]))
def kch1413 : aw_H := [(0, kcx2), (1, kcx1412), (2, kcx7), (3, .inr (.inl (0, 40, [], []))), (4, .inr (.inl (0, 40, [], []))), (5, .inr (.inl (0, 40, [], []))), (6, .inr (.inl (0, 40, [], []))), (7, .inr (.inl (0, 40, [], []))), (8, .inr (.inl (0, 40, [], [])))]
def kcx1414 : aw_A := .inr (.inl (0, 6, [(0, 5, [(-1, 40)])], [(2, [(9, 40)]), (0, [(-1, 40)]), (1, [(-1, 40)])]))
def kch1415 : aw_H := [(0, kcx2), (1, kcx1414), (2, kcx7), (3, .inr (.inl (0, 40, [], []))), (4, .inr (.inl (0, 40, [], []))), (5, .inr (.inl (0, 40, [], []))), (6, .inr (.inl (0, 40, [], []))), (7, .inr (.inl (0, 40, [], []))), (8, .inr (.inl (0, 40, [], [])))]
def kcx1416 : aw_A := .inr (.inl (0, 6, [(0, 5, [(-1, 40)])], [(2, [(10, 40)]), (0, [(-1, 40)]), (1, [(-1, 40)])]))
def kch1417 : aw_H := [(0, kcx2), (1, kcx1416), (2, kcx7), (3, .inr (.inl (0, 40, [], []))), (4, .inr (.inl (0, 40, [], []))), (5, .inr (.inl (0, 40, [], []))), (6, .inr (.inl (0, 40, [], []))), (7, .inr (.inl (0, 40, [], []))), (8, .inr (.inl (0, 40, [], [])))]
def kcx1418 : aw_A := .inr (.inl (0, 6, [(0, 5, [(-1, 40)])], [(2, [(10, 10)]), (0, [(-1, 40)]), (1, [(-1, 40)])]))
def kch1419 : aw_H := [(0, kcx2), (1, kcx1418), (2, kcx7), (3, .inr (.inl (0, 40, [], []))), (4, .inr (.inl (0, 40, [], []))), (5, .inr (.inl (0, 40, [], []))), (6, .inr (.inl (0, 40, [], []))), (7, .inr (.inl (0, 40, [], []))), (8, .inr (.inl (0, 40, [], [])))]
def kcx1420 : aw_A := .inr (.inl (0, 6, [(0, 5, [(-1, 40)])], [(2, [(11, 40)]), (0, [(-1, 40)]), (1, [(-1, 40)])]))
def kch1421 : aw_H := [(0, kcx2), (1, kcx1420), (2, kcx7), (3, .inr (.inl (0, 40, [], []))), (4, .inr (.inl (0, 40, [], []))), (5, .inr (.inl (0, 40, [], []))), (6, .inr (.inl (0, 40, [], []))), (7, .inr (.inl (0, 40, [], []))), (8, .inr (.inl (0, 40, [], [])))]
def kcx1422 : aw_A := .inr (.inl (0, 6, [(0, 5, [(-1, 40)])], [(2, [(11, 11)]), (0, [(-1, 40)]), (1, [(-1, 40)])]))
def kch1423 : aw_H := [(0, kcx2), (1, kcx1422), (2, kcx7), (3, .inr (.inl (0, 40, [], []))), (4, .inr (.inl (0, 40, [], []))), (5, .inr (.inl (0, 40, [], []))), (6, .inr (.inl (0, 40, [], []))), (7, .inr (.inl (0, 40, [], []))), (8, .inr (.inl (0, 40, [], [])))]
def kcx1424 : aw_A := .inr (.inl (0, 6, [(0, 5, [(-1, 40)])], [(2, [(12, 40)]), (0, [(-1, 40)]), (1, [(-1, 40)])]))
def kch1425 : aw_H := [(0, kcx2), (1, kcx1424), (2, kcx7), (3, .inr (.inl (0, 40, [], []))), (4, .inr (.inl (0, 40, [], []))), (5, .inr (.inl (0, 40, [], []))), (6, .inr (.inl (0, 40, [], []))), (7, .inr (.inl (0, 40, [], []))), (8, .inr (.inl (0, 40, [], [])))]
def kcx1426 : aw_A := .inr (.inl (0, 6, [(0, 5, [(-1, 40)])], [(2, [(13, 40)]), (0, [(-1, 40)]), (1, [(-1, 40)])]))
def kch1427 : aw_H := [(0, kcx2), (1, kcx1426), (2, kcx7), (3, .inr (.inl (0, 40, [], []))), (4, .inr (.inl (0, 40, [], []))), (5, .inr (.inl (0, 40, [], []))), (6, .inr (.inl (0, 40, [], []))), (7, .inr (.inl (0, 40, [], []))), (8, .inr (.inl (0, 40, [], [])))]
def kcx1428 : aw_A := .inr (.inl (0, 6, [(0, 5, [(-1, 40)])], [(2, [(14, 40)]), (0, [(-1, 40)]), (1, [(-1, 40)])]))
def kch1429 : aw_H := [(0, kcx2), (1, kcx1428), (2, kcx7), (3, .inr (.inl (0, 40, [], []))), (4, .inr (.inl (0, 40, [], []))), (5, .inr (.inl (0, 40, [], []))), (6, .inr (.inl (0, 40, [], []))), (7, .inr (.inl (0, 40, [], []))), (8, .inr (.inl (0, 40, [], [])))]
def kcx1430 : aw_A := .inr (.inl (0, 6, [(0, 5, [(-1, 40)])], [(2, [(15, 40)]), (0, [(-1, 40)]), (1, [(-1, 40)])]))
def kch1431 : aw_H := [(0, kcx2), (1, kcx1430), (2, kcx7), (3, .inr (.inl (0, 40, [], []))), (4, .inr (.inl (0, 40, [], []))), (5, .inr (.inl (0, 40, [], []))), (6, .inr (.inl (0, 40, [], []))), (7, .inr (.inl (0, 40, [], []))), (8, .inr (.inl (0, 40, [], [])))]
def kcx1432 : aw_A := .inr (.inl (0, 6, [(0, 5, [(-1, 40)])], [(2, [(15, 15)]), (0, [(-1, 40)]), (1, [(-1, 40)])]))
def kch1433 : aw_H := [(0, kcx2), (1, kcx1432), (2, kcx7), (3, .inr (.inl (0, 40, [], []))), (4, .inr (.inl (0, 40, [], []))), (5, .inr (.inl (0, 40, [], []))), (6, .inr (.inl (0, 40, [], []))), (7, .inr (.inl (0, 40, [], []))), (8, .inr (.inl (0, 40, [], [])))]
def kcx1434 : aw_A := .inr (.inl (0, 6, [(0, 5, [(-1, 40)])], [(2, [(16, 40)]), (0, [(-1, 40)]), (1, [(-1, 40)])]))
def kch1435 : aw_H := [(0, kcx2), (1, kcx1434), (2, kcx7), (3, .inr (.inl (0, 40, [], []))), (4, .inr (.inl (0, 40, [], []))), (5, .inr (.inl (0, 40, [], []))), (6, .inr (.inl (0, 40, [], []))), (7, .inr (.inl (0, 40, [], []))), (8, .inr (.inl (0, 40, [], [])))]
def kcx1436 : aw_A := .inr (.inl (0, 6, [(0, 5, [(-1, 40)])], [(2, [(16, 16)]), (0, [(-1, 40)]), (1, [(-1, 40)])]))
def kch1437 : aw_H := [(0, kcx2), (1, kcx1436), (2, kcx7), (3, .inr (.inl (0, 40, [], []))), (4, .inr (.inl (0, 40, [], []))), (5, .inr (.inl (0, 40, [], []))), (6, .inr (.inl (0, 40, [], []))), (7, .inr (.inl (0, 40, [], []))), (8, .inr (.inl (0, 40, [], [])))]
def kcx1438 : aw_A := .inr (.inl (0, 6, [(0, 5, [(-1, 40)])], [(2, [(17, 40)]), (0, [(-1, 40)]), (1, [(-1, 40)])]))
def kch1439 : aw_H := [(0, kcx2), (1, kcx1438), (2, kcx7), (3, .inr (.inl (0, 40, [], []))), (4, .inr (.inl (0, 40, [], []))), (5, .inr (.inl (0, 40, [], []))), (6, .inr (.inl (0, 40, [], []))), (7, .inr (.inl (0, 40, [], []))), (8, .inr (.inl (0, 40, [], [])))]
def kcx1440 : aw_A := .inr (.inl (0, 6, [(0, 5, [(-1, 40)])], [(2, [(18, 40)]), (0, [(-1, 40)]), (1, [(-1, 40)])]))
def kch1441 : aw_H := [(0, kcx2), (1, kcx1440), (2, kcx7), (3, .inr (.inl (0, 40, [], []))), (4, .inr (.inl (0, 40, [], []))), (5, .inr (.inl (0, 40, [], []))), (6, .inr (.inl (0, 40, [], []))), (7, .inr (.inl (0, 40, [], []))), (8, .inr (.inl (0, 40, [], [])))]
def kcx1442 : aw_A := .inr (.inl (0, 6, [(0, 5, [(-1, 40)])], [(2, [(19, 40)]), (0, [(-1, 40)]), (1, [(-1, 40)])]))
def kch1443 : aw_H := [(0, kcx2), (1, kcx1442), (2, kcx7), (3, .inr (.inl (0, 40, [], []))), (4, .inr (.inl (0, 40, [], []))), (5, .inr (.inl (0, 40, [], []))), (6, .inr (.inl (0, 40, [], []))), (7, .inr (.inl (0, 40, [], []))), (8, .inr (.inl (0, 40, [], [])))]
def kcx1444 : aw_A := .inr (.inl (0, 6, [(0, 5, [(-1, 40)])], [(2, [(19, 19)]), (0, [(-1, 40)]), (1, [(-1, 40)])]))
def kch1445 : aw_H := [(0, kcx2), (1, kcx1444), (2, kcx7), (3, .inr (.inl (0, 40, [], []))), (4, .inr (.inl (0, 40, [], []))), (5, .inr (.inl (0, 40, [], []))), (6, .inr (.inl (0, 40, [], []))), (7, .inr (.inl (0, 40, [], []))), (8, .inr (.inl (0, 40, [], [])))]
def kcx1446 : aw_A := .inr (.inl (0, 6, [(0, 5, [(-1, 40)])], [(2, [(20, 40)]), (0, [(-1, 40)]), (1, [(-1, 40)])]))
def kch1447 : aw_H := [(0, kcx2), (1, kcx1446), (2, kcx7), (3, .inr (.inl (0, 40, [], []))), (4, .inr (.inl (0, 40, [], []))), (5, .inr (.inl (0, 40, [], []))), (6, .inr (.inl (0, 40, [], []))), (7, .inr (.inl (0, 40, [], []))), (8, .inr (.inl (0, 40, [], [])))]
def kcx1448 : aw_A := .inr (.inl (0, 6, [(0, 5, [(-1, 40)])], [(2, [(20, 20)]), (0, [(-1, 40)]), (1, [(-1, 40)])]))
def kch1449 : aw_H := [(0, kcx2), (1, kcx1448), (2, kcx7), (3, .inr (.inl (0, 40, [], []))), (4, .inr (.inl (0, 40, [], []))), (5, .inr (.inl (0, 40, [], []))), (6, .inr (.inl (0, 40, [], []))), (7, .inr (.inl (0, 40, [], []))), (8, .inr (.inl (0, 40, [], [])))]
def kcx1450 : aw_A := .inr (.inl (0, 6, [(0, 5, [(-1, 40)])], [(2, [(21, 40)]), (0, [(-1, 40)]), (1, [(-1, 40)])]))
def kch1451 : aw_H := [(0, kcx2), (1, kcx1450), (2, kcx7), (3, .inr (.inl (0, 40, [], []))), (4, .inr (.inl (0, 40, [], []))), (5, .inr (.inl (0, 40, [], []))), (6, .inr (.inl (0, 40, [], []))), (7, .inr (.inl (0, 40, [], []))), (8, .inr (.inl (0, 40, [], [])))]
def kcx1452 : aw_A := .inr (.inl (0, 6, [(0, 5, [(-1, 40)])], [(2, [(22, 40)]), (0, [(-1, 40)]), (1, [(-1, 40)])]))
def kch1453 : aw_H := [(0, kcx2), (1, kcx1452), (2, kcx7), (3, .inr (.inl (0, 40, [], []))), (4, .inr (.inl (0, 40, [], []))), (5, .inr (.inl (0, 40, [], []))), (6, .inr (.inl (0, 40, [], []))), (7, .inr (.inl (0, 40, [], []))), (8, .inr (.inl (0, 40, [], [])))]
def kcx1454 : aw_A := .inr (.inl (0, 6, [(0, 5, [(-1, 40)])], [(2, [(23, 40)]), (0, [(-1, 40)]), (1, [(-1, 40)])]))
def kch1455 : aw_H := [(0, kcx2), (1, kcx1454), (2, kcx7), (3, .inr (.inl (0, 40, [], []))), (4, .inr (.inl (0, 40, [], []))), (5, .inr (.inl (0, 40, [], []))), (6, .inr (.inl (0, 40, [], []))), (7, .inr (.inl (0, 40, [], []))), (8, .inr (.inl (0, 40, [], [])))]
def kcx1456 : aw_A := .inr (.inl (0, 6, [(0, 5, [(-1, 40)])], [(2, [(24, 40)]), (0, [(-1, 40)]), (1, [(-1, 40)])]))
def kch1457 : aw_H := [(0, kcx2), (1, kcx1456), (2, kcx7), (3, .inr (.inl (0, 40, [], []))), (4, .inr (.inl (0, 40, [], []))), (5, .inr (.inl (0, 40, [], []))), (6, .inr (.inl (0, 40, [], []))), (7, .inr (.inl (0, 40, [], []))), (8, .inr (.inl (0, 40, [], [])))]
def kcx1458 : aw_A := .inr (.inl (0, 6, [(0, 5, [(-1, 40)])], [(2, [(24, 24)]), (0, [(-1, 40)]), (1, [(-1, 40)])]))
def kch1459 : aw_H := [(0, kcx2), (1, kcx1458), (2, kcx7), (3, .inr (.inl (0, 40, [], []))), (4, .inr (.inl (0, 40, [], []))), (5, .inr (.inl (0, 40, [], []))), (6, .inr (.inl (0, 40, [], []))), (7, .inr (.inl (0, 40, [], []))), (8, .inr (.inl (0, 40, [], [])))]
def kcx1460 : aw_A := .inr (.inl (0, 6, [(0, 5, [(-1, 40)])], [(2, [(25, 40)]), (0, [(-1, 40)]), (1, [(-1, 40)])]))
def kch1461 : aw_H := [(0, kcx2), (1, kcx1460), (2, kcx7), (3, .inr (.inl (0, 40, [], []))), (4, .inr (.inl (0, 40, [], []))), (5, .inr (.inl (0, 40, [], []))), (6, .inr (.inl (0, 40, [], []))), (7, .inr (.inl (0, 40, [], []))), (8, .inr (.inl (0, 40, [], [])))]
def kcx1462 : aw_A := .inr (.inl (0, 6, [(0, 5, [(-1, 40)])], [(2, [(26, 40)]), (0, [(-1, 40)]), (1, [(-1, 40)])]))
def kch1463 : aw_H := [(0, kcx2), (1, kcx1462), (2, kcx7), (3, .inr (.inl (0, 40, [], []))), (4, .inr (.inl (0, 40, [], []))), (5, .inr (.inl (0, 40, [], []))), (6, .inr (.inl (0, 40, [], []))), (7, .inr (.inl (0, 40, [], []))), (8, .inr (.inl (0, 40, [], [])))]
def kcx1464 : aw_A := .inr (.inl (0, 6, [(0, 5, [(-1, 40)])], [(2, [(26, 26)]), (0, [(-1, 40)]), (1, [(-1, 40)])]))
def kch1465 : aw_H := [(0, kcx2), (1, kcx1464), (2, kcx7), (3, .inr (.inl (0, 40, [], []))), (4, .inr (.inl (0, 40, [], []))), (5, .inr (.inl (0, 40, [], []))), (6, .inr (.inl (0, 40, [], []))), (7, .inr (.inl (0, 40, [], []))), (8, .inr (.inl (0, 40, [], [])))]
def kcx1466 : aw_A := .inr (.inl (0, 6, [(0, 5, [(-1, 40)])], [(2, [(27, 40)]), (0, [(-1, 40)]), (1, [(-1, 40)])]))
def kch1467 : aw_H := [(0, kcx2), (1, kcx1466), (2, kcx7), (3, .inr (.inl (0, 40, [], []))), (4, .inr (.inl (0, 40, [], []))), (5, .inr (.inl (0, 40, [], []))), (6, .inr (.inl (0, 40, [], []))), (7, .inr (.inl (0, 40, [], []))), (8, .inr (.inl (0, 40, [], [])))]
def kcx1468 : aw_A := .inr (.inl (0, 6, [(0, 5, [(-1, 40)])], [(2, [(27, 27)]), (0, [(-1, 40)]), (1, [(-1, 40)])]))
def kch1469 : aw_H := [(0, kcx2), (1, kcx1468), (2, kcx7), (3, .inr (.inl (0, 40, [], []))), (4, .inr (.inl (0, 40, [], []))), (5, .inr (.inl (0, 40, [], []))), (6, .inr (.inl (0, 40, [], []))), (7, .inr (.inl (0, 40, [], []))), (8, .inr (.inl (0, 40, [], [])))]
def kcx1470 : aw_A := .inr (.inl (0, 6, [(0, 5, [(-1, 40)])], [(2, [(28, 40)]), (0, [(-1, 40)]), (1, [(-1, 40)])]))
def kch1471 : aw_H := [(0, kcx2), (1, kcx1470), (2, kcx7), (3, .inr (.inl (0, 40, [], []))), (4, .inr (.inl (0, 40, [], []))), (5, .inr (.inl (0, 40, [], []))), (6, .inr (.inl (0, 40, [], []))), (7, .inr (.inl (0, 40, [], []))), (8, .inr (.inl (0, 40, [], [])))]
def kcx1472 : aw_A := .inr (.inl (0, 6, [(0, 5, [(-1, 40)])], [(2, [(28, 28)]), (0, [(-1, 40)]), (1, [(-1, 40)])]))
def kch1473 : aw_H := [(0, kcx2), (1, kcx1472), (2, kcx7), (3, .inr (.inl (0, 40, [], []))), (4, .inr (.inl (0, 40, [], []))), (5, .inr (.inl (0, 40, [], []))), (6, .inr (.inl (0, 40, [], []))), (7, .inr (.inl (0, 40, [], []))), (8, .inr (.inl (0, 40, [], [])))]
def kcx1474 : aw_A := .inr (.inl (0, 6, [(0, 5, [(-1, 40)])], [(2, [(29, 40)]), (0, [(-1, 40)]), (1, [(-1, 40)])]))
def kch1475 : aw_H := [(0, kcx2), (1, kcx1474), (2, kcx7), (3, .inr (.inl (0, 40, [], []))), (4, .inr (.inl (0, 40, [], []))), (5, .inr (.inl (0, 40, [], []))), (6, .inr (.inl (0, 40, [], []))), (7, .inr (.inl (0, 40, [], []))), (8, .inr (.inl (0, 40, [], [])))]
def kcx1476 : aw_A := .inr (.inl (0, 6, [(0, 5, [(-1, 40)])], [(2, [(29, 29)]), (0, [(-1, 40)]), (1, [(-1, 40)])]))
def kch1477 : aw_H := [(0, kcx2), (1, kcx1476), (2, kcx7), (3, .inr (.inl (0, 40, [], []))), (4, .inr (.inl (0, 40, [], []))), (5, .inr (.inl (0, 40, [], []))), (6, .inr (.inl (0, 40, [], []))), (7, .inr (.inl (0, 40, [], []))), (8, .inr (.inl (0, 40, [], [])))]
def kcx1478 : aw_A := .inr (.inl (0, 6, [(0, 5, [(-1, 40)])], [(2, [(30, 40)]), (0, [(-1, 40)]), (1, [(-1, 40)])]))
def kch1479 : aw_H := [(0, kcx2), (1, kcx1478), (2, kcx7), (3, .inr (.inl (0, 40, [], []))), (4, .inr (.inl (0, 40, [], []))), (5, .inr (.inl (0, 40, [], []))), (6, .inr (.inl (0, 40, [], []))), (7, .inr (.inl (0, 40, [], []))), (8, .inr (.inl (0, 40, [], [])))]
def kcx1480 : aw_A := .inr (.inl (0, 6, [(0, 5, [(-1, 40)])], [(2, [(31, 40)]), (0, [(-1, 40)]), (1, [(-1, 40)])]))
def kch1481 : aw_H := [(0, kcx2), (1, kcx1480), (2, kcx7), (3, .inr (.inl (0, 40, [], []))), (4, .inr (.inl (0, 40, [], []))), (5, .inr (.inl (0, 40, [], []))), (6, .inr (.inl (0, 40, [], []))), (7, .inr (.inl (0, 40, [], []))), (8, .inr (.inl (0, 40, [], [])))]
def kcx1482 : aw_A := .inr (.inl (0, 6, [(0, 5, [(-1, 40)])], [(2, [(32, 40)]), (0, [(-1, 40)]), (1, [(-1, 40)])]))
def kch1483 : aw_H := [(0, kcx2), (1, kcx1482), (2, kcx7), (3, .inr (.inl (0, 40, [], []))), (4, .inr (.inl (0, 40, [], []))), (5, .inr (.inl (0, 40, [], []))), (6, .inr (.inl (0, 40, [], []))), (7, .inr (.inl (0, 40, [], []))), (8, .inr (.inl (0, 40, [], [])))]
def kcx1484 : aw_A := .inr (.inl (0, 6, [(0, 5, [(-1, 40)])], [(2, [(32, 32)]), (0, [(-1, 40)]), (1, [(-1, 40)])]))
def kch1485 : aw_H := [(0, kcx2), (1, kcx1484), (2, kcx7), (3, .inr (.inl (0, 40, [], []))), (4, .inr (.inl (0, 40, [], []))), (5, .inr (.inl (0, 40, [], []))), (6, .inr (.inl (0, 40, [], []))), (7, .inr (.inl (0, 40, [], []))), (8, .inr (.inl (0, 40, [], [])))]
def kcx1486 : aw_A := .inr (.inl (0, 6, [(0, 5, [(-1, 40)])], [(2, [(33, 40)]), (0, [(-1, 40)]), (1, [(-1, 40)])]))
def kch1487 : aw_H := [(0, kcx2), (1, kcx1486), (2, kcx7), (3, .inr (.inl (0, 40, [], []))), (4, .inr (.inl (0, 40, [], []))), (5, .inr (.inl (0, 40, [], []))), (6, .inr (.inl (0, 40, [], []))), (7, .inr (.inl (0, 40, [], []))), (8, .inr (.inl (0, 40, [], [])))]
def kcx1488 : aw_A := .inr (.inl (0, 6, [(0, 5, [(-1, 40)])], [(2, [(33, 33)]), (0, [(-1, 40)]), (1, [(-1, 40)])]))
def kch1489 : aw_H := [(0, kcx2), (1, kcx1488), (2, kcx7), (3, .inr (.inl (0, 40, [], []))), (4, .inr (.inl (0, 40, [], []))), (5, .inr (.inl (0, 40, [], []))), (6, .inr (.inl (0, 40, [], []))), (7, .inr (.inl (0, 40, [], []))), (8, .inr (.inl (0, 40, [], [])))]
def kcx1490 : aw_A := .inr (.inl (0, 6, [(0, 5, [(-1, 40)])], [(2, [(34, 40)]), (0, [(-1, 40)]), (1, [(-1, 40)])]))
def kch1491 : aw_H := [(0, kcx2), (1, kcx1490), (2, kcx7), (3, .inr (.inl (0, 40, [], []))), (4, .inr (.inl (0, 40, [], []))), (5, .inr (.inl (0, 40, [], []))), (6, .inr (.inl (0, 40, [], []))), (7, .inr (.inl (0, 40, [], []))), (8, .inr (.inl (0, 40, [], [])))]
def kcx1492 : aw_A := .inr (.inl (0, 6, [(0, 5, [(-1, 40)])], [(2, [(34, 34)]), (0, [(-1, 40)]), (1, [(-1, 40)])]))
def kch1493 : aw_H := [(0, kcx2), (1, kcx1492), (2, kcx7), (3, .inr (.inl (0, 40, [], []))), (4, .inr (.inl (0, 40, [], []))), (5, .inr (.inl (0, 40, [], []))), (6, .inr (.inl (0, 40, [], []))), (7, .inr (.inl (0, 40, [], []))), (8, .inr (.inl (0, 40, [], [])))]
def kcx1494 : aw_A := .inr (.inl (0, 6, [(0, 5, [(-1, 40)])], [(2, [(35, 40)]), (0, [(-1, 40)]), (1, [(-1, 40)])]))
def kch1495 : aw_H := [(0, kcx2), (1, kcx1494), (2, kcx7), (3, .inr (.inl (0, 40, [], []))), (4, .inr (.inl (0, 40, [], []))), (5, .inr (.inl (0, 40, [], []))), (6, .inr (.inl (0, 40, [], []))), (7, .inr (.inl (0, 40, [], []))), (8, .inr (.inl (0, 40, [], [])))]
def kcx1496 : aw_A := .inr (.inl (0, 6, [(0, 5, [(-1, 40)])], [(2, [(35, 35)]), (0, [(-1, 40)]), (1, [(-1, 40)])]))
def kch1497 : aw_H := [(0, kcx2), (1, kcx1496), (2, kcx7), (3, .inr (.inl (0, 40, [], []))), (4, .inr (.inl (0, 40, [], []))), (5, .inr (.inl (0, 40, [], []))), (6, .inr (.inl (0, 40, [], []))), (7, .inr (.inl (0, 40, [], []))), (8, .inr (.inl (0, 40, [], [])))]
def kcx1498 : aw_A := .inr (.inl (0, 6, [(0, 5, [(-1, 40)])], [(2, [(36, 40)]), (0, [(-1, 40)]), (1, [(-1, 40)])]))
def kch1499 : aw_H := [(0, kcx2), (1, kcx1498), (2, kcx7), (3, .inr (.inl (0, 40, [], []))), (4, .inr (.inl (0, 40, [], []))), (5, .inr (.inl (0, 40, [], []))), (6, .inr (.inl (0, 40, [], []))), (7, .inr (.inl (0, 40, [], []))), (8, .inr (.inl (0, 40, [], [])))]
def kcx1500 : aw_A := .inr (.inl (0, 6, [(0, 5, [(-1, 40)])], [(2, [(37, 40)]), (0, [(-1, 40)]), (1, [(-1, 40)])]))
def kch1501 : aw_H := [(0, kcx2), (1, kcx1500), (2, kcx7), (3, .inr (.inl (0, 40, [], []))), (4, .inr (.inl (0, 40, [], []))), (5, .inr (.inl (0, 40, [], []))), (6, .inr (.inl (0, 40, [], []))), (7, .inr (.inl (0, 40, [], []))), (8, .inr (.inl (0, 40, [], [])))]
def kcx1502 : aw_A := .inr (.inl (0, 6, [(0, 5, [(-1, 40)])], [(2, [(37, 37)]), (0, [(-1, 40)]), (1, [(-1, 40)])]))
def kch1503 : aw_H := [(0, kcx2), (1, kcx1502), (2, kcx7), (3, .inr (.inl (0, 40, [], []))), (4, .inr (.inl (0, 40, [], []))), (5, .inr (.inl (0, 40, [], []))), (6, .inr (.inl (0, 40, [], []))), (7, .inr (.inl (0, 40, [], []))), (8, .inr (.inl (0, 40, [], [])))]
def kcx1504 : aw_A := .inr (.inl (0, 6, [(0, 5, [(-1, 40)])], [(2, [(38, 40)]), (0, [(-1, 40)]), (1, [(-1, 40)])]))
def kch1505 : aw_H := [(0, kcx2), (1, kcx1504), (2, kcx7), (3, .inr (.inl (0, 40, [], []))), (4, .inr (.inl (0, 40, [], []))), (5, .inr (.inl (0, 40, [], []))), (6, .inr (.inl (0, 40, [], []))), (7, .inr (.inl (0, 40, [], []))), (8, .inr (.inl (0, 40, [], [])))]
def kcx1506 : aw_A := .inr (.inl (0, 6, [(0, 5, [(-1, 40)])], [(2, [(39, 40)]), (0, [(-1, 40)]), (1, [(-1, 40)])]))
def kch1507 : aw_H := [(0, kcx2), (1, kcx1506), (2, kcx7), (3, .inr (.inl (0, 40, [], []))), (4, .inr (.inl (0, 40, [], []))), (5, .inr (.inl (0, 40, [], []))), (6, .inr (.inl (0, 40, [], []))), (7, .inr (.inl (0, 40, [], []))), (8, .inr (.inl (0, 40, [], [])))]
def kcx1508 : aw_A := .inr (.inl (0, 6, [(0, 5, [(-1, 40)])], [(2, [(39, 39)]), (0, [(-1, 40)]), (1, [(-1, 40)])]))
def kch1509 : aw_H := [(0, kcx2), (1, kcx1508), (2, kcx7), (3, .inr (.inl (0, 40, [], []))), (4, .inr (.inl (0, 40, [], []))), (5, .inr (.inl (0, 40, [], []))), (6, .inr (.inl (0, 40, [], []))), (7, .inr (.inl (0, 40, [], []))), (8, .inr (.inl (0, 40, [], [])))]
def kcx1510 : aw_A := .inr (.inl (0, 6, [(0, 5, [(-1, 40)])], [(2, [(40, 40)]), (0, [(-1, 40)]), (1, [(-1, 40)])]))
def kch1511 : aw_H := [(0, kcx2), (1, kcx1510), (2, kcx7), (3, .inr (.inl (0, 40, [], []))), (4, .inr (.inl (0, 40, [], []))), (5, .inr (.inl (0, 40, [], []))), (6, .inr (.inl (0, 40, [], []))), (7, .inr (.inl (0, 40, [], []))), (8, .inr (.inl (0, 40, [], [])))]
def kcx1512 : aw_A := .inr (.inl (0, 6, [(0, 5, [(-1, 40)])], [(2, [(38, 38)]), (0, [(-1, 40)]), (1, [(-1, 40)])]))
def kch1513 : aw_H := [(0, kcx2), (1, kcx1512), (2, kcx7), (3, .inr (.inl (0, 40, [], []))), (4, .inr (.inl (0, 40, [], []))), (5, .inr (.inl (0, 40, [], []))), (6, .inr (.inl (0, 40, [], []))), (7, .inr (.inl (0, 40, [], []))), (8, .inr (.inl (0, 40, [], [])))]
def kcx1514 : aw_A := .inr (.inl (0, 6, [(0, 5, [(-1, 40)])], [(2, [(36, 36)]), (0, [(-1, 40)]), (1, [(-1, 40)])]))
def kch1515 : aw_H := [(0, kcx2), (1, kcx1514), (2, kcx7), (3, .inr (.inl (0, 40, [], []))), (4, .inr (.inl (0, 40, [], []))), (5, .inr (.inl (0, 40, [], []))), (6, .inr (.inl (0, 40, [], []))), (7, .inr (.inl (0, 40, [], []))), (8, .inr (.inl (0, 40, [], [])))]
def kcx1516 : aw_A := .inr (.inl (0, 6, [(0, 5, [(-1, 40)])], [(2, [(31, 31)]), (0, [(-1, 40)]), (1, [(-1, 40)])]))
def kch1517 : aw_H := [(0, kcx2), (1, kcx1516), (2, kcx7), (3, .inr (.inl (0, 40, [], []))), (4, .inr (.inl (0, 40, [], []))), (5, .inr (.inl (0, 40, [], []))), (6, .inr (.inl (0, 40, [], []))), (7, .inr (.inl (0, 40, [], []))), (8, .inr (.inl (0, 40, [], [])))]
def kcx1518 : aw_A := .inr (.inl (0, 6, [(0, 5, [(-1, 40)])], [(2, [(30, 30)]), (0, [(-1, 40)]), (1, [(-1, 40)])]))
def kch1519 : aw_H := [(0, kcx2), (1, kcx1518), (2, kcx7), (3, .inr (.inl (0, 40, [], []))), (4, .inr (.inl (0, 40, [], []))), (5, .inr (.inl (0, 40, [], []))), (6, .inr (.inl (0, 40, [], []))), (7, .inr (.inl (0, 40, [], []))), (8, .inr (.inl (0, 40, [], [])))]
def kcx1520 : aw_A := .inr (.inl (0, 6, [(0, 5, [(-1, 40)])], [(2, [(25, 25)]), (0, [(-1, 40)]), (1, [(-1, 40)])]))
def kch1521 : aw_H := [(0, kcx2), (1, kcx1520), (2, kcx7), (3, .inr (.inl (0, 40, [], []))), (4, .inr (.inl (0, 40, [], []))), (5, .inr (.inl (0, 40, [], []))), (6, .inr (.inl (0, 40, [], []))), (7, .inr (.inl (0, 40, [], []))), (8, .inr (.inl (0, 40, [], [])))]
def kcx1522 : aw_A := .inr (.inl (0, 6, [(0, 5, [(-1, 40)])], [(2, [(23, 23)]), (0, [(-1, 40)]), (1, [(-1, 40)])]))
def kch1523 : aw_H := [(0, kcx2), (1, kcx1522), (2, kcx7), (3, .inr (.inl (0, 40, [], []))), (4, .inr (.inl (0, 40, [], []))), (5, .inr (.inl (0, 40, [], []))), (6, .inr (.inl (0, 40, [], []))), (7, .inr (.inl (0, 40, [], []))), (8, .inr (.inl (0, 40, [], [])))]
def kcx1524 : aw_A := .inr (.inl (0, 6, [(0, 5, [(-1, 40)])], [(2, [(22, 22)]), (0, [(-1, 40)]), (1, [(-1, 40)])]))
def kch1525 : aw_H := [(0, kcx2), (1, kcx1524), (2, kcx7), (3, .inr (.inl (0, 40, [], []))), (4, .inr (.inl (0, 40, [], []))), (5, .inr (.inl (0, 40, [], []))), (6, .inr (.inl (0, 40, [], []))), (7, .inr (.inl (0, 40, [], []))), (8, .inr (.inl (0, 40, [], [])))]
def kcx1526 : aw_A := .inr (.inl (0, 6, [(0, 5, [(-1, 40)])], [(2, [(21, 21)]), (0, [(-1, 40)]), (1, [(-1, 40)])]))
def kch1527 : aw_H := [(0, kcx2), (1, kcx1526), (2, kcx7), (3, .inr (.inl (0, 40, [], []))), (4, .inr (.inl (0, 40, [], []))), (5, .inr (.inl (0, 40, [], []))), (6, .inr (.inl (0, 40, [], []))), (7, .inr (.inl (0, 40, [], []))), (8, .inr (.inl (0, 40, [], [])))]
def kcx1528 : aw_A := .inr (.inl (0, 6, [(0, 5, [(-1, 40)])], [(2, [(18, 18)]), (0, [(-1, 40)]), (1, [(-1, 40)])]))
def kch1529 : aw_H := [(0, kcx2), (1, kcx1528), (2, kcx7), (3, .inr (.inl (0, 40, [], []))), (4, .inr (.inl (0, 40, [], []))), (5, .inr (.inl (0, 40, [], []))), (6, .inr (.inl (0, 40, [], []))), (7, .inr (.inl (0, 40, [], []))), (8, .inr (.inl (0, 40, [], [])))]
def kcx1530 : aw_A := .inr (.inl (0, 6, [(0, 5, [(-1, 40)])], [(2, [(17, 17)]), (0, [(-1, 40)]), (1, [(-1, 40)])]))
def kch1531 : aw_H := [(0, kcx2), (1, kcx1530), (2, kcx7), (3, .inr (.inl (0, 40, [], []))), (4, .inr (.inl (0, 40, [], []))), (5, .inr (.inl (0, 40, [], []))), (6, .inr (.inl (0, 40, [], []))), (7, .inr (.inl (0, 40, [], []))), (8, .inr (.inl (0, 40, [], [])))]
def kcx1532 : aw_A := .inr (.inl (0, 6, [(0, 5, [(-1, 40)])], [(2, [(14, 14)]), (0, [(-1, 40)]), (1, [(-1, 40)])]))
def kch1533 : aw_H := [(0, kcx2), (1, kcx1532), (2, kcx7), (3, .inr (.inl (0, 40, [], []))), (4, .inr (.inl (0, 40, [], []))), (5, .inr (.inl (0, 40, [], []))), (6, .inr (.inl (0, 40, [], []))), (7, .inr (.inl (0, 40, [], []))), (8, .inr (.inl (0, 40, [], [])))]
def kcx1534 : aw_A := .inr (.inl (0, 6, [(0, 5, [(-1, 40)])], [(2, [(13, 13)]), (0, [(-1, 40)]), (1, [(-1, 40)])]))
def kch1535 : aw_H := [(0, kcx2), (1, kcx1534), (2, kcx7), (3, .inr (.inl (0, 40, [], []))), (4, .inr (.inl (0, 40, [], []))), (5, .inr (.inl (0, 40, [], []))), (6, .inr (.inl (0, 40, [], []))), (7, .inr (.inl (0, 40, [], []))), (8, .inr (.inl (0, 40, [], [])))]
def kcx1536 : aw_A := .inr (.inl (0, 6, [(0, 5, [(-1, 40)])], [(2, [(12, 12)]), (0, [(-1, 40)]), (1, [(-1, 40)])]))
def kch1537 : aw_H := [(0, kcx2), (1, kcx1536), (2, kcx7), (3, .inr (.inl (0, 40, [], []))), (4, .inr (.inl (0, 40, [], []))), (5, .inr (.inl (0, 40, [], []))), (6, .inr (.inl (0, 40, [], []))), (7, .inr (.inl (0, 40, [], []))), (8, .inr (.inl (0, 40, [], [])))]
def kcx1538 : aw_A := .inr (.inl (0, 6, [(0, 5, [(-1, 40)])], [(2, [(9, 9)]), (0, [(-1, 40)]), (1, [(-1, 40)])]))
def kch1539 : aw_H := [(0, kcx2), (1, kcx1538), (2, kcx7), (3, .inr (.inl (0, 40, [], []))), (4, .inr (.inl (0, 40, [], []))), (5, .inr (.inl (0, 40, [], []))), (6, .inr (.inl (0, 40, [], []))), (7, .inr (.inl (0, 40, [], []))), (8, .inr (.inl (0, 40, [], [])))]
def kcx1540 : aw_A := .inr (.inl (0, 6, [(0, 5, [(-1, 40)])], [(2, [(5, 5)]), (0, [(-1, 40)]), (1, [(-1, 40)])]))
def kch1541 : aw_H := [(0, kcx2), (1, kcx1540), (2, kcx7), (3, .inr (.inl (0, 40, [], []))), (4, .inr (.inl (0, 40, [], []))), (5, .inr (.inl (0, 40, [], []))), (6, .inr (.inl (0, 40, [], []))), (7, .inr (.inl (0, 40, [], []))), (8, .inr (.inl (0, 40, [], [])))]
def kcx1542 : aw_A := .inr (.inl (0, 6, [(0, 5, [(-1, 40)])], [(2, [(3, 3)]), (0, [(-1, 40)]), (1, [(-1, 40)])]))
def kch1543 : aw_H := [(0, kcx2), (1, kcx1542), (2, kcx7), (3, .inr (.inl (0, 40, [], []))), (4, .inr (.inl (0, 40, [], []))), (5, .inr (.inl (0, 40, [], []))), (6, .inr (.inl (0, 40, [], []))), (7, .inr (.inl (0, 40, [], []))), (8, .inr (.inl (0, 40, [], [])))]
def kcx1544 : aw_A := .inr (.inl (0, 6, [(0, 5, [(-1, 40)])], [(2, [(2, 2)]), (0, [(-1, 40)]), (1, [(-1, 40)])]))
def kch1545 : aw_H := [(0, kcx2), (1, kcx1544), (2, kcx7), (3, .inr (.inl (0, 40, [], []))), (4, .inr (.inl (0, 40, [], []))), (5, .inr (.inl (0, 40, [], []))), (6, .inr (.inl (0, 40, [], []))), (7, .inr (.inl (0, 40, [], []))), (8, .inr (.inl (0, 40, [], [])))]
def kcx1546 : aw_A := .inr (.inl (0, 6, [(0, 5, [(-1, 40)])], [(2, [(1, 1)]), (0, [(-1, 40)]), (1, [(-1, 40)])]))
def kch1547 : aw_H := [(0, kcx2), (1, kcx1546), (2, kcx7), (3, .inr (.inl (0, 40, [], []))), (4, .inr (.inl (0, 40, [], []))), (5, .inr (.inl (0, 40, [], []))), (6, .inr (.inl (0, 40, [], []))), (7, .inr (.inl (0, 40, [], []))), (8, .inr (.inl (0, 40, [], [])))]
def kcx1548 : aw_A := .inr (.inl (0, 6, [(0, 5, [(-1, 40)])], [(2, [(-1, 0)]), (0, [(-1, 40)]), (1, [(-1, 40)])]))
def kch1549 : aw_H := [(0, kcx2), (1, kcx1548), (2, kcx7), (3, .inr (.inl (0, 40, [], []))), (4, .inr (.inl (0, 40, [], []))), (5, .inr (.inl (0, 40, [], []))), (6, .inr (.inl (0, 40, [], []))), (7, .inr (.inl (0, 40, [], []))), (8, .inr (.inl (0, 40, [], [])))]
def kcx1550 : aw_A := .inr (.inl (0, 6, [(0, 5, [(-1, 40)])], [(0, [(-1, 40)]), (1, [(-1, 40)]), (2, [(-1, 40)])]))
def kch1551 : aw_H := [(0, kcx2), (1, kcx1550), (2, kcx7), (3, .inr (.inl (0, 40, [], []))), (4, .inr (.inl (0, 40, [], []))), (5, .inr (.inl (0, 40, [], []))), (6, .inr (.inl (0, 40, [], []))), (7, .inr (.inl (0, 40, [], []))), (8, .inr (.inl (0, 40, [], [])))]
def kcx1552 : aw_A := .inr (.inl (0, 6, [(0, 5, [(-1, 40)])], [(3, [(-1, 0)]), (0, [(-1, 40)]), (1, [(-1, 40)]), (2, [(-1, 40)])]))
def kch1553 : aw_H := [(0, kcx2), (1, kcx1552), (2, kcx7), (3, .inr (.inl (0, 40, [], []))), (4, .inr (.inl (0, 40, [], []))), (5, .inr (.inl (0, 40, [], []))), (6, .inr (.inl (0, 40, [], []))), (7, .inr (.inl (0, 40, [], []))), (8, .inr (.inl (0, 40, [], [])))]
def kcx1554 : aw_A := .inr (.inl (0, 6, [(0, 5, [(-1, 40)])], [(3, [(1, 40)]), (0, [(-1, 40)]), (1, [(-1, 40)]), (2, [(-1, 40)])]))
def kch1555 : aw_H := [(0, kcx2), (1, kcx1554), (2, kcx7), (3, .inr (.inl (0, 40, [], []))), (4, .inr (.inl (0, 40, [], []))), (5, .inr (.inl (0, 40, [], []))), (6, .inr (.inl (0, 40, [], []))), (7, .inr (.inl (0, 40, [], []))), (8, .inr (.inl (0, 40, [], [])))]
def kcx1556 : aw_A := .inr (.inl (0, 6, [(0, 5, [(-1, 40)])], [(3, [(1, 1)]), (0, [(-1, 40)]), (1, [(-1, 40)]), (2, [(-1, 40)])]))
def kch1557 : aw_H := [(0, kcx2), (1, kcx1556), (2, kcx7), (3, .inr (.inl (0, 40, [], []))), (4, .inr (.inl (0, 40, [], []))), (5, .inr (.inl (0, 40, [], []))), (6, .inr (.inl (0, 40, [], []))), (7, .inr (.inl (0, 40, [], []))), (8, .inr (.inl (0, 40, [], [])))]
def kcx1558 : aw_A := .inr (.inl (0, 6, [(0, 5, [(-1, 40)])], [(3, [(2, 40)]), (0, [(-1, 40)]), (1, [(-1, 40)]), (2, [(-1, 40)])]))
def kch1559 : aw_H := [(0, kcx2), (1, kcx1558), (2, kcx7), (3, .inr (.inl (0, 40, [], []))), (4, .inr (.inl (0, 40, [], []))), (5, .inr (.inl (0, 40, [], []))), (6, .inr (.inl (0, 40, [], []))), (7, .inr (.inl (0, 40, [], []))), (8, .inr (.inl (0, 40, [], [])))]
def kcx1560 : aw_A := .inr (.inl (0, 6, [(0, 5, [(-1, 40)])], [(3, [(3, 40)]), (0, [(-1, 40)]), (1, [(-1, 40)]), (2, [(-1, 40)])]))
def kch1561 : aw_H := [(0, kcx2), (1, kcx1560), (2, kcx7), (3, .inr (.inl (0, 40, [], []))), (4, .inr (.inl (0, 40, [], []))), (5, .inr (.inl (0, 40, [], []))), (6, .inr (.inl (0, 40, [], []))), (7, .inr (.inl (0, 40, [], []))), (8, .inr (.inl (0, 40, [], [])))]
def kcx1562 : aw_A := .inr (.inl (0, 6, [(0, 5, [(-1, 40)])], [(3, [(4, 40)]), (0, [(-1, 40)]), (1, [(-1, 40)]), (2, [(-1, 40)])]))
def kch1563 : aw_H := [(0, kcx2), (1, kcx1562), (2, kcx7), (3, .inr (.inl (0, 40, [], []))), (4, .inr (.inl (0, 40, [], []))), (5, .inr (.inl (0, 40, [], []))), (6, .inr (.inl (0, 40, [], []))), (7, .inr (.inl (0, 40, [], []))), (8, .inr (.inl (0, 40, [], [])))]
def kcx1564 : aw_A := .inr (.inl (0, 6, [(0, 5, [(-1, 40)])], [(3, [(4, 4)]), (0, [(-1, 40)]), (1, [(-1, 40)]), (2, [(-1, 40)])]))
def kch1565 : aw_H := [(0, kcx2), (1, kcx1564), (2, kcx7), (3, .inr (.inl (0, 40, [], []))), (4, .inr (.inl (0, 40, [], []))), (5, .inr (.inl (0, 40, [], []))), (6, .inr (.inl (0, 40, [], []))), (7, .inr (.inl (0, 40, [], []))), (8, .inr (.inl (0, 40, [], [])))]
def kcx1566 : aw_A := .inr (.inl (0, 6, [(0, 5, [(-1, 40)])], [(3, [(5, 40)]), (0, [(-1, 40)]), (1, [(-1, 40)]), (2, [(-1, 40)])]))
def kch1567 : aw_H := [(0, kcx2), (1, kcx1566), (2, kcx7), (3, .inr (.inl (0, 40, [], []))), (4, .inr (.inl (0, 40, [], []))), (5, .inr (.inl (0, 40, [], []))), (6, .inr (.inl (0, 40, [], []))), (7, .inr (.inl (0, 40, [], []))), (8, .inr (.inl (0, 40, [], [])))]
def kcx1568 : aw_A := .inr (.inl (0, 6, [(0, 5, [(-1, 40)])], [(3, [(6, 40)]), (0, [(-1, 40)]), (1, [(-1, 40)]), (2, [(-1, 40)])]))
def kch1569 : aw_H := [(0, kcx2), (1, kcx1568), (2, kcx7), (3, .inr (.inl (0, 40, [], []))), (4, .inr (.inl (0, 40, [], []))), (5, .inr (.inl (0, 40, [], []))), (6, .inr (.inl (0, 40, [], []))), (7, .inr (.inl (0, 40, [], []))), (8, .inr (.inl (0, 40, [], [])))]
def kcx1570 : aw_A := .inr (.inl (0, 6, [(0, 5, [(-1, 40)])], [(3, [(7, 40)]), (0, [(-1, 40)]), (1, [(-1, 40)]), (2, [(-1, 40)])]))
def kch1571 : aw_H := [(0, kcx2), (1, kcx1570), (2, kcx7), (3, .inr (.inl (0, 40, [], []))), (4, .inr (.inl (0, 40, [], []))), (5, .inr (.inl (0, 40, [], []))), (6, .inr (.inl (0, 40, [], []))), (7, .inr (.inl (0, 40, [], []))), (8, .inr (.inl (0, 40, [], [])))]
def kcx1572 : aw_A := .inr (.inl (0, 6, [(0, 5, [(-1, 40)])], [(3, [(8, 40)]), (0, [(-1, 40)]), (1, [(-1, 40)]), (2, [(-1, 40)])]))
def kch1573 : aw_H := [(0, kcx2), (1, kcx1572), (2, kcx7), (3, .inr (.inl (0, 40, [], []))), (4, .inr (.inl (0, 40, [], []))), (5, .inr (.inl (0, 40, [], []))), (6, .inr (.inl (0, 40, [], []))), (7, .inr (.inl (0, 40, [], []))), (8, .inr (.inl (0, 40, [], [])))]
def kcx1574 : aw_A := .inr (.inl (0, 6, [(0, 5, [(-1, 40)])], [(3, [(8, 8)]), (0, [(-1, 40)]), (1, [(-1, 40)]), (2, [(-1, 40)])]))
def kch1575 : aw_H := [(0, kcx2), (1, kcx1574), (2, kcx7), (3, .inr (.inl (0, 40, [], []))), (4, .inr (.inl (0, 40, [], []))), (5, .inr (.inl (0, 40, [], []))), (6, .inr (.inl (0, 40, [], []))), (7, .inr (.inl (0, 40, [], []))), (8, .inr (.inl (0, 40, [], [])))]
def kcx1576 : aw_A := .inr (.inl (0, 6, [(0, 5, [(-1, 40)])], [(3, [(9, 40)]), (0, [(-1, 40)]), (1, [(-1, 40)]), (2, [(-1, 40)])]))
def kch1577 : aw_H := [(0, kcx2), (1, kcx1576), (2, kcx7), (3, .inr (.inl (0, 40, [], []))), (4, .inr (.inl (0, 40, [], []))), (5, .inr (.inl (0, 40, [], []))), (6, .inr (.inl (0, 40, [], []))), (7, .inr (.inl (0, 40, [], []))), (8, .inr (.inl (0, 40, [], [])))]
def kcx1578 : aw_A := .inr (.inl (0, 6, [(0, 5, [(-1, 40)])], [(3, [(9, 9)]), (0, [(-1, 40)]), (1, [(-1, 40)]), (2, [(-1, 40)])]))
def kch1579 : aw_H := [(0, kcx2), (1, kcx1578), (2, kcx7), (3, .inr (.inl (0, 40, [], []))), (4, .inr (.inl (0, 40, [], []))), (5, .inr (.inl (0, 40, [], []))), (6, .inr (.inl (0, 40, [], []))), (7, .inr (.inl (0, 40, [], []))), (8, .inr (.inl (0, 40, [], [])))]
def kcx1580 : aw_A := .inr (.inl (0, 6, [(0, 5, [(-1, 40)])], [(3, [(10, 40)]), (0, [(-1, 40)]), (1, [(-1, 40)]), (2, [(-1, 40)])]))
def kch1581 : aw_H := [(0, kcx2), (1, kcx1580), (2, kcx7), (3, .inr (.inl (0, 40, [], []))), (4, .inr (.inl (0, 40, [], []))), (5, .inr (.inl (0, 40, [], []))), (6, .inr (.inl (0, 40, [], []))), (7, .inr (.inl (0, 40, [], []))), (8, .inr (.inl (0, 40, [], [])))]
def kcx1582 : aw_A := .inr (.inl (0, 6, [(0, 5, [(-1, 40)])], [(3, [(11, 40)]), (0, [(-1, 40)]), (1, [(-1, 40)]), (2, [(-1, 40)])]))
def kch1583 : aw_H := [(0, kcx2), (1, kcx1582), (2, kcx7), (3, .inr (.inl (0, 40, [], []))), (4, .inr (.inl (0, 40, [], []))), (5, .inr (.inl (0, 40, [], []))), (6, .inr (.inl (0, 40, [], []))), (7, .inr (.inl (0, 40, [], []))), (8, .inr (.inl (0, 40, [], [])))]
def kcx1584 : aw_A := .inr (.inl (0, 6, [(0, 5, [(-1, 40)])], [(3, [(12, 40)]), (0, [(-1, 40)]), (1, [(-1, 40)]), (2, [(-1, 40)])]))
def kch1585 : aw_H := [(0, kcx2), (1, kcx1584), (2, kcx7), (3, .inr (.inl (0, 40, [], []))), (4, .inr (.inl (0, 40, [], []))), (5, .inr (.inl (0, 40, [], []))), (6, .inr (.inl (0, 40, [], []))), (7, .inr (.inl (0, 40, [], []))), (8, .inr (.inl (0, 40, [], [])))]
def kcx1586 : aw_A := .inr (.inl (0, 6, [(0, 5, [(-1, 40)])], [(3, [(12, 12)]), (0, [(-1, 40)]), (1, [(-1, 40)]), (2, [(-1, 40)])]))
def kch1587 : aw_H := [(0, kcx2), (1, kcx1586), (2, kcx7), (3, .inr (.inl (0, 40, [], []))), (4, .inr (.inl (0, 40, [], []))), (5, .inr (.inl (0, 40, [], []))), (6, .inr (.inl (0, 40, [], []))), (7, .inr (.inl (0, 40, [], []))), (8, .inr (.inl (0, 40, [], [])))]
def kcx1588 : aw_A := .inr (.inl (0, 6, [(0, 5, [(-1, 40)])], [(3, [(13, 40)]), (0, [(-1, 40)]), (1, [(-1, 40)]), (2, [(-1, 40)])]))
def kch1589 : aw_H := [(0, kcx2), (1, kcx1588), (2, kcx7), (3, .inr (.inl (0, 40, [], []))), (4, .inr (.inl (0, 40, [], []))), (5, .inr (.inl (0, 40, [], []))), (6, .inr (.inl (0, 40, [], []))), (7, .inr (.inl (0, 40, [], []))), (8, .inr (.inl (0, 40, [], [])))]
def kcx1590 : aw_A := .inr (.inl (0, 6, [(0, 5, [(-1, 40)])], [(3, [(13, 13)]), (0, [(-1, 40)]), (1, [(-1, 40)]), (2, [(-1, 40)])]))
def kch1591 : aw_H := [(0, kcx2), (1, kcx1590), (2, kcx7), (3, .inr (.inl (0, 40, [], []))), (4, .inr (.inl (0, 40, [], []))), (5, .inr (.inl (0, 40, [], []))), (6, .inr (.inl (0, 40, [], []))), (7, .inr (.inl (0, 40, [], []))), (8, .inr (.inl (0, 40, [], [])))]
def kcx1592 : aw_A := .inr (.inl (0, 6, [(0, 5, [(-1, 40)])], [(3, [(14, 40)]), (0, [(-1, 40)]), (1, [(-1, 40)]), (2, [(-1, 40)])]))
def kch1593 : aw_H := [(0, kcx2), (1, kcx1592), (2, kcx7), (3, .inr (.inl (0, 40, [], []))), (4, .inr (.inl (0, 40, [], []))), (5, .inr (.inl (0, 40, [], []))), (6, .inr (.inl (0, 40, [], []))), (7, .inr (.inl (0, 40, [], []))), (8, .inr (.inl (0, 40, [], [])))]
def kcx1594 : aw_A := .inr (.inl (0, 6, [(0, 5, [(-1, 40)])], [(3, [(15, 40)]), (0, [(-1, 40)]), (1, [(-1, 40)]), (2, [(-1, 40)])]))
def kch1595 : aw_H := [(0, kcx2), (1, kcx1594), (2, kcx7), (3, .inr (.inl (0, 40, [], []))), (4, .inr (.inl (0, 40, [], []))), (5, .inr (.inl (0, 40, [], []))), (6, .inr (.inl (0, 40, [], []))), (7, .inr (.inl (0, 40, [], []))), (8, .inr (.inl (0, 40, [], [])))]
def kcx1596 : aw_A := .inr (.inl (0, 6, [(0, 5, [(-1, 40)])], [(3, [(16, 40)]), (0, [(-1, 40)]), (1, [(-1, 40)]), (2, [(-1, 40)])]))
def kch1597 : aw_H := [(0, kcx2), (1, kcx1596), (2, kcx7), (3, .inr (.inl (0, 40, [], []))), (4, .inr (.inl (0, 40, [], []))), (5, .inr (.inl (0, 40, [], []))), (6, .inr (.inl (0, 40, [], []))), (7, .inr (.inl (0, 40, [], []))), (8, .inr (.inl (0, 40, [], [])))]
def kcx1598 : aw_A := .inr (.inl (0, 6, [(0, 5, [(-1, 40)])], [(3, [(17, 40)]), (0, [(-1, 40)]), (1, [(-1, 40)]), (2, [(-1, 40)])]))
def kch1599 : aw_H := [(0, kcx2), (1, kcx1598), (2, kcx7), (3, .inr (.inl (0, 40, [], []))), (4, .inr (.inl (0, 40, [], []))), (5, .inr (.inl (0, 40, [], []))), (6, .inr (.inl (0, 40, [], []))), (7, .inr (.inl (0, 40, [], []))), (8, .inr (.inl (0, 40, [], [])))]
def kcx1600 : aw_A := .inr (.inl (0, 6, [(0, 5, [(-1, 40)])], [(3, [(17, 17)]), (0, [(-1, 40)]), (1, [(-1, 40)]), (2, [(-1, 40)])]))
def kch1601 : aw_H := [(0, kcx2), (1, kcx1600), (2, kcx7), (3, .inr (.inl (0, 40, [], []))), (4, .inr (.inl (0, 40, [], []))), (5, .inr (.inl (0, 40, [], []))), (6, .inr (.inl (0, 40, [], []))), (7, .inr (.inl (0, 40, [], []))), (8, .inr (.inl (0, 40, [], [])))]
def kcx1602 : aw_A := .inr (.inl (0, 6, [(0, 5, [(-1, 40)])], [(3, [(18, 40)]), (0, [(-1, 40)]), (1, [(-1, 40)]), (2, [(-1, 40)])]))
def kch1603 : aw_H := [(0, kcx2), (1, kcx1602), (2, kcx7), (3, .inr (.inl (0, 40, [], []))), (4, .inr (.inl (0, 40, [], []))), (5, .inr (.inl (0, 40, [], []))), (6, .inr (.inl (0, 40, [], []))), (7, .inr (.inl (0, 40, [], []))), (8, .inr (.inl (0, 40, [], [])))]
def kcx1604 : aw_A := .inr (.inl (0, 6, [(0, 5, [(-1, 40)])], [(3, [(19, 40)]), (0, [(-1, 40)]), (1, [(-1, 40)]), (2, [(-1, 40)])]))
def kch1605 : aw_H := [(0, kcx2), (1, kcx1604), (2, kcx7), (3, .inr (.inl (0, 40, [], []))), (4, .inr (.inl (0, 40, [], []))), (5, .inr (.inl (0, 40, [], []))), (6, .inr (.inl (0, 40, [], []))), (7, .inr (.inl (0, 40, [], []))), (8, .inr (.inl (0, 40, [], [])))]
def kcx1606 : aw_A := .inr (.inl (0, 6, [(0, 5, [(-1, 40)])], [(3, [(20, 40)]), (0, [(-1, 40)]), (1, [(-1, 40)]), (2, [(-1, 40)])]))
def kch1607 : aw_H := [(0, kcx2), (1, kcx1606), (2, kcx7), (3, .inr (.inl (0, 40, [], []))), (4, .inr (.inl (0, 40, [], []))), (5, .inr (.inl (0, 40, [], []))), (6, .inr (.inl (0, 40, [], []))), (7, .inr (.inl (0, 40, [], []))), (8, .inr (.inl (0, 40, [], [])))]
def kcx1608 : aw_A := .inr (.inl (0, 6, [(0, 5, [(-1, 40)])], [(3, [(21, 40)]), (0, [(-1, 40)]), (1, [(-1, 40)]), (2, [(-1, 40)])]))
def kch1609 : aw_H := [(0, kcx2), (1, kcx1608), (2, kcx7), (3, .inr (.inl (0, 40, [], []))), (4, .inr (.inl (0, 40, [], []))), (5, .inr (.inl (0, 40, [], []))), (6, .inr (.inl (0, 40, [], []))), (7, .inr (.inl (0, 40, [], []))), (8, .inr (.inl (0, 40, [], [])))]
def kcx1610 : aw_A := .inr (.inl (0, 6, [(0, 5, [(-1, 40)])], [(3, [(22, 40)]), (0, [(-1, 40)]), (1, [(-1, 40)]), (2, [(-1, 40)])]))
def kch1611 : aw_H := [(0, kcx2), (1, kcx1610), (2, kcx7), (3, .inr (.inl (0, 40, [], []))), (4, .inr (.inl (0, 40, [], []))), (5, .inr (.inl (0, 40, [], []))), (6, .inr (.inl (0, 40, [], []))), (7, .inr (.inl (0, 40, [], []))), (8, .inr (.inl (0, 40, [], [])))]
def kcx1612 : aw_A := .inr (.inl (0, 6, [(0, 5, [(-1, 40)])], [(3, [(23, 40)]), (0, [(-1, 40)]), (1, [(-1, 40)]), (2, [(-1, 40)])]))
def kch1613 : aw_H := [(0, kcx2), (1, kcx1612), (2, kcx7), (3, .inr (.inl (0, 40, [], []))), (4, .inr (.inl (0, 40, [], []))), (5, .inr (.inl (0, 40, [], []))), (6, .inr (.inl (0, 40, [], []))), (7, .inr (.inl (0, 40, [], []))), (8, .inr (.inl (0, 40, [], [])))]
def kcx1614 : aw_A := .inr (.inl (0, 6, [(0, 5, [(-1, 40)])], [(3, [(24, 40)]), (0, [(-1, 40)]), (1, [(-1, 40)]), (2, [(-1, 40)])]))
def kch1615 : aw_H := [(0, kcx2), (1, kcx1614), (2, kcx7), (3, .inr (.inl (0, 40, [], []))), (4, .inr (.inl (0, 40, [], []))), (5, .inr (.inl (0, 40, [], []))), (6, .inr (.inl (0, 40, [], []))), (7, .inr (.inl (0, 40, [], []))), (8, .inr (.inl (0, 40, [], [])))]
def kcx1616 : aw_A := .inr (.inl (0, 6, [(0, 5, [(-1, 40)])], [(3, [(25, 40)]), (0, [(-1, 40)]), (1, [(-1, 40)]), (2, [(-1, 40)])]))
def kch1617 : aw_H := [(0, kcx2), (1, kcx1616), (2, kcx7), (3, .inr (.inl (0, 40, [], []))), (4, .inr (.inl (0, 40, [], []))), (5, .inr (.inl (0, 40, [], []))), (6, .inr (.inl (0, 40, [], []))), (7, .inr (.inl (0, 40, [], []))), (8, .inr (.inl (0, 40, [], [])))]
def kcx1618 : aw_A := .inr (.inl (0, 6, [(0, 5, [(-1, 40)])], [(3, [(25, 25)]), (0, [(-1, 40)]), (1, [(-1, 40)]), (2, [(-1, 40)])]))
def kch1619 : aw_H := [(0, kcx2), (1, kcx1618), (2, kcx7), (3, .inr (.inl (0, 40, [], []))), (4, .inr (.inl (0, 40, [], []))), (5, .inr (.inl (0, 40, [], []))), (6, .inr (.inl (0, 40, [], []))), (7, .inr (.inl (0, 40, [], []))), (8, .inr (.inl (0, 40, [], [])))]
def kcx1620 : aw_A := .inr (.inl (0, 6, [(0, 5, [(-1, 40)])], [(3, [(26, 40)]), (0, [(-1, 40)]), (1, [(-1, 40)]), (2, [(-1, 40)])]))
def kch1621 : aw_H := [(0, kcx2), (1, kcx1620), (2, kcx7), (3, .inr (.inl (0, 40, [], []))), (4, .inr (.inl (0, 40, [], []))), (5, .inr (.inl (0, 40, [], []))), (6, .inr (.inl (0, 40, [], []))), (7, .inr (.inl (0, 40, [], []))), (8, .inr (.inl (0, 40, [], [])))]
def kcx1622 : aw_A := .inr (.inl (0, 6, [(0, 5, [(-1, 40)])], [(3, [(27, 40)]), (0, [(-1, 40)]), (1, [(-1, 40)]), (2, [(-1, 40)])]))
def kch1623 : aw_H := [(0, kcx2), (1, kcx1622), (2, kcx7), (3, .inr (.inl (0, 40, [], []))), (4, .inr (.inl (0, 40, [], []))), (5, .inr (.inl (0, 40, [], []))), (6, .inr (.inl (0, 40, [], []))), (7, .inr (.inl (0, 40, [], []))), (8, .inr (.inl (0, 40, [], [])))]
def kcx1624 : aw_A := .inr (.inl (0, 6, [(0, 5, [(-1, 40)])], [(3, [(28, 40)]), (0, [(-1, 40)]), (1, [(-1, 40)]), (2, [(-1, 40)])]))
def kch1625 : aw_H := [(0, kcx2), (1, kcx1624), (2, kcx7), (3, .inr (.inl (0, 40, [], []))), (4, .inr (.inl (0, 40, [], []))), (5, .inr (.inl (0, 40, [], []))), (6, .inr (.inl (0, 40, [], []))), (7, .inr (.inl (0, 40, [], []))), (8, .inr (.inl (0, 40, [], [])))]
def kcx1626 : aw_A := .inr (.inl (0, 6, [(0, 5, [(-1, 40)])], [(3, [(29, 40)]), (0, [(-1, 40)]), (1, [(-1, 40)]), (2, [(-1, 40)])]))
def kch1627 : aw_H := [(0, kcx2), (1, kcx1626), (2, kcx7), (3, .inr (.inl (0, 40, [], []))), (4, .inr (.inl (0, 40, [], []))), (5, .inr (.inl (0, 40, [], []))), (6, .inr (.inl (0, 40, [], []))), (7, .inr (.inl (0, 40, [], []))), (8, .inr (.inl (0, 40, [], [])))]
def kcx1628 : aw_A := .inr (.inl (0, 6, [(0, 5, [(-1, 40)])], [(3, [(29, 29)]), (0, [(-1, 40)]), (1, [(-1, 40)]), (2, [(-1, 40)])]))
def kch1629 : aw_H := [(0, kcx2), (1, kcx1628), (2, kcx7), (3, .inr (.inl (0, 40, [], []))), (4, .inr (.inl (0, 40, [], []))), (5, .inr (.inl (0, 40, [], []))), (6, .inr (.inl (0, 40, [], []))), (7, .inr (.inl (0, 40, [], []))), (8, .inr (.inl (0, 40, [], [])))]
def kcx1630 : aw_A := .inr (.inl (0, 6, [(0, 5, [(-1, 40)])], [(3, [(30, 40)]), (0, [(-1, 40)]), (1, [(-1, 40)]), (2, [(-1, 40)])]))
def kch1631 : aw_H := [(0, kcx2), (1, kcx1630), (2, kcx7), (3, .inr (.inl (0, 40, [], []))), (4, .inr (.inl (0, 40, [], []))), (5, .inr (.inl (0, 40, [], []))), (6, .inr (.inl (0, 40, [], []))), (7, .inr (.inl (0, 40, [], []))), (8, .inr (.inl (0, 40, [], [])))]
def kcx1632 : aw_A := .inr (.inl (0, 6, [(0, 5, [(-1, 40)])], [(3, [(31, 40)]), (0, [(-1, 40)]), (1, [(-1, 40)]), (2, [(-1, 40)])]))
def kch1633 : aw_H := [(0, kcx2), (1, kcx1632), (2, kcx7), (3, .inr (.inl (0, 40, [], []))), (4, .inr (.inl (0, 40, [], []))), (5, .inr (.inl (0, 40, [], []))), (6, .inr (.inl (0, 40, [], []))), (7, .inr (.inl (0, 40, [], []))), (8, .inr (.inl (0, 40, [], [])))]
def kcx1634 : aw_A := .inr (.inl (0, 6, [(0, 5, [(-1, 40)])], [(3, [(31, 31)]), (0, [(-1, 40)]), (1, [(-1, 40)]), (2, [(-1, 40)])]))
def kch1635 : aw_H := [(0, kcx2), (1, kcx1634), (2, kcx7), (3, .inr (.inl (0, 40, [], []))), (4, .inr (.inl (0, 40, [], []))), (5, .inr (.inl (0, 40, [], []))), (6, .inr (.inl (0, 40, [], []))), (7, .inr (.inl (0, 40, [], []))), (8, .inr (.inl (0, 40, [], [])))]
def kcx1636 : aw_A := .inr (.inl (0, 6, [(0, 5, [(-1, 40)])], [(3, [(32, 40)]), (0, [(-1, 40)]), (1, [(-1, 40)]), (2, [(-1, 40)])]))
def kch1637 : aw_H := [(0, kcx2), (1, kcx1636), (2, kcx7), (3, .inr (.inl (0, 40, [], []))), (4, .inr (.inl (0, 40, [], []))), (5, .inr (.inl (0, 40, [], []))), (6, .inr (.inl (0, 40, [], []))), (7, .inr (.inl (0, 40, [], []))), (8, .inr (.inl (0, 40, [], [])))]
def kcx1638 : aw_A := .inr (.inl (0, 6, [(0, 5, [(-1, 40)])], [(3, [(32, 32)]), (0, [(-1, 40)]), (1, [(-1, 40)]), (2, [(-1, 40)])]))
def kch1639 : aw_H := [(0, kcx2), (1, kcx1638), (2, kcx7), (3, .inr (.inl (0, 40, [], []))), (4, .inr (.inl (0, 40, [], []))), (5, .inr (.inl (0, 40, [], []))), (6, .inr (.inl (0, 40, [], []))), (7, .inr (.inl (0, 40, [], []))), (8, .inr (.inl (0, 40, [], [])))]
def kcx1640 : aw_A := .inr (.inl (0, 6, [(0, 5, [(-1, 40)])], [(3, [(33, 40)]), (0, [(-1, 40)]), (1, [(-1, 40)]), (2, [(-1, 40)])]))
def kch1641 : aw_H := [(0, kcx2), (1, kcx1640), (2, kcx7), (3, .inr (.inl (0, 40, [], []))), (4, .inr (.inl (0, 40, [], []))), (5, .inr (.inl (0, 40, [], []))), (6, .inr (.inl (0, 40, [], []))), (7, .inr (.inl (0, 40, [], []))), (8, .inr (.inl (0, 40, [], [])))]
def kcx1642 : aw_A := .inr (.inl (0, 6, [(0, 5, [(-1, 40)])], [(3, [(33, 33)]), (0, [(-1, 40)]), (1, [(-1, 40)]), (2, [(-1, 40)])]))
def kch1643 : aw_H := [(0, kcx2), (1, kcx1642), (2, kcx7), (3, .inr (.inl (0, 40, [], []))), (4, .inr (.inl (0, 40, [], []))), (5, .inr (.inl (0, 40, [], []))), (6, .inr (.inl (0, 40, [], []))), (7, .inr (.inl (0, 40, [], []))), (8, .inr (.inl (0, 40, [], [])))]
def kcx1644 : aw_A := .inr (.inl (0, 6, [(0, 5, [(-1, 40)])], [(3, [(34, 40)]), (0, [(-1, 40)]), (1, [(-1, 40)]), (2, [(-1, 40)])]))
def kch1645 : aw_H := [(0, kcx2), (1, kcx1644), (2, kcx7), (3, .inr (.inl (0, 40, [], []))), (4, .inr (.inl (0, 40, [], []))), (5, .inr (.inl (0, 40, [], []))), (6, .inr (.inl (0, 40, [], []))), (7, .inr (.inl (0, 40, [], []))), (8, .inr (.inl (0, 40, [], [])))]
def kcx1646 : aw_A := .inr (.inl (0, 6, [(0, 5, [(-1, 40)])], [(3, [(34, 34)]), (0, [(-1, 40)]), (1, [(-1, 40)]), (2, [(-1, 40)])]))
def kch1647 : aw_H := [(0, kcx2), (1, kcx1646), (2, kcx7), (3, .inr (.inl (0, 40, [], []))), (4, .inr (.inl (0, 40, [], []))), (5, .inr (.inl (0, 40, [], []))), (6, .inr (.inl (0, 40, [], []))), (7, .inr (.inl (0, 40, [], []))), (8, .inr (.inl (0, 40, [], [])))]
def kcx1648 : aw_A := .inr (.inl (0, 6, [(0, 5, [(-1, 40)])], [(3, [(35, 40)]), (0, [(-1, 40)]), (1, [(-1, 40)]), (2, [(-1, 40)])]))
def kch1649 : aw_H := [(0, kcx2), (1, kcx1648), (2, kcx7), (3, .inr (.inl (0, 40, [], []))), (4, .inr (.inl (0, 40, [], []))), (5, .inr (.inl (0, 40, [], []))), (6, .inr (.inl (0, 40, [], []))), (7, .inr (.inl (0, 40, [], []))), (8, .inr (.inl (0, 40, [], [])))]
def kcx1650 : aw_A := .inr (.inl (0, 6, [(0, 5, [(-1, 40)])], [(3, [(36, 40)]), (0, [(-1, 40)]), (1, [(-1, 40)]), (2, [(-1, 40)])]))
def kch1651 : aw_H := [(0, kcx2), (1, kcx1650), (2, kcx7), (3, .inr (.inl (0, 40, [], []))), (4, .inr (.inl (0, 40, [], []))), (5, .inr (.inl (0, 40, [], []))), (6, .inr (.inl (0, 40, [], []))), (7, .inr (.inl (0, 40, [], []))), (8, .inr (.inl (0, 40, [], [])))]
def kcx1652 : aw_A := .inr (.inl (0, 6, [(0, 5, [(-1, 40)])], [(3, [(37, 40)]), (0, [(-1, 40)]), (1, [(-1, 40)]), (2, [(-1, 40)])]))
def kch1653 : aw_H := [(0, kcx2), (1, kcx1652), (2, kcx7), (3, .inr (.inl (0, 40, [], []))), (4, .inr (.inl (0, 40, [], []))), (5, .inr (.inl (0, 40, [], []))), (6, .inr (.inl (0, 40, [], []))), (7, .inr (.inl (0, 40, [], []))), (8, .inr (.inl (0, 40, [], [])))]
def kcx1654 : aw_A := .inr (.inl (0, 6, [(0, 5, [(-1, 40)])], [(3, [(37, 37)]), (0, [(-1, 40)]), (1, [(-1, 40)]), (2, [(-1, 40)])]))
def kch1655 : aw_H := [(0, kcx2), (1, kcx1654), (2, kcx7), (3, .inr (.inl (0, 40, [], []))), (4, .inr (.inl (0, 40, [], []))), (5, .inr (.inl (0, 40, [], []))), (6, .inr (.inl (0, 40, [], []))), (7, .inr (.inl (0, 40, [], []))), (8, .inr (.inl (0, 40, [], [])))]
def kcx1656 : aw_A := .inr (.inl (0, 6, [(0, 5, [(-1, 40)])], [(3, [(38, 40)]), (0, [(-1, 40)]), (1, [(-1, 40)]), (2, [(-1, 40)])]))
def kch1657 : aw_H := [(0, kcx2), (1, kcx1656), (2, kcx7), (3, .inr (.inl (0, 40, [], []))), (4, .inr (.inl (0, 40, [], []))), (5, .inr (.inl (0, 40, [], []))), (6, .inr (.inl (0, 40, [], []))), (7, .inr (.inl (0, 40, [], []))), (8, .inr (.inl (0, 40, [], [])))]
def kcx1658 : aw_A := .inr (.inl (0, 6, [(0, 5, [(-1, 40)])], [(3, [(39, 40)]), (0, [(-1, 40)]), (1, [(-1, 40)]), (2, [(-1, 40)])]))
def kch1659 : aw_H := [(0, kcx2), (1, kcx1658), (2, kcx7), (3, .inr (.inl (0, 40, [], []))), (4, .inr (.inl (0, 40, [], []))), (5, .inr (.inl (0, 40, [], []))), (6, .inr (.inl (0, 40, [], []))), (7, .inr (.inl (0, 40, [], []))), (8, .inr (.inl (0, 40, [], [])))]
def kcx1660 : aw_A := .inr (.inl (0, 6, [(0, 5, [(-1, 40)])], [(3, [(40, 40)]), (0, [(-1, 40)]), (1, [(-1, 40)]), (2, [(-1, 40)])]))
def kch1661 : aw_H := [(0, kcx2), (1, kcx1660), (2, kcx7), (3, .inr (.inl (0, 40, [], []))), (4, .inr (.inl (0, 40, [], []))), (5, .inr (.inl (0, 40, [], []))), (6, .inr (.inl (0, 40, [], []))), (7, .inr (.inl (0, 40, [], []))), (8, .inr (.inl (0, 40, [], [])))]
def kcx1662 : aw_A := .inr (.inl (0, 6, [(0, 5, [(-1, 40)])], [(3, [(39, 39)]), (0, [(-1, 40)]), (1, [(-1, 40)]), (2, [(-1, 40)])]))
def kch1663 : aw_H := [(0, kcx2), (1, kcx1662), (2, kcx7), (3, .inr (.inl (0, 40, [], []))), (4, .inr (.inl (0, 40, [], []))), (5, .inr (.inl (0, 40, [], []))), (6, .inr (.inl (0, 40, [], []))), (7, .inr (.inl (0, 40, [], []))), (8, .inr (.inl (0, 40, [], [])))]
def kcx1664 : aw_A := .inr (.inl (0, 6, [(0, 5, [(-1, 40)])], [(3, [(38, 38)]), (0, [(-1, 40)]), (1, [(-1, 40)]), (2, [(-1, 40)])]))
def kch1665 : aw_H := [(0, kcx2), (1, kcx1664), (2, kcx7), (3, .inr (.inl (0, 40, [], []))), (4, .inr (.inl (0, 40, [], []))), (5, .inr (.inl (0, 40, [], []))), (6, .inr (.inl (0, 40, [], []))), (7, .inr (.inl (0, 40, [], []))), (8, .inr (.inl (0, 40, [], [])))]
def kcx1666 : aw_A := .inr (.inl (0, 6, [(0, 5, [(-1, 40)])], [(3, [(36, 36)]), (0, [(-1, 40)]), (1, [(-1, 40)]), (2, [(-1, 40)])]))
def kch1667 : aw_H := [(0, kcx2), (1, kcx1666), (2, kcx7), (3, .inr (.inl (0, 40, [], []))), (4, .inr (.inl (0, 40, [], []))), (5, .inr (.inl (0, 40, [], []))), (6, .inr (.inl (0, 40, [], []))), (7, .inr (.inl (0, 40, [], []))), (8, .inr (.inl (0, 40, [], [])))]
def kcx1668 : aw_A := .inr (.inl (0, 6, [(0, 5, [(-1, 40)])], [(3, [(35, 35)]), (0, [(-1, 40)]), (1, [(-1, 40)]), (2, [(-1, 40)])]))
def kch1669 : aw_H := [(0, kcx2), (1, kcx1668), (2, kcx7), (3, .inr (.inl (0, 40, [], []))), (4, .inr (.inl (0, 40, [], []))), (5, .inr (.inl (0, 40, [], []))), (6, .inr (.inl (0, 40, [], []))), (7, .inr (.inl (0, 40, [], []))), (8, .inr (.inl (0, 40, [], [])))]
def kcx1670 : aw_A := .inr (.inl (0, 6, [(0, 5, [(-1, 40)])], [(3, [(30, 30)]), (0, [(-1, 40)]), (1, [(-1, 40)]), (2, [(-1, 40)])]))
def kch1671 : aw_H := [(0, kcx2), (1, kcx1670), (2, kcx7), (3, .inr (.inl (0, 40, [], []))), (4, .inr (.inl (0, 40, [], []))), (5, .inr (.inl (0, 40, [], []))), (6, .inr (.inl (0, 40, [], []))), (7, .inr (.inl (0, 40, [], []))), (8, .inr (.inl (0, 40, [], [])))]
def kcx1672 : aw_A := .inr (.inl (0, 6, [(0, 5, [(-1, 40)])], [(3, [(28, 28)]), (0, [(-1, 40)]), (1, [(-1, 40)]), (2, [(-1, 40)])]))
def kch1673 : aw_H := [(0, kcx2), (1, kcx1672), (2, kcx7), (3, .inr (.inl (0, 40, [], []))), (4, .inr (.inl (0, 40, [], []))), (5, .inr (.inl (0, 40, [], []))), (6, .inr (.inl (0, 40, [], []))), (7, .inr (.inl (0, 40, [], []))), (8, .inr (.inl (0, 40, [], [])))]
def kcx1674 : aw_A := .inr (.inl (0, 6, [(0, 5, [(-1, 40)])], [(3, [(27, 27)]), (0, [(-1, 40)]), (1, [(-1, 40)]), (2, [(-1, 40)])]))
def kch1675 : aw_H := [(0, kcx2), (1, kcx1674), (2, kcx7), (3, .inr (.inl (0, 40, [], []))), (4, .inr (.inl (0, 40, [], []))), (5, .inr (.inl (0, 40, [], []))), (6, .inr (.inl (0, 40, [], []))), (7, .inr (.inl (0, 40, [], []))), (8, .inr (.inl (0, 40, [], [])))]
def kcx1676 : aw_A := .inr (.inl (0, 6, [(0, 5, [(-1, 40)])], [(3, [(26, 26)]), (0, [(-1, 40)]), (1, [(-1, 40)]), (2, [(-1, 40)])]))
def kch1677 : aw_H := [(0, kcx2), (1, kcx1676), (2, kcx7), (3, .inr (.inl (0, 40, [], []))), (4, .inr (.inl (0, 40, [], []))), (5, .inr (.inl (0, 40, [], []))), (6, .inr (.inl (0, 40, [], []))), (7, .inr (.inl (0, 40, [], []))), (8, .inr (.inl (0, 40, [], [])))]
def kcx1678 : aw_A := .inr (.inl (0, 6, [(0, 5, [(-1, 40)])], [(3, [(24, 24)]), (0, [(-1, 40)]), (1, [(-1, 40)]), (2, [(-1, 40)])]))
def kch1679 : aw_H := [(0, kcx2), (1, kcx1678), (2, kcx7), (3, .inr (.inl (0, 40, [], []))), (4, .inr (.inl (0, 40, [], []))), (5, .inr (.inl (0, 40, [], []))), (6, .inr (.inl (0, 40, [], []))), (7, .inr (.inl (0, 40, [], []))), (8, .inr (.inl (0, 40, [], [])))]
def kcx1680 : aw_A := .inr (.inl (0, 6, [(0, 5, [(-1, 40)])], [(3, [(23, 23)]), (0, [(-1, 40)]), (1, [(-1, 40)]), (2, [(-1, 40)])]))
def kch1681 : aw_H := [(0, kcx2), (1, kcx1680), (2, kcx7), (3, .inr (.inl (0, 40, [], []))), (4, .inr (.inl (0, 40, [], []))), (5, .inr (.inl (0, 40, [], []))), (6, .inr (.inl (0, 40, [], []))), (7, .inr (.inl (0, 40, [], []))), (8, .inr (.inl (0, 40, [], [])))]
def kcx1682 : aw_A := .inr (.inl (0, 6, [(0, 5, [(-1, 40)])], [(3, [(22, 22)]), (0, [(-1, 40)]), (1, [(-1, 40)]), (2, [(-1, 40)])]))
def kch1683 : aw_H := [(0, kcx2), (1, kcx1682), (2, kcx7), (3, .inr (.inl (0, 40, [], []))), (4, .inr (.inl (0, 40, [], []))), (5, .inr (.inl (0, 40, [], []))), (6, .inr (.inl (0, 40, [], []))), (7, .inr (.inl (0, 40, [], []))), (8, .inr (.inl (0, 40, [], [])))]
def kcx1684 : aw_A := .inr (.inl (0, 6, [(0, 5, [(-1, 40)])], [(3, [(21, 21)]), (0, [(-1, 40)]), (1, [(-1, 40)]), (2, [(-1, 40)])]))
def kch1685 : aw_H := [(0, kcx2), (1, kcx1684), (2, kcx7), (3, .inr (.inl (0, 40, [], []))), (4, .inr (.inl (0, 40, [], []))), (5, .inr (.inl (0, 40, [], []))), (6, .inr (.inl (0, 40, [], []))), (7, .inr (.inl (0, 40, [], []))), (8, .inr (.inl (0, 40, [], [])))]
def kcx1686 : aw_A := .inr (.inl (0, 6, [(0, 5, [(-1, 40)])], [(3, [(20, 20)]), (0, [(-1, 40)]), (1, [(-1, 40)]), (2, [(-1, 40)])]))
def kch1687 : aw_H := [(0, kcx2), (1, kcx1686), (2, kcx7), (3, .inr (.inl (0, 40, [], []))), (4, .inr (.inl (0, 40, [], []))), (5, .inr (.inl (0, 40, [], []))), (6, .inr (.inl (0, 40, [], []))), (7, .inr (.inl (0, 40, [], []))), (8, .inr (.inl (0, 40, [], [])))]
def kcx1688 : aw_A := .inr (.inl (0, 6, [(0, 5, [(-1, 40)])], [(3, [(19, 19)]), (0, [(-1, 40)]), (1, [(-1, 40)]), (2, [(-1, 40)])]))
def kch1689 : aw_H := [(0, kcx2), (1, kcx1688), (2, kcx7), (3, .inr (.inl (0, 40, [], []))), (4, .inr (.inl (0, 40, [], []))), (5, .inr (.inl (0, 40, [], []))), (6, .inr (.inl (0, 40, [], []))), (7, .inr (.inl (0, 40, [], []))), (8, .inr (.inl (0, 40, [], [])))]
def kcx1690 : aw_A := .inr (.inl (0, 6, [(0, 5, [(-1, 40)])], [(3, [(18, 18)]), (0, [(-1, 40)]), (1, [(-1, 40)]), (2, [(-1, 40)])]))
def kch1691 : aw_H := [(0, kcx2), (1, kcx1690), (2, kcx7), (3, .inr (.inl (0, 40, [], []))), (4, .inr (.inl (0, 40, [], []))), (5, .inr (.inl (0, 40, [], []))), (6, .inr (.inl (0, 40, [], []))), (7, .inr (.inl (0, 40, [], []))), (8, .inr (.inl (0, 40, [], [])))]
def kcx1692 : aw_A := .inr (.inl (0, 6, [(0, 5, [(-1, 40)])], [(3, [(16, 16)]), (0, [(-1, 40)]), (1, [(-1, 40)]), (2, [(-1, 40)])]))
def kch1693 : aw_H := [(0, kcx2), (1, kcx1692), (2, kcx7), (3, .inr (.inl (0, 40, [], []))), (4, .inr (.inl (0, 40, [], []))), (5, .inr (.inl (0, 40, [], []))), (6, .inr (.inl (0, 40, [], []))), (7, .inr (.inl (0, 40, [], []))), (8, .inr (.inl (0, 40, [], [])))]
def kcx1694 : aw_A := .inr (.inl (0, 6, [(0, 5, [(-1, 40)])], [(3, [(15, 15)]), (0, [(-1, 40)]), (1, [(-1, 40)]), (2, [(-1, 40)])]))
def kch1695 : aw_H := [(0, kcx2), (1, kcx1694), (2, kcx7), (3, .inr (.inl (0, 40, [], []))), (4, .inr (.inl (0, 40, [], []))), (5, .inr (.inl (0, 40, [], []))), (6, .inr (.inl (0, 40, [], []))), (7, .inr (.inl (0, 40, [], []))), (8, .inr (.inl (0, 40, [], [])))]
def kcx1696 : aw_A := .inr (.inl (0, 6, [(0, 5, [(-1, 40)])], [(3, [(14, 14)]), (0, [(-1, 40)]), (1, [(-1, 40)]), (2, [(-1, 40)])]))
def kch1697 : aw_H := [(0, kcx2), (1, kcx1696), (2, kcx7), (3, .inr (.inl (0, 40, [], []))), (4, .inr (.inl (0, 40, [], []))), (5, .inr (.inl (0, 40, [], []))), (6, .inr (.inl (0, 40, [], []))), (7, .inr (.inl (0, 40, [], []))), (8, .inr (.inl (0, 40, [], [])))]
def kcx1698 : aw_A := .inr (.inl (0, 6, [(0, 5, [(-1, 40)])], [(3, [(11, 11)]), (0, [(-1, 40)]), (1, [(-1, 40)]), (2, [(-1, 40)])]))
def kch1699 : aw_H := [(0, kcx2), (1, kcx1698), (2, kcx7), (3, .inr (.inl (0, 40, [], []))), (4, .inr (.inl (0, 40, [], []))), (5, .inr (.inl (0, 40, [], []))), (6, .inr (.inl (0, 40, [], []))), (7, .inr (.inl (0, 40, [], []))), (8, .inr (.inl (0, 40, [], [])))]
def kcx1700 : aw_A := .inr (.inl (0, 6, [(0, 5, [(-1, 40)])], [(3, [(10, 10)]), (0, [(-1, 40)]), (1, [(-1, 40)]), (2, [(-1, 40)])]))
def kch1701 : aw_H := [(0, kcx2), (1, kcx1700), (2, kcx7), (3, .inr (.inl (0, 40, [], []))), (4, .inr (.inl (0, 40, [], []))), (5, .inr (.inl (0, 40, [], []))), (6, .inr (.inl (0, 40, [], []))), (7, .inr (.inl (0, 40, [], []))), (8, .inr (.inl (0, 40, [], [])))]
def kcx1702 : aw_A := .inr (.inl (0, 6, [(0, 5, [(-1, 40)])], [(3, [(7, 7)]), (0, [(-1, 40)]), (1, [(-1, 40)]), (2, [(-1, 40)])]))
def kch1703 : aw_H := [(0, kcx2), (1, kcx1702), (2, kcx7), (3, .inr (.inl (0, 40, [], []))), (4, .inr (.inl (0, 40, [], []))), (5, .inr (.inl (0, 40, [], []))), (6, .inr (.inl (0, 40, [], []))), (7, .inr (.inl (0, 40, [], []))), (8, .inr (.inl (0, 40, [], [])))]
def kcx1704 : aw_A := .inr (.inl (0, 6, [(0, 5, [(-1, 40)])], [(3, [(6, 6)]), (0, [(-1, 40)]), (1, [(-1, 40)]), (2, [(-1, 40)])]))
def kch1705 : aw_H := [(0, kcx2), (1, kcx1704), (2, kcx7), (3, .inr (.inl (0, 40, [], []))), (4, .inr (.inl (0, 40, [], []))), (5, .inr (.inl (0, 40, [], []))), (6, .inr (.inl (0, 40, [], []))), (7, .inr (.inl (0, 40, [], []))), (8, .inr (.inl (0, 40, [], [])))]
def kcx1706 : aw_A := .inr (.inl (0, 6, [(0, 5, [(-1, 40)])], [(3, [(5, 5)]), (0, [(-1, 40)]), (1, [(-1, 40)]), (2, [(-1, 40)])]))
def kch1707 : aw_H := [(0, kcx2), (1, kcx1706), (2, kcx7), (3, .inr (.inl (0, 40, [], []))), (4, .inr (.inl (0, 40, [], []))), (5, .inr (.inl (0, 40, [], []))), (6, .inr (.inl (0, 40, [], []))), (7, .inr (.inl (0, 40, [], []))), (8, .inr (.inl (0, 40, [], [])))]
def kcx1708 : aw_A := .inr (.inl (0, 6, [(0, 5, [(-1, 40)])], [(3, [(3, 3)]), (0, [(-1, 40)]), (1, [(-1, 40)]), (2, [(-1, 40)])]))
def kch1709 : aw_H := [(0, kcx2), (1, kcx1708), (2, kcx7), (3, .inr (.inl (0, 40, [], []))), (4, .inr (.inl (0, 40, [], []))), (5, .inr (.inl (0, 40, [], []))), (6, .inr (.inl (0, 40, [], []))), (7, .inr (.inl (0, 40, [], []))), (8, .inr (.inl (0, 40, [], [])))]
def kcx1710 : aw_A := .inr (.inl (0, 6, [(0, 5, [(-1, 40)])], [(3, [(2, 2)]), (0, [(-1, 40)]), (1, [(-1, 40)]), (2, [(-1, 40)])]))
def kch1711 : aw_H := [(0, kcx2), (1, kcx1710), (2, kcx7), (3, .inr (.inl (0, 40, [], []))), (4, .inr (.inl (0, 40, [], []))), (5, .inr (.inl (0, 40, [], []))), (6, .inr (.inl (0, 40, [], []))), (7, .inr (.inl (0, 40, [], []))), (8, .inr (.inl (0, 40, [], [])))]
def kcx1712 : aw_A := .inr (.inl (0, 6, [(0, 5, [(-1, 40)])], [(0, [(-1, 40)]), (1, [(-1, 40)]), (2, [(-1, 40)]), (3, [(-1, 40)])]))
def kch1713 : aw_H := [(0, kcx2), (1, kcx1712), (2, kcx7), (3, .inr (.inl (0, 40, [], []))), (4, .inr (.inl (0, 40, [], []))), (5, .inr (.inl (0, 40, [], []))), (6, .inr (.inl (0, 40, [], []))), (7, .inr (.inl (0, 40, [], []))), (8, .inr (.inl (0, 40, [], [])))]
def kcx1714 : aw_A := .inr (.inl (0, 6, [(0, 5, [(-1, 40)])], [(4, [(1, 40)]), (0, [(-1, 40)]), (1, [(-1, 40)]), (2, [(-1, 40)]), (3, [(-1, 40)])]))
def kch1715 : aw_H := [(0, kcx2), (1, kcx1714), (2, kcx7), (3, .inr (.inl (0, 40, [], []))), (4, .inr (.inl (0, 40, [], []))), (5, .inr (.inl (0, 40, [], []))), (6, .inr (.inl (0, 40, [], []))), (7, .inr (.inl (0, 40, [], []))), (8, .inr (.inl (0, 40, [], [])))]
def kcx1716 : aw_A := .inr (.inl (0, 6, [(0, 5, [(-1, 40)])], [(4, [(2, 40)]), (0, [(-1, 40)]), (1, [(-1, 40)]), (2, [(-1, 40)]), (3, [(-1, 40)])]))
def kch1717 : aw_H := [(0, kcx2), (1, kcx1716), (2, kcx7), (3, .inr (.inl (0, 40, [], []))), (4, .inr (.inl (0, 40, [], []))), (5, .inr (.inl (0, 40, [], []))), (6, .inr (.inl (0, 40, [], []))), (7, .inr (.inl (0, 40, [], []))), (8, .inr (.inl (0, 40, [], [])))]
def kcx1718 : aw_A := .inr (.inl (0, 6, [(0, 5, [(-1, 40)])], [(4, [(2, 2)]), (0, [(-1, 40)]), (1, [(-1, 40)]), (2, [(-1, 40)]), (3, [(-1, 40)])]))
def kch1719 : aw_H := [(0, kcx2), (1, kcx1718), (2, kcx7), (3, .inr (.inl (0, 40, [], []))), (4, .inr (.inl (0, 40, [], []))), (5, .inr (.inl (0, 40, [], []))), (6, .inr (.inl (0, 40, [], []))), (7, .inr (.inl (0, 40, [], []))), (8, .inr (.inl (0, 40, [], [])))]
def kcx1720 : aw_A := .inr (.inl (0, 6, [(0, 5, [(-1, 40)])], [(4, [(3, 40)]), (0, [(-1, 40)]), (1, [(-1, 40)]), (2, [(-1, 40)]), (3, [(-1, 40)])]))
def kch1721 : aw_H := [(0, kcx2), (1, kcx1720), (2, kcx7), (3, .inr (.inl (0, 40, [], []))), (4, .inr (.inl (0, 40, [], []))), (5, .inr (.inl (0, 40, [], []))), (6, .inr (.inl (0, 40, [], []))), (7, .inr (.inl (0, 40, [], []))), (8, .inr (.inl (0, 40, [], [])))]
def kcx1722 : aw_A := .inr (.inl (0, 6, [(0, 5, [(-1, 40)])], [(4, [(4, 40)]), (0, [(-1, 40)]), (1, [(-1, 40)]), (2, [(-1, 40)]), (3, [(-1, 40)])]))
def kch1723 : aw_H := [(0, kcx2), (1, kcx1722), (2, kcx7), (3, .inr (.inl (0, 40, [], []))), (4, .inr (.inl (0, 40, [], []))), (5, .inr (.inl (0, 40, [], []))), (6, .inr (.inl (0, 40, [], []))), (7, .inr (.inl (0, 40, [], []))), (8, .inr (.inl (0, 40, [], [])))]
def kcx1724 : aw_A := .inr (.inl (0, 6, [(0, 5, [(-1, 40)])], [(4, [(5, 40)]), (0, [(-1, 40)]), (1, [(-1, 40)]), (2, [(-1, 40)]), (3, [(-1, 40)])]))
def kch1725 : aw_H := [(0, kcx2), (1, kcx1724), (2, kcx7), (3, .inr (.inl (0, 40, [], []))), (4, .inr (.inl (0, 40, [], []))), (5, .inr (.inl (0, 40, [], []))), (6, .inr (.inl (0, 40, [], []))), (7, .inr (.inl (0, 40, [], []))), (8, .inr (.inl (0, 40, [], [])))]
def kcx1726 : aw_A := .inr (.inl (0, 6, [(0, 5, [(-1, 40)])], [(4, [(5, 5)]), (0, [(-1, 40)]), (1, [(-1, 40)]), (2, [(-1, 40)]), (3, [(-1, 40)])]))
def kch1727 : aw_H := [(0, kcx2), (1, kcx1726), (2, kcx7), (3, .inr (.inl (0, 40, [], []))), (4, .inr (.inl (0, 40, [], []))), (5, .inr (.inl (0, 40, [], []))), (6, .inr (.inl (0, 40, [], []))), (7, .inr (.inl (0, 40, [], []))), (8, .inr (.inl (0, 40, [], [])))]
def kcx1728 : aw_A := .inr (.inl (0, 6, [(0, 5, [(-1, 40)])], [(4, [(6, 40)]), (0, [(-1, 40)]), (1, [(-1, 40)]), (2, [(-1, 40)]), (3, [(-1, 40)])]))
def kch1729 : aw_H := [(0, kcx2), (1, kcx1728), (2, kcx7), (3, .inr (.inl (0, 40, [], []))), (4, .inr (.inl (0, 40, [], []))), (5, .inr (.inl (0, 40, [], []))), (6, .inr (.inl (0, 40, [], []))), (7, .inr (.inl (0, 40, [], []))), (8, .inr (.inl (0, 40, [], [])))]
def kcx1730 : aw_A := .inr (.inl (0, 6, [(0, 5, [(-1, 40)])], [(4, [(7, 40)]), (0, [(-1, 40)]), (1, [(-1, 40)]), (2, [(-1, 40)]), (3, [(-1, 40)])]))
def kch1731 : aw_H := [(0, kcx2), (1, kcx1730), (2, kcx7), (3, .inr (.inl (0, 40, [], []))), (4, .inr (.inl (0, 40, [], []))), (5, .inr (.inl (0, 40, [], []))), (6, .inr (.inl (0, 40, [], []))), (7, .inr (.inl (0, 40, [], []))), (8, .inr (.inl (0, 40, [], [])))]
def kcx1732 : aw_A := .inr (.inl (0, 6, [(0, 5, [(-1, 40)])], [(4, [(7, 7)]), (0, [(-1, 40)]), (1, [(-1, 40)]), (2, [(-1, 40)]), (3, [(-1, 40)])]))
def kch1733 : aw_H := [(0, kcx2), (1, kcx1732), (2, kcx7), (3, .inr (.inl (0, 40, [], []))), (4, .inr (.inl (0, 40, [], []))), (5, .inr (.inl (0, 40, [], []))), (6, .inr (.inl (0, 40, [], []))), (7, .inr (.inl (0, 40, [], []))), (8, .inr (.inl (0, 40, [], [])))]
def kcx1734 : aw_A := .inr (.inl (0, 6, [(0, 5, [(-1, 40)])], [(4, [(8, 40)]), (0, [(-1, 40)]), (1, [(-1, 40)]), (2, [(-1, 40)]), (3, [(-1, 40)])]))
def kch1735 : aw_H := [(0, kcx2), (1, kcx1734), (2, kcx7), (3, .inr (.inl (0, 40, [], []))), (4, .inr (.inl (0, 40, [], []))), (5, .inr (.inl (0, 40, [], []))), (6, .inr (.inl (0, 40, [], []))), (7, .inr (.inl (0, 40, [], []))), (8, .inr (.inl (0, 40, [], [])))]
def kcx1736 : aw_A := .inr (.inl (0, 6, [(0, 5, [(-1, 40)])], [(4, [(9, 40)]), (0, [(-1, 40)]), (1, [(-1, 40)]), (2, [(-1, 40)]), (3, [(-1, 40)])]))
def kch1737 : aw_H := [(0, kcx2), (1, kcx1736), (2, kcx7), (3, .inr (.inl (0, 40, [], []))), (4, .inr (.inl (0, 40, [], []))), (5, .inr (.inl (0, 40, [], []))), (6, .inr (.inl (0, 40, [], []))), (7, .inr (.inl (0, 40, [], []))), (8, .inr (.inl (0, 40, [], [])))]
def kcx1738 : aw_A := .inr (.inl (0, 6, [(0, 5, [(-1, 40)])], [(4, [(10, 40)]), (0, [(-1, 40)]), (1, [(-1, 40)]), (2, [(-1, 40)]), (3, [(-1, 40)])]))
def kch1739 : aw_H := [(0, kcx2), (1, kcx1738), (2, kcx7), (3, .inr (.inl (0, 40, [], []))), (4, .inr (.inl (0, 40, [], []))), (5, .inr (.inl (0, 40, [], []))), (6, .inr (.inl (0, 40, [], []))), (7, .inr (.inl (0, 40, [], []))), (8, .inr (.inl (0, 40, [], [])))]
def kcx1740 : aw_A := .inr (.inl (0, 6, [(0, 5, [(-1, 40)])], [(4, [(10, 10)]), (0, [(-1, 40)]), (1, [(-1, 40)]), (2, [(-1, 40)]), (3, [(-1, 40)])]))
def kch1741 : aw_H := [(0, kcx2), (1, kcx1740), (2, kcx7), (3, .inr (.inl (0, 40, [], []))), (4, .inr (.inl (0, 40, [], []))), (5, .inr (.inl (0, 40, [], []))), (6, .inr (.inl (0, 40, [], []))), (7, .inr (.inl (0, 40, [], []))), (8, .inr (.inl (0, 40, [], [])))]
def kcx1742 : aw_A := .inr (.inl (0, 6, [(0, 5, [(-1, 40)])], [(4, [(11, 40)]), (0, [(-1, 40)]), (1, [(-1, 40)]), (2, [(-1, 40)]), (3, [(-1, 40)])]))
def kch1743 : aw_H := [(0, kcx2), (1, kcx1742), (2, kcx7), (3, .inr (.inl (0, 40, [], []))), (4, .inr (.inl (0, 40, [], []))), (5, .inr (.inl (0, 40, [], []))), (6, .inr (.inl (0, 40, [], []))), (7, .inr (.inl (0, 40, [], []))), (8, .inr (.inl (0, 40, [], [])))]
def kcx1744 : aw_A := .inr (.inl (0, 6, [(0, 5, [(-1, 40)])], [(4, [(11, 11)]), (0, [(-1, 40)]), (1, [(-1, 40)]), (2, [(-1, 40)]), (3, [(-1, 40)])]))
def kch1745 : aw_H := [(0, kcx2), (1, kcx1744), (2, kcx7), (3, .inr (.inl (0, 40, [], []))), (4, .inr (.inl (0, 40, [], []))), (5, .inr (.inl (0, 40, [], []))), (6, .inr (.inl (0, 40, [], []))), (7, .inr (.inl (0, 40, [], []))), (8, .inr (.inl (0, 40, [], [])))]
def kcx1746 : aw_A := .inr (.inl (0, 6, [(0, 5, [(-1, 40)])], [(4, [(12, 40)]), (0, [(-1, 40)]), (1, [(-1, 40)]), (2, [(-1, 40)]), (3, [(-1, 40)])]))
def kch1747 : aw_H := [(0, kcx2), (1, kcx1746), (2, kcx7), (3, .inr (.inl (0, 40, [], []))), (4, .inr (.inl (0, 40, [], []))), (5, .inr (.inl (0, 40, [], []))), (6, .inr (.inl (0, 40, [], []))), (7, .inr (.inl (0, 40, [], []))), (8, .inr (.inl (0, 40, [], [])))]
def kcx1748 : aw_A := .inr (.inl (0, 6, [(0, 5, [(-1, 40)])], [(4, [(13, 40)]), (0, [(-1, 40)]), (1, [(-1, 40)]), (2, [(-1, 40)]), (3, [(-1, 40)])]))
def kch1749 : aw_H := [(0, kcx2), (1, kcx1748), (2, kcx7), (3, .inr (.inl (0, 40, [], []))), (4, .inr (.inl (0, 40, [], []))), (5, .inr (.inl (0, 40, [], []))), (6, .inr (.inl (0, 40, [], []))), (7, .inr (.inl (0, 40, [], []))), (8, .inr (.inl (0, 40, [], [])))]
def kcx1750 : aw_A := .inr (.inl (0, 6, [(0, 5, [(-1, 40)])], [(4, [(13, 13)]), (0, [(-1, 40)]), (1, [(-1, 40)]), (2, [(-1, 40)]), (3, [(-1, 40)])]))
def kch1751 : aw_H := [(0, kcx2), (1, kcx1750), (2, kcx7), (3, .inr (.inl (0, 40, [], []))), (4, .inr (.inl (0, 40, [], []))), (5, .inr (.inl (0, 40, [], []))), (6, .inr (.inl (0, 40, [], []))), (7, .inr (.inl (0, 40, [], []))), (8, .inr (.inl (0, 40, [], [])))]
def kcx1752 : aw_A := .inr (.inl (0, 6, [(0, 5, [(-1, 40)])], [(4, [(14, 40)]), (0, [(-1, 40)]), (1, [(-1, 40)]), (2, [(-1, 40)]), (3, [(-1, 40)])]))
def kch1753 : aw_H := [(0, kcx2), (1, kcx1752), (2, kcx7), (3, .inr (.inl (0, 40, [], []))), (4, .inr (.inl (0, 40, [], []))), (5, .inr (.inl (0, 40, [], []))), (6, .inr (.inl (0, 40, [], []))), (7, .inr (.inl (0, 40, [], []))), (8, .inr (.inl (0, 40, [], [])))]
def kcx1754 : aw_A := .inr (.inl (0, 6, [(0, 5, [(-1, 40)])], [(4, [(14, 14)]), (0, [(-1, 40)]), (1, [(-1, 40)]), (2, [(-1, 40)]), (3, [(-1, 40)])]))
def kch1755 : aw_H := [(0, kcx2), (1, kcx1754), (2, kcx7), (3, .inr (.inl (0, 40, [], []))), (4, .inr (.inl (0, 40, [], []))), (5, .inr (.inl (0, 40, [], []))), (6, .inr (.inl (0, 40, [], []))), (7, .inr (.inl (0, 40, [], []))), (8, .inr (.inl (0, 40, [], [])))]
def kcx1756 : aw_A := .inr (.inl (0, 6, [(0, 5, [(-1, 40)])], [(4, [(15, 40)]), (0, [(-1, 40)]), (1, [(-1, 40)]), (2, [(-1, 40)]), (3, [(-1, 40)])]))
def kch1757 : aw_H := [(0, kcx2), (1, kcx1756), (2, kcx7), (3, .inr (.inl (0, 40, [], []))), (4, .inr (.inl (0, 40, [], []))), (5, .inr (.inl (0, 40, [], []))), (6, .inr (.inl (0, 40, [], []))), (7, .inr (.inl (0, 40, [], []))), (8, .inr (.inl (0, 40, [], [])))]
def kcx1758 : aw_A := .inr (.inl (0, 6, [(0, 5, [(-1, 40)])], [(4, [(15, 15)]), (0, [(-1, 40)]), (1, [(-1, 40)]), (2, [(-1, 40)]), (3, [(-1, 40)])]))
def kch1759 : aw_H := [(0, kcx2), (1, kcx1758), (2, kcx7), (3, .inr (.inl (0, 40, [], []))), (4, .inr (.inl (0, 40, [], []))), (5, .inr (.inl (0, 40, [], []))), (6, .inr (.inl (0, 40, [], []))), (7, .inr (.inl (0, 40, [], []))), (8, .inr (.inl (0, 40, [], [])))]
def kcx1760 : aw_A := .inr (.inl (0, 6, [(0, 5, [(-1, 40)])], [(4, [(16, 40)]), (0, [(-1, 40)]), (1, [(-1, 40)]), (2, [(-1, 40)]), (3, [(-1, 40)])]))
def kch1761 : aw_H := [(0, kcx2), (1, kcx1760), (2, kcx7), (3, .inr (.inl (0, 40, [], []))), (4, .inr (.inl (0, 40, [], []))), (5, .inr (.inl (0, 40, [], []))), (6, .inr (.inl (0, 40, [], []))), (7, .inr (.inl (0, 40, [], []))), (8, .inr (.inl (0, 40, [], [])))]
def kcx1762 : aw_A := .inr (.inl (0, 6, [(0, 5, [(-1, 40)])], [(4, [(17, 40)]), (0, [(-1, 40)]), (1, [(-1, 40)]), (2, [(-1, 40)]), (3, [(-1, 40)])]))
def kch1763 : aw_H := [(0, kcx2), (1, kcx1762), (2, kcx7), (3, .inr (.inl (0, 40, [], []))), (4, .inr (.inl (0, 40, [], []))), (5, .inr (.inl (0, 40, [], []))), (6, .inr (.inl (0, 40, [], []))), (7, .inr (.inl (0, 40, [], []))), (8, .inr (.inl (0, 40, [], [])))]
def kcx1764 : aw_A := .inr (.inl (0, 6, [(0, 5, [(-1, 40)])], [(4, [(17, 17)]), (0, [(-1, 40)]), (1, [(-1, 40)]), (2, [(-1, 40)]), (3, [(-1, 40)])]))
def kch1765 : aw_H := [(0, kcx2), (1, kcx1764), (2, kcx7), (3, .inr (.inl (0, 40, [], []))), (4, .inr (.inl (0, 40, [], []))), (5, .inr (.inl (0, 40, [], []))), (6, .inr (.inl (0, 40, [], []))), (7, .inr (.inl (0, 40, [], []))), (8, .inr (.inl (0, 40, [], [])))]
def kcx1766 : aw_A := .inr (.inl (0, 6, [(0, 5, [(-1, 40)])], [(4, [(18, 40)]), (0, [(-1, 40)]), (1, [(-1, 40)]), (2, [(-1, 40)]), (3, [(-1, 40)])]))
def kch1767 : aw_H := [(0, kcx2), (1, kcx1766), (2, kcx7), (3, .inr (.inl (0, 40, [], []))), (4, .inr (.inl (0, 40, [], []))), (5, .inr (.inl (0, 40, [], []))), (6, .inr (.inl (0, 40, [], []))), (7, .inr (.inl (0, 40, [], []))), (8, .inr (.inl (0, 40, [], [])))]
def kcx1768 : aw_A := .inr (.inl (0, 6, [(0, 5, [(-1, 40)])], [(4, [(18, 18)]), (0, [(-1, 40)]), (1, [(-1, 40)]), (2, [(-1, 40)]), (3, [(-1, 40)])]))
def kch1769 : aw_H := [(0, kcx2), (1, kcx1768), (2, kcx7), (3, .inr (.inl (0, 40, [], []))), (4, .inr (.inl (0, 40, [], []))), (5, .inr (.inl (0, 40, [], []))), (6, .inr (.inl (0, 40, [], []))), (7, .inr (.inl (0, 40, [], []))), (8, .inr (.inl (0, 40, [], [])))]
def kcx1770 : aw_A := .inr (.inl (0, 6, [(0, 5, [(-1, 40)])], [(4, [(19, 40)]), (0, [(-1, 40)]), (1, [(-1, 40)]), (2, [(-1, 40)]), (3, [(-1, 40)])]))
def kch1771 : aw_H := [(0, kcx2), (1, kcx1770), (2, kcx7), (3, .inr (.inl (0, 40, [], []))), (4, .inr (.inl (0, 40, [], []))), (5, .inr (.inl (0, 40, [], []))), (6, .inr (.inl (0, 40, [], []))), (7, .inr (.inl (0, 40, [], []))), (8, .inr (.inl (0, 40, [], [])))]
def kcx1772 : aw_A := .inr (.inl (0, 6, [(0, 5, [(-1, 40)])], [(4, [(20, 40)]), (0, [(-1, 40)]), (1, [(-1, 40)]), (2, [(-1, 40)]), (3, [(-1, 40)])]))
def kch1773 : aw_H := [(0, kcx2), (1, kcx1772), (2, kcx7), (3, .inr (.inl (0, 40, [], []))), (4, .inr (.inl (0, 40, [], []))), (5, .inr (.inl (0, 40, [], []))), (6, .inr (.inl (0, 40, [], []))), (7, .inr (.inl (0, 40, [], []))), (8, .inr (.inl (0, 40, [], [])))]
def kcx1774 : aw_A := .inr (.inl (0, 6, [(0, 5, [(-1, 40)])], [(4, [(21, 40)]), (0, [(-1, 40)]), (1, [(-1, 40)]), (2, [(-1, 40)]), (3, [(-1, 40)])]))
def kch1775 : aw_H := [(0, kcx2), (1, kcx1774), (2, kcx7), (3, .inr (.inl (0, 40, [], []))), (4, .inr (.inl (0, 40, [], []))), (5, .inr (.inl (0, 40, [], []))), (6, .inr (.inl (0, 40, [], []))), (7, .inr (.inl (0, 40, [], []))), (8, .inr (.inl (0, 40, [], [])))]
def kcx1776 : aw_A := .inr (.inl (0, 6, [(0, 5, [(-1, 40)])], [(4, [(22, 40)]), (0, [(-1, 40)]), (1, [(-1, 40)]), (2, [(-1, 40)]), (3, [(-1, 40)])]))
def kch1777 : aw_H := [(0, kcx2), (1, kcx1776), (2, kcx7), (3, .inr (.inl (0, 40, [], []))), (4, .inr (.inl (0, 40, [], []))), (5, .inr (.inl (0, 40, [], []))), (6, .inr (.inl (0, 40, [], []))), (7, .inr (.inl (0, 40, [], []))), (8, .inr (.inl (0, 40, [], [])))]
def kcx1778 : aw_A := .inr (.inl (0, 6, [(0, 5, [(-1, 40)])], [(4, [(22, 22)]), (0, [(-1, 40)]), (1, [(-1, 40)]), (2, [(-1, 40)]), (3, [(-1, 40)])]))
def kch1779 : aw_H := [(0, kcx2), (1, kcx1778), (2, kcx7), (3, .inr (.inl (0, 40, [], []))), (4, .inr (.inl (0, 40, [], []))), (5, .inr (.inl (0, 40, [], []))), (6, .inr (.inl (0, 40, [], []))), (7, .inr (.inl (0, 40, [], []))), (8, .inr (.inl (0, 40, [], [])))]
def kcx1780 : aw_A := .inr (.inl (0, 6, [(0, 5, [(-1, 40)])], [(4, [(23, 40)]), (0, [(-1, 40)]), (1, [(-1, 40)]), (2, [(-1, 40)]), (3, [(-1, 40)])]))
def kch1781 : aw_H := [(0, kcx2), (1, kcx1780), (2, kcx7), (3, .inr (.inl (0, 40, [], []))), (4, .inr (.inl (0, 40, [], []))), (5, .inr (.inl (0, 40, [], []))), (6, .inr (.inl (0, 40, [], []))), (7, .inr (.inl (0, 40, [], []))), (8, .inr (.inl (0, 40, [], [])))]
def kcx1782 : aw_A := .inr (.inl (0, 6, [(0, 5, [(-1, 40)])], [(4, [(23, 23)]), (0, [(-1, 40)]), (1, [(-1, 40)]), (2, [(-1, 40)]), (3, [(-1, 40)])]))
def kch1783 : aw_H := [(0, kcx2), (1, kcx1782), (2, kcx7), (3, .inr (.inl (0, 40, [], []))), (4, .inr (.inl (0, 40, [], []))), (5, .inr (.inl (0, 40, [], []))), (6, .inr (.inl (0, 40, [], []))), (7, .inr (.inl (0, 40, [], []))), (8, .inr (.inl (0, 40, [], [])))]
def kcx1784 : aw_A := .inr (.inl (0, 6, [(0, 5, [(-1, 40)])], [(4, [(24, 40)]), (0, [(-1, 40)]), (1, [(-1, 40)]), (2, [(-1, 40)]), (3, [(-1, 40)])]))
def kch1785 : aw_H := [(0, kcx2), (1, kcx1784), (2, kcx7), (3, .inr (.inl (0, 40, [], []))), (4, .inr (.inl (0, 40, [], []))), (5, .inr (.inl (0, 40, [], []))), (6, .inr (.inl (0, 40, [], []))), (7, .inr (.inl (0, 40, [], []))), (8, .inr (.inl (0, 40, [], [])))]
def kcx1786 : aw_A := .inr (.inl (0, 6, [(0, 5, [(-1, 40)])], [(4, [(25, 40)]), (0, [(-1, 40)]), (1, [(-1, 40)]), (2, [(-1, 40)]), (3, [(-1, 40)])]))
def kch1787 : aw_H := [(0, kcx2), (1, kcx1786), (2, kcx7), (3, .inr (.inl (0, 40, [], []))), (4, .inr (.inl (0, 40, [], []))), (5, .inr (.inl (0, 40, [], []))), (6, .inr (.inl (0, 40, [], []))), (7, .inr (.inl (0, 40, [], []))), (8, .inr (.inl (0, 40, [], [])))]
def kcx1788 : aw_A := .inr (.inl (0, 6, [(0, 5, [(-1, 40)])], [(4, [(26, 40)]), (0, [(-1, 40)]), (1, [(-1, 40)]), (2, [(-1, 40)]), (3, [(-1, 40)])]))
def kch1789 : aw_H := [(0, kcx2), (1, kcx1788), (2, kcx7), (3, .inr (.inl (0, 40, [], []))), (4, .inr (.inl (0, 40, [], []))), (5, .inr (.inl (0, 40, [], []))), (6, .inr (.inl (0, 40, [], []))), (7, .inr (.inl (0, 40, [], []))), (8, .inr (.inl (0, 40, [], [])))]
def kcx1790 : aw_A := .inr (.inl (0, 6, [(0, 5, [(-1, 40)])], [(4, [(27, 40)]), (0, [(-1, 40)]), (1, [(-1, 40)]), (2, [(-1, 40)]), (3, [(-1, 40)])]))
def kch1791 : aw_H := [(0, kcx2), (1, kcx1790), (2, kcx7), (3, .inr (.inl (0, 40, [], []))), (4, .inr (.inl (0, 40, [], []))), (5, .inr (.inl (0, 40, [], []))), (6, .inr (.inl (0, 40, [], []))), (7, .inr (.inl (0, 40, [], []))), (8, .inr (.inl (0, 40, [], [])))]
def kcx1792 : aw_A := .inr (.inl (0, 6, [(0, 5, [(-1, 40)])], [(4, [(27, 27)]), (0, [(-1, 40)]), (1, [(-1, 40)]), (2, [(-1, 40)]), (3, [(-1, 40)])]))
def kch1793 : aw_H := [(0, kcx2), (1, kcx1792), (2, kcx7), (3, .inr (.inl (0, 40, [], []))), (4, .inr (.inl (0, 40, [], []))), (5, .inr (.inl (0, 40, [], []))), (6, .inr (.inl (0, 40, [], []))), (7, .inr (.inl (0, 40, [], []))), (8, .inr (.inl (0, 40, [], [])))]
def kcx1794 : aw_A := .inr (.inl (0, 6, [(0, 5, [(-1, 40)])], [(4, [(28, 40)]), (0, [(-1, 40)]), (1, [(-1, 40)]), (2, [(-1, 40)]), (3, [(-1, 40)])]))
def kch1795 : aw_H := [(0, kcx2), (1, kcx1794), (2, kcx7), (3, .inr (.inl (0, 40, [], []))), (4, .inr (.inl (0, 40, [], []))), (5, .inr (.inl (0, 40, [], []))), (6, .inr (.inl (0, 40, [], []))), (7, .inr (.inl (0, 40, [], []))), (8, .inr (.inl (0, 40, [], [])))]
def kcx1796 : aw_A := .inr (.inl (0, 6, [(0, 5, [(-1, 40)])], [(4, [(29, 40)]), (0, [(-1, 40)]), (1, [(-1, 40)]), (2, [(-1, 40)]), (3, [(-1, 40)])]))
def kch1797 : aw_H := [(0, kcx2), (1, kcx1796), (2, kcx7), (3, .inr (.inl (0, 40, [], []))), (4, .inr (.inl (0, 40, [], []))), (5, .inr (.inl (0, 40, [], []))), (6, .inr (.inl (0, 40, [], []))), (7, .inr (.inl (0, 40, [], []))), (8, .inr (.inl (0, 40, [], [])))]
def kcx1798 : aw_A := .inr (.inl (0, 6, [(0, 5, [(-1, 40)])], [(4, [(30, 40)]), (0, [(-1, 40)]), (1, [(-1, 40)]), (2, [(-1, 40)]), (3, [(-1, 40)])]))
def kch1799 : aw_H := [(0, kcx2), (1, kcx1798), (2, kcx7), (3, .inr (.inl (0, 40, [], []))), (4, .inr (.inl (0, 40, [], []))), (5, .inr (.inl (0, 40, [], []))), (6, .inr (.inl (0, 40, [], []))), (7, .inr (.inl (0, 40, [], []))), (8, .inr (.inl (0, 40, [], [])))]
def kcx1800 : aw_A := .inr (.inl (0, 6, [(0, 5, [(-1, 40)])], [(4, [(30, 30)]), (0, [(-1, 40)]), (1, [(-1, 40)]), (2, [(-1, 40)]), (3, [(-1, 40)])]))
def kch1801 : aw_H := [(0, kcx2), (1, kcx1800), (2, kcx7), (3, .inr (.inl (0, 40, [], []))), (4, .inr (.inl (0, 40, [], []))), (5, .inr (.inl (0, 40, [], []))), (6, .inr (.inl (0, 40, [], []))), (7, .inr (.inl (0, 40, [], []))), (8, .inr (.inl (0, 40, [], [])))]
def kcx1802 : aw_A := .inr (.inl (0, 6, [(0, 5, [(-1, 40)])], [(4, [(31, 40)]), (0, [(-1, 40)]), (1, [(-1, 40)]), (2, [(-1, 40)]), (3, [(-1, 40)])]))
def kch1803 : aw_H := [(0, kcx2), (1, kcx1802), (2, kcx7), (3, .inr (.inl (0, 40, [], []))), (4, .inr (.inl (0, 40, [], []))), (5, .inr (.inl (0, 40, [], []))), (6, .inr (.inl (0, 40, [], []))), (7, .inr (.inl (0, 40, [], []))), (8, .inr (.inl (0, 40, [], [])))]
def kcx1804 : aw_A := .inr (.inl (0, 6, [(0, 5, [(-1, 40)])], [(4, [(31, 31)]), (0, [(-1, 40)]), (1, [(-1, 40)]), (2, [(-1, 40)]), (3, [(-1, 40)])]))
def kch1805 : aw_H := [(0, kcx2), (1, kcx1804), (2, kcx7), (3, .inr (.inl (0, 40, [], []))), (4, .inr (.inl (0, 40, [], []))), (5, .inr (.inl (0, 40, [], []))), (6, .inr (.inl (0, 40, [], []))), (7, .inr (.inl (0, 40, [], []))), (8, .inr (.inl (0, 40, [], [])))]
def kcx1806 : aw_A := .inr (.inl (0, 6, [(0, 5, [(-1, 40)])], [(4, [(32, 40)]), (0, [(-1, 40)]), (1, [(-1, 40)]), (2, [(-1, 40)]), (3, [(-1, 40)])]))
def kch1807 : aw_H := [(0, kcx2), (1, kcx1806), (2, kcx7), (3, .inr (.inl (0, 40, [], []))), (4, .inr (.inl (0, 40, [], []))), (5, .inr (.inl (0, 40, [], []))), (6, .inr (.inl (0, 40, [], []))), (7, .inr (.inl (0, 40, [], []))), (8, .inr (.inl (0, 40, [], [])))]
def kcx1808 : aw_A := .inr (.inl (0, 6, [(0, 5, [(-1, 40)])], [(4, [(32, 32)]), (0, [(-1, 40)]), (1, [(-1, 40)]), (2, [(-1, 40)]), (3, [(-1, 40)])]))
def kch1809 : aw_H := [(0, kcx2), (1, kcx1808), (2, kcx7), (3, .inr (.inl (0, 40, [], []))), (4, .inr (.inl (0, 40, [], []))), (5, .inr (.inl (0, 40, [], []))), (6, .inr (.inl (0, 40, [], []))), (7, .inr (.inl (0, 40, [], []))), (8, .inr (.inl (0, 40, [], [])))]
def kcx1810 : aw_A := .inr (.inl (0, 6, [(0, 5, [(-1, 40)])], [(4, [(33, 40)]), (0, [(-1, 40)]), (1, [(-1, 40)]), (2, [(-1, 40)]), (3, [(-1, 40)])]))
def kch1811 : aw_H := [(0, kcx2), (1, kcx1810), (2, kcx7), (3, .inr (.inl (0, 40, [], []))), (4, .inr (.inl (0, 40, [], []))), (5, .inr (.inl (0, 40, [], []))), (6, .inr (.inl (0, 40, [], []))), (7, .inr (.inl (0, 40, [], []))), (8, .inr (.inl (0, 40, [], [])))]
def kcx1812 : aw_A := .inr (.inl (0, 6, [(0, 5, [(-1, 40)])], [(4, [(34, 40)]), (0, [(-1, 40)]), (1, [(-1, 40)]), (2, [(-1, 40)]), (3, [(-1, 40)])]))
def kch1813 : aw_H := [(0, kcx2), (1, kcx1812), (2, kcx7), (3, .inr (.inl (0, 40, [], []))), (4, .inr (.inl (0, 40, [], []))), (5, .inr (.inl (0, 40, [], []))), (6, .inr (.inl (0, 40, [], []))), (7, .inr (.inl (0, 40, [], []))), (8, .inr (.inl (0, 40, [], [])))]
def kcx1814 : aw_A := .inr (.inl (0, 6, [(0, 5, [(-1, 40)])], [(4, [(35, 40)]), (0, [(-1, 40)]), (1, [(-1, 40)]), (2, [(-1, 40)]), (3, [(-1, 40)])]))
def kch1815 : aw_H := [(0, kcx2), (1, kcx1814), (2, kcx7), (3, .inr (.inl (0, 40, [], []))), (4, .inr (.inl (0, 40, [], []))), (5, .inr (.inl (0, 40, [], []))), (6, .inr (.inl (0, 40, [], []))), (7, .inr (.inl (0, 40, [], []))), (8, .inr (.inl (0, 40, [], [])))]
def kcx1816 : aw_A := .inr (.inl (0, 6, [(0, 5, [(-1, 40)])], [(4, [(36, 40)]), (0, [(-1, 40)]), (1, [(-1, 40)]), (2, [(-1, 40)]), (3, [(-1, 40)])]))
def kch1817 : aw_H := [(0, kcx2), (1, kcx1816), (2, kcx7), (3, .inr (.inl (0, 40, [], []))), (4, .inr (.inl (0, 40, [], []))), (5, .inr (.inl (0, 40, [], []))), (6, .inr (.inl (0, 40, [], []))), (7, .inr (.inl (0, 40, [], []))), (8, .inr (.inl (0, 40, [], [])))]
def kcx1818 : aw_A := .inr (.inl (0, 6, [(0, 5, [(-1, 40)])], [(4, [(37, 40)]), (0, [(-1, 40)]), (1, [(-1, 40)]), (2, [(-1, 40)]), (3, [(-1, 40)])]))
def kch1819 : aw_H := [(0, kcx2), (1, kcx1818), (2, kcx7), (3, .inr (.inl (0, 40, [], []))), (4, .inr (.inl (0, 40, [], []))), (5, .inr (.inl (0, 40, [], []))), (6, .inr (.inl (0, 40, [], []))), (7, .inr (.inl (0, 40, [], []))), (8, .inr (.inl (0, 40, [], [])))]
def kcx1820 : aw_A := .inr (.inl (0, 6, [(0, 5, [(-1, 40)])], [(4, [(38, 40)]), (0, [(-1, 40)]), (1, [(-1, 40)]), (2, [(-1, 40)]), (3, [(-1, 40)])]))
def kch1821 : aw_H := [(0, kcx2), (1, kcx1820), (2, kcx7), (3, .inr (.inl (0, 40, [], []))), (4, .inr (.inl (0, 40, [], []))), (5, .inr (.inl (0, 40, [], []))), (6, .inr (.inl (0, 40, [], []))), (7, .inr (.inl (0, 40, [], []))), (8, .inr (.inl (0, 40, [], [])))]
def kcx1822 : aw_A := .inr (.inl (0, 6, [(0, 5, [(-1, 40)])], [(4, [(38, 38)]), (0, [(-1, 40)]), (1, [(-1, 40)]), (2, [(-1, 40)]), (3, [(-1, 40)])]))
def kch1823 : aw_H := [(0, kcx2), (1, kcx1822), (2, kcx7), (3, .inr (.inl (0, 40, [], []))), (4, .inr (.inl (0, 40, [], []))), (5, .inr (.inl (0, 40, [], []))), (6, .inr (.inl (0, 40, [], []))), (7, .inr (.inl (0, 40, [], []))), (8, .inr (.inl (0, 40, [], [])))]
def kcx1824 : aw_A := .inr (.inl (0, 6, [(0, 5, [(-1, 40)])], [(4, [(39, 40)]), (0, [(-1, 40)]), (1, [(-1, 40)]), (2, [(-1, 40)]), (3, [(-1, 40)])]))
def kch1825 : aw_H := [(0, kcx2), (1, kcx1824), (2, kcx7), (3, .inr (.inl (0, 40, [], []))), (4, .inr (.inl (0, 40, [], []))), (5, .inr (.inl (0, 40, [], []))), (6, .inr (.inl (0, 40, [], []))), (7, .inr (.inl (0, 40, [], []))), (8, .inr (.inl (0, 40, [], [])))]
def kcx1826 : aw_A := .inr (.inl (0, 6, [(0, 5, [(-1, 40)])], [(4, [(39, 39)]), (0, [(-1, 40)]), (1, [(-1, 40)]), (2, [(-1, 40)]), (3, [(-1, 40)])]))
def kch1827 : aw_H := [(0, kcx2), (1, kcx1826), (2, kcx7), (3, .inr (.inl (0, 40, [], []))), (4, .inr (.inl (0, 40, [], []))), (5, .inr (.inl (0, 40, [], []))), (6, .inr (.inl (0, 40, [], []))), (7, .inr (.inl (0, 40, [], []))), (8, .inr (.inl (0, 40, [], [])))]
def kcx1828 : aw_A := .inr (.inl (0, 6, [(0, 5, [(-1, 40)])], [(4, [(40, 40)]), (0, [(-1, 40)]), (1, [(-1, 40)]), (2, [(-1, 40)]), (3, [(-1, 40)])]))
def kch1829 : aw_H := [(0, kcx2), (1, kcx1828), (2, kcx7), (3, .inr (.inl (0, 40, [], []))), (4, .inr (.inl (0, 40, [], []))), (5, .inr (.inl (0, 40, [], []))), (6, .inr (.inl (0, 40, [], []))), (7, .inr (.inl (0, 40, [], []))), (8, .inr (.inl (0, 40, [], [])))]
def kcx1830 : aw_A := .inr (.inl (0, 6, [(0, 5, [(-1, 40)])], [(4, [(37, 37)]), (0, [(-1, 40)]), (1, [(-1, 40)]), (2, [(-1, 40)]), (3, [(-1, 40)])]))
def kch1831 : aw_H := [(0, kcx2), (1, kcx1830), (2, kcx7), (3, .inr (.inl (0, 40, [], []))), (4, .inr (.inl (0, 40, [], []))), (5, .inr (.inl (0, 40, [], []))), (6, .inr (.inl (0, 40, [], []))), (7, .inr (.inl (0, 40, [], []))), (8, .inr (.inl (0, 40, [], [])))]
def kcx1832 : aw_A := .inr (.inl (0, 6, [(0, 5, [(-1, 40)])], [(4, [(36, 36)]), (0, [(-1, 40)]), (1, [(-1, 40)]), (2, [(-1, 40)]), (3, [(-1, 40)])]))
def kch1833 : aw_H := [(0, kcx2), (1, kcx1832), (2, kcx7), (3, .inr (.inl (0, 40, [], []))), (4, .inr (.inl (0, 40, [], []))), (5, .inr (.inl (0, 40, [], []))), (6, .inr (.inl (0, 40, [], []))), (7, .inr (.inl (0, 40, [], []))), (8, .inr (.inl (0, 40, [], [])))]
def kcx1834 : aw_A := .inr (.inl (0, 6, [(0, 5, [(-1, 40)])], [(4, [(35, 35)]), (0, [(-1, 40)]), (1, [(-1, 40)]), (2, [(-1, 40)]), (3, [(-1, 40)])]))
def kch1835 : aw_H := [(0, kcx2), (1, kcx1834), (2, kcx7), (3, .inr (.inl (0, 40, [], []))), (4, .inr (.inl (0, 40, [], []))), (5, .inr (.inl (0, 40, [], []))), (6, .inr (.inl (0, 40, [], []))), (7, .inr (.inl (0, 40, [], []))), (8, .inr (.inl (0, 40, [], [])))]
def kcx1836 : aw_A := .inr (.inl (0, 6, [(0, 5, [(-1, 40)])], [(4, [(34, 34)]), (0, [(-1, 40)]), (1, [(-1, 40)]), (2, [(-1, 40)]), (3, [(-1, 40)])]))
def kch1837 : aw_H := [(0, kcx2), (1, kcx1836), (2, kcx7), (3, .inr (.inl (0, 40, [], []))), (4, .inr (.inl (0, 40, [], []))), (5, .inr (.inl (0, 40, [], []))), (6, .inr (.inl (0, 40, [], []))), (7, .inr (.inl (0, 40, [], []))), (8, .inr (.inl (0, 40, [], [])))]
def kcx1838 : aw_A := .inr (.inl (0, 6, [(0, 5, [(-1, 40)])], [(4, [(33, 33)]), (0, [(-1, 40)]), (1, [(-1, 40)]), (2, [(-1, 40)]), (3, [(-1, 40)])]))
def kch1839 : aw_H := [(0, kcx2), (1, kcx1838), (2, kcx7), (3, .inr (.inl (0, 40, [], []))), (4, .inr (.inl (0, 40, [], []))), (5, .inr (.inl (0, 40, [], []))), (6, .inr (.inl (0, 40, [], []))), (7, .inr (.inl (0, 40, [], []))), (8, .inr (.inl (0, 40, [], [])))]
def kcx1840 : aw_A := .inr (.inl (0, 6, [(0, 5, [(-1, 40)])], [(4, [(29, 29)]), (0, [(-1, 40)]), (1, [(-1, 40)]), (2, [(-1, 40)]), (3, [(-1, 40)])]))
def kch1841 : aw_H := [(0, kcx2), (1, kcx1840), (2, kcx7), (3, .inr (.inl (0, 40, [], []))), (4, .inr (.inl (0, 40, [], []))), (5, .inr (.inl (0, 40, [], []))), (6, .inr (.inl (0, 40, [], []))), (7, .inr (.inl (0, 40, [], []))), (8, .inr (.inl (0, 40, [], [])))]
def kcx1842 : aw_A := .inr (.inl (0, 6, [(0, 5, [(-1, 40)])], [(4, [(28, 28)]), (0, [(-1, 40)]), (1, [(-1, 40)]), (2, [(-1, 40)]), (3, [(-1, 40)])]))
def kch1843 : aw_H := [(0, kcx2), (1, kcx1842), (2, kcx7), (3, .inr (.inl (0, 40, [], []))), (4, .inr (.inl (0, 40, [], []))), (5, .inr (.inl (0, 40, [], []))), (6, .inr (.inl (0, 40, [], []))), (7, .inr (.inl (0, 40, [], []))), (8, .inr (.inl (0, 40, [], [])))]
def kcx1844 : aw_A := .inr (.inl (0, 6, [(0, 5, [(-1, 40)])], [(4, [(26, 26)]), (0, [(-1, 40)]), (1, [(-1, 40)]), (2, [(-1, 40)]), (3, [(-1, 40)])]))
def kch1845 : aw_H := [(0, kcx2), (1, kcx1844), (2, kcx7), (3, .inr (.inl (0, 40, [], []))), (4, .inr (.inl (0, 40, [], []))), (5, .inr (.inl (0, 40, [], []))), (6, .inr (.inl (0, 40, [], []))), (7, .inr (.inl (0, 40, [], []))), (8, .inr (.inl (0, 40, [], [])))]
def kcx1846 : aw_A := .inr (.inl (0, 6, [(0, 5, [(-1, 40)])], [(4, [(25, 25)]), (0, [(-1, 40)]), (1, [(-1, 40)]), (2, [(-1, 40)]), (3, [(-1, 40)])]))
def kch1847 : aw_H := [(0, kcx2), (1, kcx1846), (2, kcx7), (3, .inr (.inl (0, 40, [], []))), (4, .inr (.inl (0, 40, [], []))), (5, .inr (.inl (0, 40, [], []))), (6, .inr (.inl (0, 40, [], []))), (7, .inr (.inl (0, 40, [], []))), (8, .inr (.inl (0, 40, [], [])))]
def kcx1848 : aw_A := .inr (.inl (0, 6, [(0, 5, [(-1, 40)])], [(4, [(24, 24)]), (0, [(-1, 40)]), (1, [(-1, 40)]), (2, [(-1, 40)]), (3, [(-1, 40)])]))
def kch1849 : aw_H := [(0, kcx2), (1, kcx1848), (2, kcx7), (3, .inr (.inl (0, 40, [], []))), (4, .inr (.inl (0, 40, [], []))), (5, .inr (.inl (0, 40, [], []))), (6, .inr (.inl (0, 40, [], []))), (7, .inr (.inl (0, 40, [], []))), (8, .inr (.inl (0, 40, [], [])))]
def kcx1850 : aw_A := .inr (.inl (0, 6, [(0, 5, [(-1, 40)])], [(4, [(21, 21)]), (0, [(-1, 40)]), (1, [(-1, 40)]), (2, [(-1, 40)]), (3, [(-1, 40)])]))
def kch1851 : aw_H := [(0, kcx2), (1, kcx1850), (2, kcx7), (3, .inr (.inl (0, 40, [], []))), (4, .inr (.inl (0, 40, [], []))), (5, .inr (.inl (0, 40, [], []))), (6, .inr (.inl (0, 40, [], []))), (7, .inr (.inl (0, 40, [], []))), (8, .inr (.inl (0, 40, [], [])))]
def kcx1852 : aw_A := .inr (.inl (0, 6, [(0, 5, [(-1, 40)])], [(4, [(20, 20)]), (0, [(-1, 40)]), (1, [(-1, 40)]), (2, [(-1, 40)]), (3, [(-1, 40)])]))
def kch1853 : aw_H := [(0, kcx2), (1, kcx1852), (2, kcx7), (3, .inr (.inl (0, 40, [], []))), (4, .inr (.inl (0, 40, [], []))), (5, .inr (.inl (0, 40, [], []))), (6, .inr (.inl (0, 40, [], []))), (7, .inr (.inl (0, 40, [], []))), (8, .inr (.inl (0, 40, [], [])))]
def kcx1854 : aw_A := .inr (.inl (0, 6, [(0, 5, [(-1, 40)])], [(4, [(19, 19)]), (0, [(-1, 40)]), (1, [(-1, 40)]), (2, [(-1, 40)]), (3, [(-1, 40)])]))
def kch1855 : aw_H := [(0, kcx2), (1, kcx1854), (2, kcx7), (3, .inr (.inl (0, 40, [], []))), (4, .inr (.inl (0, 40, [], []))), (5, .inr (.inl (0, 40, [], []))), (6, .inr (.inl (0, 40, [], []))), (7, .inr (.inl (0, 40, [], []))), (8, .inr (.inl (0, 40, [], [])))]
def kcx1856 : aw_A := .inr (.inl (0, 6, [(0, 5, [(-1, 40)])], [(4, [(16, 16)]), (0, [(-1, 40)]), (1, [(-1, 40)]), (2, [(-1, 40)]), (3, [(-1, 40)])]))
def kch1857 : aw_H := [(0, kcx2), (1, kcx1856), (2, kcx7), (3, .inr (.inl (0, 40, [], []))), (4, .inr (.inl (0, 40, [], []))), (5, .inr (.inl (0, 40, [], []))), (6, .inr (.inl (0, 40, [], []))), (7, .inr (.inl (0, 40, [], []))), (8, .inr (.inl (0, 40, [], [])))]
def kcx1858 : aw_A := .inr (.inl (0, 6, [(0, 5, [(-1, 40)])], [(4, [(12, 12)]), (0, [(-1, 40)]), (1, [(-1, 40)]), (2, [(-1, 40)]), (3, [(-1, 40)])]))
def kch1859 : aw_H := [(0, kcx2), (1, kcx1858), (2, kcx7), (3, .inr (.inl (0, 40, [], []))), (4, .inr (.inl (0, 40, [], []))), (5, .inr (.inl (0, 40, [], []))), (6, .inr (.inl (0, 40, [], []))), (7, .inr (.inl (0, 40, [], []))), (8, .inr (.inl (0, 40, [], [])))]
def kcx1860 : aw_A := .inr (.inl (0, 6, [(0, 5, [(-1, 40)])], [(4, [(9, 9)]), (0, [(-1, 40)]), (1, [(-1, 40)]), (2, [(-1, 40)]), (3, [(-1, 40)])]))
def kch1861 : aw_H := [(0, kcx2), (1, kcx1860), (2, kcx7), (3, .inr (.inl (0, 40, [], []))), (4, .inr (.inl (0, 40, [], []))), (5, .inr (.inl (0, 40, [], []))), (6, .inr (.inl (0, 40, [], []))), (7, .inr (.inl (0, 40, [], []))), (8, .inr (.inl (0, 40, [], [])))]
def kcx1862 : aw_A := .inr (.inl (0, 6, [(0, 5, [(-1, 40)])], [(4, [(8, 8)]), (0, [(-1, 40)]), (1, [(-1, 40)]), (2, [(-1, 40)]), (3, [(-1, 40)])]))
def kch1863 : aw_H := [(0, kcx2), (1, kcx1862), (2, kcx7), (3, .inr (.inl (0, 40, [], []))), (4, .inr (.inl (0, 40, [], []))), (5, .inr (.inl (0, 40, [], []))), (6, .inr (.inl (0, 40, [], []))), (7, .inr (.inl (0, 40, [], []))), (8, .inr (.inl (0, 40, [], [])))]
def kcx1864 : aw_A := .inr (.inl (0, 6, [(0, 5, [(-1, 40)])], [(4, [(6, 6)]), (0, [(-1, 40)]), (1, [(-1, 40)]), (2, [(-1, 40)]), (3, [(-1, 40)])]))
def kch1865 : aw_H := [(0, kcx2), (1, kcx1864), (2, kcx7), (3, .inr (.inl (0, 40, [], []))), (4, .inr (.inl (0, 40, [], []))), (5, .inr (.inl (0, 40, [], []))), (6, .inr (.inl (0, 40, [], []))), (7, .inr (.inl (0, 40, [], []))), (8, .inr (.inl (0, 40, [], [])))]
def kcx1866 : aw_A := .inr (.inl (0, 6, [(0, 5, [(-1, 40)])], [(4, [(4, 4)]), (0, [(-1, 40)]), (1, [(-1, 40)]), (2, [(-1, 40)]), (3, [(-1, 40)])]))
def kch1867 : aw_H := [(0, kcx2), (1, kcx1866), (2, kcx7), (3, .inr (.inl (0, 40, [], []))), (4, .inr (.inl (0, 40, [], []))), (5, .inr (.inl (0, 40, [], []))), (6, .inr (.inl (0, 40, [], []))), (7, .inr (.inl (0, 40, [], []))), (8, .inr (.inl (0, 40, [], [])))]
def kcx1868 : aw_A := .inr (.inl (0, 6, [(0, 5, [(-1, 40)])], [(4, [(3, 3)]), (0, [(-1, 40)]), (1, [(-1, 40)]), (2, [(-1, 40)]), (3, [(-1, 40)])]))
def kch1869 : aw_H := [(0, kcx2), (1, kcx1868), (2, kcx7), (3, .inr (.inl (0, 40, [], []))), (4, .inr (.inl (0, 40, [], []))), (5, .inr (.inl (0, 40, [], []))), (6, .inr (.inl (0, 40, [], []))), (7, .inr (.inl (0, 40, [], []))), (8, .inr (.inl (0, 40, [], [])))]
def kcx1870 : aw_A := .inr (.inl (0, 6, [(0, 5, [(-1, 40)])], [(4, [(1, 1)]), (0, [(-1, 40)]), (1, [(-1, 40)]), (2, [(-1, 40)]), (3, [(-1, 40)])]))
def kch1871 : aw_H := [(0, kcx2), (1, kcx1870), (2, kcx7), (3, .inr (.inl (0, 40, [], []))), (4, .inr (.inl (0, 40, [], []))), (5, .inr (.inl (0, 40, [], []))), (6, .inr (.inl (0, 40, [], []))), (7, .inr (.inl (0, 40, [], []))), (8, .inr (.inl (0, 40, [], [])))]
def kcx1872 : aw_A := .inr (.inl (0, 6, [(0, 5, [(-1, 40)])], [(4, [(-1, 0)]), (0, [(-1, 40)]), (1, [(-1, 40)]), (2, [(-1, 40)]), (3, [(-1, 40)])]))
def kch1873 : aw_H := [(0, kcx2), (1, kcx1872), (2, kcx7), (3, .inr (.inl (0, 40, [], []))), (4, .inr (.inl (0, 40, [], []))), (5, .inr (.inl (0, 40, [], []))), (6, .inr (.inl (0, 40, [], []))), (7, .inr (.inl (0, 40, [], []))), (8, .inr (.inl (0, 40, [], [])))]
def kcx1874 : aw_A := .inr (.inl (0, 6, [(0, 5, [(-1, 40)])], [(0, [(-1, 40)]), (1, [(-1, 40)]), (2, [(-1, 40)]), (3, [(-1, 40)]), (4, [(-1, 40)])]))
def kch1875 : aw_H := [(0, kcx2), (1, kcx1874), (2, kcx7), (3, .inr (.inl (0, 40, [], []))), (4, .inr (.inl (0, 40, [], []))), (5, .inr (.inl (0, 40, [], []))), (6, .inr (.inl (0, 40, [], []))), (7, .inr (.inl (0, 40, [], []))), (8, .inr (.inl (0, 40, [], [])))]
def kcx1876 : aw_A := .inr (.inl (0, 6, [(0, 5, [(-1, 40)])], [(5, [(-1, 0)]), (0, [(-1, 40)]), (1, [(-1, 40)]), (2, [(-1, 40)]), (3, [(-1, 40)]), (4, [(-1, 40)])]))
def kch1877 : aw_H := [(0, kcx2), (1, kcx1876), (2, kcx7), (3, .inr (.inl (0, 40, [], []))), (4, .inr (.inl (0, 40, [], []))), (5, .inr (.inl (0, 40, [], []))), (6, .inr (.inl (0, 40, [], []))), (7, .inr (.inl (0, 40, [], []))), (8, .inr (.inl (0, 40, [], [])))]
def kcx1878 : aw_A := .inr (.inl (0, 6, [(0, 5, [(-1, 40)])], [(5, [(1, 40)]), (0, [(-1, 40)]), (1, [(-1, 40)]), (2, [(-1, 40)]), (3, [(-1, 40)]), (4, [(-1, 40)])]))
def kch1879 : aw_H := [(0, kcx2), (1, kcx1878), (2, kcx7), (3, .inr (.inl (0, 40, [], []))), (4, .inr (.inl (0, 40, [], []))), (5, .inr (.inl (0, 40, [], []))), (6, .inr (.inl (0, 40, [], []))), (7, .inr (.inl (0, 40, [], []))), (8, .inr (.inl (0, 40, [], [])))]
def kcx1880 : aw_A := .inr (.inl (0, 6, [(0, 5, [(-1, 40)])], [(5, [(2, 40)]), (0, [(-1, 40)]), (1, [(-1, 40)]), (2, [(-1, 40)]), (3, [(-1, 40)]), (4, [(-1, 40)])]))
def kch1881 : aw_H := [(0, kcx2), (1, kcx1880), (2, kcx7), (3, .inr (.inl (0, 40, [], []))), (4, .inr (.inl (0, 40, [], []))), (5, .inr (.inl (0, 40, [], []))), (6, .inr (.inl (0, 40, [], []))), (7, .inr (.inl (0, 40, [], []))), (8, .inr (.inl (0, 40, [], [])))]
def kcx1882 : aw_A := .inr (.inl (0, 6, [(0, 5, [(-1, 40)])], [(5, [(3, 40)]), (0, [(-1, 40)]), (1, [(-1, 40)]), (2, [(-1, 40)]), (3, [(-1, 40)]), (4, [(-1, 40)])]))
def kch1883 : aw_H := [(0, kcx2), (1, kcx1882), (2, kcx7), (3, .inr (.inl (0, 40, [], []))), (4, .inr (.inl (0, 40, [], []))), (5, .inr (.inl (0, 40, [], []))), (6, .inr (.inl (0, 40, [], []))), (7, .inr (.inl (0, 40, [], []))), (8, .inr (.inl (0, 40, [], [])))]
def kcx1884 : aw_A := .inr (.inl (0, 6, [(0, 5, [(-1, 40)])], [(5, [(4, 40)]), (0, [(-1, 40)]), (1, [(-1, 40)]), (2, [(-1, 40)]), (3, [(-1, 40)]), (4, [(-1, 40)])]))
def kch1885 : aw_H := [(0, kcx2), (1, kcx1884), (2, kcx7), (3, .inr (.inl (0, 40, [], []))), (4, .inr (.inl (0, 40, [], []))), (5, .inr (.inl (0, 40, [], []))), (6, .inr (.inl (0, 40, [], []))), (7, .inr (.inl (0, 40, [], []))), (8, .inr (.inl (0, 40, [], [])))]
def kcx1886 : aw_A := .inr (.inl (0, 6, [(0, 5, [(-1, 40)])], [(5, [(4, 4)]), (0, [(-1, 40)]), (1, [(-1, 40)]), (2, [(-1, 40)]), (3, [(-1, 40)]), (4, [(-1, 40)])]))
def kch1887 : aw_H := [(0, kcx2), (1, kcx1886), (2, kcx7), (3, .inr (.inl (0, 40, [], []))), (4, .inr (.inl (0, 40, [], []))), (5, .inr (.inl (0, 40, [], []))), (6, .inr (.inl (0, 40, [], []))), (7, .inr (.inl (0, 40, [], []))), (8, .inr (.inl (0, 40, [], [])))]
def kcx1888 : aw_A := .inr (.inl (0, 6, [(0, 5, [(-1, 40)])], [(5, [(5, 40)]), (0, [(-1, 40)]), (1, [(-1, 40)]), (2, [(-1, 40)]), (3, [(-1, 40)]), (4, [(-1, 40)])]))
def kch1889 : aw_H := [(0, kcx2), (1, kcx1888), (2, kcx7), (3, .inr (.inl (0, 40, [], []))), (4, .inr (.inl (0, 40, [], []))), (5, .inr (.inl (0, 40, [], []))), (6, .inr (.inl (0, 40, [], []))), (7, .inr (.inl (0, 40, [], []))), (8, .inr (.inl (0, 40, [], [])))]
def kcx1890 : aw_A := .inr (.inl (0, 6, [(0, 5, [(-1, 40)])], [(5, [(5, 5)]), (0, [(-1, 40)]), (1, [(-1, 40)]), (2, [(-1, 40)]), (3, [(-1, 40)]), (4, [(-1, 40)])]))
def kch1891 : aw_H := [(0, kcx2), (1, kcx1890), (2, kcx7), (3, .inr (.inl (0, 40, [], []))), (4, .inr (.inl (0, 40, [], []))), (5, .inr (.inl (0, 40, [], []))), (6, .inr (.inl (0, 40, [], []))), (7, .inr (.inl (0, 40, [], []))), (8, .inr (.inl (0, 40, [], [])))]
def kcx1892 : aw_A := .inr (.inl (0, 6, [(0, 5, [(-1, 40)])], [(5, [(6, 40)]), (0, [(-1, 40)]), (1, [(-1, 40)]), (2, [(-1, 40)]), (3, [(-1, 40)]), (4, [(-1, 40)])]))
def kch1893 : aw_H := [(0, kcx2), (1, kcx1892), (2, kcx7), (3, .inr (.inl (0, 40, [], []))), (4, .inr (.inl (0, 40, [], []))), (5, .inr (.inl (0, 40, [], []))), (6, .inr (.inl (0, 40, [], []))), (7, .inr (.inl (0, 40, [], []))), (8, .inr (.inl (0, 40, [], [])))]
def kcx1894 : aw_A := .inr (.inl (0, 6, [(0, 5, [(-1, 40)])], [(5, [(7, 40)]), (0, [(-1, 40)]), (1, [(-1, 40)]), (2, [(-1, 40)]), (3, [(-1, 40)]), (4, [(-1, 40)])]))
def kch1895 : aw_H := [(0, kcx2), (1, kcx1894), (2, kcx7), (3, .inr (.inl (0, 40, [], []))), (4, .inr (.inl (0, 40, [], []))), (5, .inr (.inl (0, 40, [], []))), (6, .inr (.inl (0, 40, [], []))), (7, .inr (.inl (0, 40, [], []))), (8, .inr (.inl (0, 40, [], [])))]
def kcx1896 : aw_A := .inr (.inl (0, 6, [(0, 5, [(-1, 40)])], [(5, [(7, 7)]), (0, [(-1, 40)]), (1, [(-1, 40)]), (2, [(-1, 40)]), (3, [(-1, 40)]), (4, [(-1, 40)])]))
def kch1897 : aw_H := [(0, kcx2), (1, kcx1896), (2, kcx7), (3, .inr (.inl (0, 40, [], []))), (4, .inr (.inl (0, 40, [], []))), (5, .inr (.inl (0, 40, [], []))), (6, .inr (.inl (0, 40, [], []))), (7, .inr (.inl (0, 40, [], []))), (8, .inr (.inl (0, 40, [], [])))]
def kcx1898 : aw_A := .inr (.inl (0, 6, [(0, 5, [(-1, 40)])], [(5, [(8, 40)]), (0, [(-1, 40)]), (1, [(-1, 40)]), (2, [(-1, 40)]), (3, [(-1, 40)]), (4, [(-1, 40)])]))
def kch1899 : aw_H := [(0, kcx2), (1, kcx1898), (2, kcx7), (3, .inr (.inl (0, 40, [], []))), (4, .inr (.inl (0, 40, [], []))), (5, .inr (.inl (0, 40, [], []))), (6, .inr (.inl (0, 40, [], []))), (7, .inr (.inl (0, 40, [], []))), (8, .inr (.inl (0, 40, [], [])))]
def kcx1900 : aw_A := .inr (.inl (0, 6, [(0, 5, [(-1, 40)])], [(5, [(8, 8)]), (0, [(-1, 40)]), (1, [(-1, 40)]), (2, [(-1, 40)]), (3, [(-1, 40)]), (4, [(-1, 40)])]))
def kch1901 : aw_H := [(0, kcx2), (1, kcx1900), (2, kcx7), (3, .inr (.inl (0, 40, [], []))), (4, .inr (.inl (0, 40, [], []))), (5, .inr (.inl (0, 40, [], []))), (6, .inr (.inl (0, 40, [], []))), (7, .inr (.inl (0, 40, [], []))), (8, .inr (.inl (0, 40, [], [])))]
def kcx1902 : aw_A := .inr (.inl (0, 6, [(0, 5, [(-1, 40)])], [(5, [(9, 40)]), (0, [(-1, 40)]), (1, [(-1, 40)]), (2, [(-1, 40)]), (3, [(-1, 40)]), (4, [(-1, 40)])]))
def kch1903 : aw_H := [(0, kcx2), (1, kcx1902), (2, kcx7), (3, .inr (.inl (0, 40, [], []))), (4, .inr (.inl (0, 40, [], []))), (5, .inr (.inl (0, 40, [], []))), (6, .inr (.inl (0, 40, [], []))), (7, .inr (.inl (0, 40, [], []))), (8, .inr (.inl (0, 40, [], [])))]
def kcx1904 : aw_A := .inr (.inl (0, 6, [(0, 5, [(-1, 40)])], [(5, [(9, 9)]), (0, [(-1, 40)]), (1, [(-1, 40)]), (2, [(-1, 40)]), (3, [(-1, 40)]), (4, [(-1, 40)])]))
def kch1905 : aw_H := [(0, kcx2), (1, kcx1904), (2, kcx7), (3, .inr (.inl (0, 40, [], []))), (4, .inr (.inl (0, 40, [], []))), (5, .inr (.inl (0, 40, [], []))), (6, .inr (.inl (0, 40, [], []))), (7, .inr (.inl (0, 40, [], []))), (8, .inr (.inl (0, 40, [], [])))]
def kcx1906 : aw_A := .inr (.inl (0, 6, [(0, 5, [(-1, 40)])], [(5, [(10, 40)]), (0, [(-1, 40)]), (1, [(-1, 40)]), (2, [(-1, 40)]), (3, [(-1, 40)]), (4, [(-1, 40)])]))
def kch1907 : aw_H := [(0, kcx2), (1, kcx1906), (2, kcx7), (3, .inr (.inl (0, 40, [], []))), (4, .inr (.inl (0, 40, [], []))), (5, .inr (.inl (0, 40, [], []))), (6, .inr (.inl (0, 40, [], []))), (7, .inr (.inl (0, 40, [], []))), (8, .inr (.inl (0, 40, [], [])))]
def kcx1908 : aw_A := .inr (.inl (0, 6, [(0, 5, [(-1, 40)])], [(5, [(11, 40)]), (0, [(-1, 40)]), (1, [(-1, 40)]), (2, [(-1, 40)]), (3, [(-1, 40)]), (4, [(-1, 40)])]))
def kch1909 : aw_H := [(0, kcx2), (1, kcx1908), (2, kcx7), (3, .inr (.inl (0, 40, [], []))), (4, .inr (.inl (0, 40, [], []))), (5, .inr (.inl (0, 40, [], []))), (6, .inr (.inl (0, 40, [], []))), (7, .inr (.inl (0, 40, [], []))), (8, .inr (.inl (0, 40, [], [])))]
def kcx1910 : aw_A := .inr (.inl (0, 6, [(0, 5, [(-1, 40)])], [(5, [(12, 40)]), (0, [(-1, 40)]), (1, [(-1, 40)]), (2, [(-1, 40)]), (3, [(-1, 40)]), (4, [(-1, 40)])]))
def kch1911 : aw_H := [(0, kcx2), (1, kcx1910), (2, kcx7), (3, .inr (.inl (0, 40, [], []))), (4, .inr (.inl (0, 40, [], []))), (5, .inr (.inl (0, 40, [], []))), (6, .inr (.inl (0, 40, [], []))), (7, .inr (.inl (0, 40, [], []))), (8, .inr (.inl (0, 40, [], [])))]
def kcx1912 : aw_A := .inr (.inl (0, 6, [(0, 5, [(-1, 40)])], [(5, [(12, 12)]), (0, [(-1, 40)]), (1, [(-1, 40)]), (2, [(-1, 40)]), (3, [(-1, 40)]), (4, [(-1, 40)])]))
def kch1913 : aw_H := [(0, kcx2), (1, kcx1912), (2, kcx7), (3, .inr (.inl (0, 40, [], []))), (4, .inr (.inl (0, 40, [], []))), (5, .inr (.inl (0, 40, [], []))), (6, .inr (.inl (0, 40, [], []))), (7, .inr (.inl (0, 40, [], []))), (8, .inr (.inl (0, 40, [], [])))]
def kcx1914 : aw_A := .inr (.inl (0, 6, [(0, 5, [(-1, 40)])], [(5, [(13, 40)]), (0, [(-1, 40)]), (1, [(-1, 40)]), (2, [(-1, 40)]), (3, [(-1, 40)]), (4, [(-1, 40)])]))
def kch1915 : aw_H := [(0, kcx2), (1, kcx1914), (2, kcx7), (3, .inr (.inl (0, 40, [], []))), (4, .inr (.inl (0, 40, [], []))), (5, .inr (.inl (0, 40, [], []))), (6, .inr (.inl (0, 40, [], []))), (7, .inr (.inl (0, 40, [], []))), (8, .inr (.inl (0, 40, [], [])))]
def kcx1916 : aw_A := .inr (.inl (0, 6, [(0, 5, [(-1, 40)])], [(5, [(13, 13)]), (0, [(-1, 40)]), (1, [(-1, 40)]), (2, [(-1, 40)]), (3, [(-1, 40)]), (4, [(-1, 40)])]))
def kch1917 : aw_H := [(0, kcx2), (1, kcx1916), (2, kcx7), (3, .inr (.inl (0, 40, [], []))), (4, .inr (.inl (0, 40, [], []))), (5, .inr (.inl (0, 40, [], []))), (6, .inr (.inl (0, 40, [], []))), (7, .inr (.inl (0, 40, [], []))), (8, .inr (.inl (0, 40, [], [])))]
def kcx1918 : aw_A := .inr (.inl (0, 6, [(0, 5, [(-1, 40)])], [(5, [(14, 40)]), (0, [(-1, 40)]), (1, [(-1, 40)]), (2, [(-1, 40)]), (3, [(-1, 40)]), (4, [(-1, 40)])]))
def kch1919 : aw_H := [(0, kcx2), (1, kcx1918), (2, kcx7), (3, .inr (.inl (0, 40, [], []))), (4, .inr (.inl (0, 40, [], []))), (5, .inr (.inl (0, 40, [], []))), (6, .inr (.inl (0, 40, [], []))), (7, .inr (.inl (0, 40, [], []))), (8, .inr (.inl (0, 40, [], [])))]
def kcx1920 : aw_A := .inr (.inl (0, 6, [(0, 5, [(-1, 40)])], [(5, [(15, 40)]), (0, [(-1, 40)]), (1, [(-1, 40)]), (2, [(-1, 40)]), (3, [(-1, 40)]), (4, [(-1, 40)])]))
def kch1921 : aw_H := [(0, kcx2), (1, kcx1920), (2, kcx7), (3, .inr (.inl (0, 40, [], []))), (4, .inr (.inl (0, 40, [], []))), (5, .inr (.inl (0, 40, [], []))), (6, .inr (.inl (0, 40, [], []))), (7, .inr (.inl (0, 40, [], []))), (8, .inr (.inl (0, 40, [], [])))]
def kcx1922 : aw_A := .inr (.inl (0, 6, [(0, 5, [(-1, 40)])], [(5, [(15, 15)]), (0, [(-1, 40)]), (1, [(-1, 40)]), (2, [(-1, 40)]), (3, [(-1, 40)]), (4, [(-1, 40)])]))
def kch1923 : aw_H := [(0, kcx2), (1, kcx1922), (2, kcx7), (3, .inr (.inl (0, 40, [], []))), (4, .inr (.inl (0, 40, [], []))), (5, .inr (.inl (0, 40, [], []))), (6, .inr (.inl (0, 40, [], []))), (7, .inr (.inl (0, 40, [], []))), (8, .inr (.inl (0, 40, [], [])))]
def kcx1924 : aw_A := .inr (.inl (0, 6, [(0, 5, [(-1, 40)])], [(5, [(16, 40)]), (0, [(-1, 40)]), (1, [(-1, 40)]), (2, [(-1, 40)]), (3, [(-1, 40)]), (4, [(-1, 40)])]))
def kch1925 : aw_H := [(0, kcx2), (1, kcx1924), (2, kcx7), (3, .inr (.inl (0, 40, [], []))), (4, .inr (.inl (0, 40, [], []))), (5, .inr (.inl (0, 40, [], []))), (6, .inr (.inl (0, 40, [], []))), (7, .inr (.inl (0, 40, [], []))), (8, .inr (.inl (0, 40, [], [])))]
def kcx1926 : aw_A := .inr (.inl (0, 6, [(0, 5, [(-1, 40)])], [(5, [(16, 16)]), (0, [(-1, 40)]), (1, [(-1, 40)]), (2, [(-1, 40)]), (3, [(-1, 40)]), (4, [(-1, 40)])]))
def kch1927 : aw_H := [(0, kcx2), (1, kcx1926), (2, kcx7), (3, .inr (.inl (0, 40, [], []))), (4, .inr (.inl (0, 40, [], []))), (5, .inr (.inl (0, 40, [], []))), (6, .inr (.inl (0, 40, [], []))), (7, .inr (.inl (0, 40, [], []))), (8, .inr (.inl (0, 40, [], [])))]
def kcx1928 : aw_A := .inr (.inl (0, 6, [(0, 5, [(-1, 40)])], [(5, [(17, 40)]), (0, [(-1, 40)]), (1, [(-1, 40)]), (2, [(-1, 40)]), (3, [(-1, 40)]), (4, [(-1, 40)])]))
def kch1929 : aw_H := [(0, kcx2), (1, kcx1928), (2, kcx7), (3, .inr (.inl (0, 40, [], []))), (4, .inr (.inl (0, 40, [], []))), (5, .inr (.inl (0, 40, [], []))), (6, .inr (.inl (0, 40, [], []))), (7, .inr (.inl (0, 40, [], []))), (8, .inr (.inl (0, 40, [], [])))]
def kcx1930 : aw_A := .inr (.inl (0, 6, [(0, 5, [(-1, 40)])], [(5, [(17, 17)]), (0, [(-1, 40)]), (1, [(-1, 40)]), (2, [(-1, 40)]), (3, [(-1, 40)]), (4, [(-1, 40)])]))
def kch1931 : aw_H := [(0, kcx2), (1, kcx1930), (2, kcx7), (3, .inr (.inl (0, 40, [], []))), (4, .inr (.inl (0, 40, [], []))), (5, .inr (.inl (0, 40, [], []))), (6, .inr (.inl (0, 40, [], []))), (7, .inr (.inl (0, 40, [], []))), (8, .inr (.inl (0, 40, [], [])))]
def kcx1932 : aw_A := .inr (.inl (0, 6, [(0, 5, [(-1, 40)])], [(5, [(18, 40)]), (0, [(-1, 40)]), (1, [(-1, 40)]), (2, [(-1, 40)]), (3, [(-1, 40)]), (4, [(-1, 40)])]))
def kch1933 : aw_H := [(0, kcx2), (1, kcx1932), (2, kcx7), (3, .inr (.inl (0, 40, [], []))), (4, .inr (.inl (0, 40, [], []))), (5, .inr (.inl (0, 40, [], []))), (6, .inr (.inl (0, 40, [], []))), (7, .inr (.inl (0, 40, [], []))), (8, .inr (.inl (0, 40, [], [])))]
def kcx1934 : aw_A := .inr (.inl (0, 6, [(0, 5, [(-1, 40)])], [(5, [(19, 40)]), (0, [(-1, 40)]), (1, [(-1, 40)]), (2, [(-1, 40)]), (3, [(-1, 40)]), (4, [(-1, 40)])]))
def kch1935 : aw_H := [(0, kcx2), (1, kcx1934), (2, kcx7), (3, .inr (.inl (0, 40, [], []))), (4, .inr (.inl (0, 40, [], []))), (5, .inr (.inl (0, 40, [], []))), (6, .inr (.inl (0, 40, [], []))), (7, .inr (.inl (0, 40, [], []))), (8, .inr (.inl (0, 40, [], [])))]
def kcx1936 : aw_A := .inr (.inl (0, 6, [(0, 5, [(-1, 40)])], [(5, [(20, 40)]), (0, [(-1, 40)]), (1, [(-1, 40)]), (2, [(-1, 40)]), (3, [(-1, 40)]), (4, [(-1, 40)])]))
def kch1937 : aw_H := [(0, kcx2), (1, kcx1936), (2, kcx7), (3, .inr (.inl (0, 40, [], []))), (4, .inr (.inl (0, 40, [], []))), (5, .inr (.inl (0, 40, [], []))), (6, .inr (.inl (0, 40, [], []))), (7, .inr (.inl (0, 40, [], []))), (8, .inr (.inl (0, 40, [], [])))]
def kcx1938 : aw_A := .inr (.inl (0, 6, [(0, 5, [(-1, 40)])], [(5, [(20, 20)]), (0, [(-1, 40)]), (1, [(-1, 40)]), (2, [(-1, 40)]), (3, [(-1, 40)]), (4, [(-1, 40)])]))
def kch1939 : aw_H := [(0, kcx2), (1, kcx1938), (2, kcx7), (3, .inr (.inl (0, 40, [], []))), (4, .inr (.inl (0, 40, [], []))), (5, .inr (.inl (0, 40, [], []))), (6, .inr (.inl (0, 40, [], []))), (7, .inr (.inl (0, 40, [], []))), (8, .inr (.inl (0, 40, [], [])))]
def kcx1940 : aw_A := .inr (.inl (0, 6, [(0, 5, [(-1, 40)])], [(5, [(21, 40)]), (0, [(-1, 40)]), (1, [(-1, 40)]), (2, [(-1, 40)]), (3, [(-1, 40)]), (4, [(-1, 40)])]))
def kch1941 : aw_H := [(0, kcx2), (1, kcx1940), (2, kcx7), (3, .inr (.inl (0, 40, [], []))), (4, .inr (.inl (0, 40, [], []))), (5, .inr (.inl (0, 40, [], []))), (6, .inr (.inl (0, 40, [], []))), (7, .inr (.inl (0, 40, [], []))), (8, .inr (.inl (0, 40, [], [])))]
def kcx1942 : aw_A := .inr (.inl (0, 6, [(0, 5, [(-1, 40)])], [(5, [(21, 21)]), (0, [(-1, 40)]), (1, [(-1, 40)]), (2, [(-1, 40)]), (3, [(-1, 40)]), (4, [(-1, 40)])]))
def kch1943 : aw_H := [(0, kcx2), (1, kcx1942), (2, kcx7), (3, .inr (.inl (0, 40, [], []))), (4, .inr (.inl (0, 40, [], []))), (5, .inr (.inl (0, 40, [], []))), (6, .inr (.inl (0, 40, [], []))), (7, .inr (.inl (0, 40, [], []))), (8, .inr (.inl (0, 40, [], [])))]
def kcx1944 : aw_A := .inr (.inl (0, 6, [(0, 5, [(-1, 40)])], [(5, [(22, 40)]), (0, [(-1, 40)]), (1, [(-1, 40)]), (2, [(-1, 40)]), (3, [(-1, 40)]), (4, [(-1, 40)])]))
def kch1945 : aw_H := [(0, kcx2), (1, kcx1944), (2, kcx7), (3, .inr (.inl (0, 40, [], []))), (4, .inr (.inl (0, 40, [], []))), (5, .inr (.inl (0, 40, [], []))), (6, .inr (.inl (0, 40, [], []))), (7, .inr (.inl (0, 40, [], []))), (8, .inr (.inl (0, 40, [], [])))]
def kcx1946 : aw_A := .inr (.inl (0, 6, [(0, 5, [(-1, 40)])], [(5, [(23, 40)]), (0, [(-1, 40)]), (1, [(-1, 40)]), (2, [(-1, 40)]), (3, [(-1, 40)]), (4, [(-1, 40)])]))
def kch1947 : aw_H := [(0, kcx2), (1, kcx1946), (2, kcx7), (3, .inr (.inl (0, 40, [], []))), (4, .inr (.inl (0, 40, [], []))), (5, .inr (.inl (0, 40, [], []))), (6, .inr (.inl (0, 40, [], []))), (7, .inr (.inl (0, 40, [], []))), (8, .inr (.inl (0, 40, [], [])))]
def kcx1948 : aw_A := .inr (.inl (0, 6, [(0, 5, [(-1, 40)])], [(5, [(24, 40)]), (0, [(-1, 40)]), (1, [(-1, 40)]), (2, [(-1, 40)]), (3, [(-1, 40)]), (4, [(-1, 40)])]))
def kch1949 : aw_H := [(0, kcx2), (1, kcx1948), (2, kcx7), (3, .inr (.inl (0, 40, [], []))), (4, .inr (.inl (0, 40, [], []))), (5, .inr (.inl (0, 40, [], []))), (6, .inr (.inl (0, 40, [], []))), (7, .inr (.inl (0, 40, [], []))), (8, .inr (.inl (0, 40, [], [])))]
def kcx1950 : aw_A := .inr (.inl (0, 6, [(0, 5, [(-1, 40)])], [(5, [(24, 24)]), (0, [(-1, 40)]), (1, [(-1, 40)]), (2, [(-1, 40)]), (3, [(-1, 40)]), (4, [(-1, 40)])]))
def kch1951 : aw_H := [(0, kcx2), (1, kcx1950), (2, kcx7), (3, .inr (.inl (0, 40, [], []))), (4, .inr (.inl (0, 40, [], []))), (5, .inr (.inl (0, 40, [], []))), (6, .inr (.inl (0, 40, [], []))), (7, .inr (.inl (0, 40, [], []))), (8, .inr (.inl (0, 40, [], [])))]
def kcx1952 : aw_A := .inr (.inl (0, 6, [(0, 5, [(-1, 40)])], [(5, [(25, 40)]), (0, [(-1, 40)]), (1, [(-1, 40)]), (2, [(-1, 40)]), (3, [(-1, 40)]), (4, [(-1, 40)])]))
def kch1953 : aw_H := [(0, kcx2), (1, kcx1952), (2, kcx7), (3, .inr (.inl (0, 40, [], []))), (4, .inr (.inl (0, 40, [], []))), (5, .inr (.inl (0, 40, [], []))), (6, .inr (.inl (0, 40, [], []))), (7, .inr (.inl (0, 40, [], []))), (8, .inr (.inl (0, 40, [], [])))]
def kcx1954 : aw_A := .inr (.inl (0, 6, [(0, 5, [(-1, 40)])], [(5, [(25, 25)]), (0, [(-1, 40)]), (1, [(-1, 40)]), (2, [(-1, 40)]), (3, [(-1, 40)]), (4, [(-1, 40)])]))
def kch1955 : aw_H := [(0, kcx2), (1, kcx1954), (2, kcx7), (3, .inr (.inl (0, 40, [], []))), (4, .inr (.inl (0, 40, [], []))), (5, .inr (.inl (0, 40, [], []))), (6, .inr (.inl (0, 40, [], []))), (7, .inr (.inl (0, 40, [], []))), (8, .inr (.inl (0, 40, [], [])))]
def kcx1956 : aw_A := .inr (.inl (0, 6, [(0, 5, [(-1, 40)])], [(5, [(26, 40)]), (0, [(-1, 40)]), (1, [(-1, 40)]), (2, [(-1, 40)]), (3, [(-1, 40)]), (4, [(-1, 40)])]))
def kch1957 : aw_H := [(0, kcx2), (1, kcx1956), (2, kcx7), (3, .inr (.inl (0, 40, [], []))), (4, .inr (.inl (0, 40, [], []))), (5, .inr (.inl (0, 40, [], []))), (6, .inr (.inl (0, 40, [], []))), (7, .inr (.inl (0, 40, [], []))), (8, .inr (.inl (0, 40, [], [])))]
def kcx1958 : aw_A := .inr (.inl (0, 6, [(0, 5, [(-1, 40)])], [(5, [(27, 40)]), (0, [(-1, 40)]), (1, [(-1, 40)]), (2, [(-1, 40)]), (3, [(-1, 40)]), (4, [(-1, 40)])]))
def kch1959 : aw_H := [(0, kcx2), (1, kcx1958), (2, kcx7), (3, .inr (.inl (0, 40, [], []))), (4, .inr (.inl (0, 40, [], []))), (5, .inr (.inl (0, 40, [], []))), (6, .inr (.inl (0, 40, [], []))), (7, .inr (.inl (0, 40, [], []))), (8, .inr (.inl (0, 40, [], [])))]
def kcx1960 : aw_A := .inr (.inl (0, 6, [(0, 5, [(-1, 40)])], [(5, [(28, 40)]), (0, [(-1, 40)]), (1, [(-1, 40)]), (2, [(-1, 40)]), (3, [(-1, 40)]), (4, [(-1, 40)])]))
def kch1961 : aw_H := [(0, kcx2), (1, kcx1960), (2, kcx7), (3, .inr (.inl (0, 40, [], []))), (4, .inr (.inl (0, 40, [], []))), (5, .inr (.inl (0, 40, [], []))), (6, .inr (.inl (0, 40, [], []))), (7, .inr (.inl (0, 40, [], []))), (8, .inr (.inl (0, 40, [], [])))]
def kcx1962 : aw_A := .inr (.inl (0, 6, [(0, 5, [(-1, 40)])], [(5, [(29, 40)]), (0, [(-1, 40)]), (1, [(-1, 40)]), (2, [(-1, 40)]), (3, [(-1, 40)]), (4, [(-1, 40)])]))
def kch1963 : aw_H := [(0, kcx2), (1, kcx1962), (2, kcx7), (3, .inr (.inl (0, 40, [], []))), (4, .inr (.inl (0, 40, [], []))), (5, .inr (.inl (0, 40, [], []))), (6, .inr (.inl (0, 40, [], []))), (7, .inr (.inl (0, 40, [], []))), (8, .inr (.inl (0, 40, [], [])))]
def kcx1964 : aw_A := .inr (.inl (0, 6, [(0, 5, [(-1, 40)])], [(5, [(29, 29)]), (0, [(-1, 40)]), (1, [(-1, 40)]), (2, [(-1, 40)]), (3, [(-1, 40)]), (4, [(-1, 40)])]))
def kch1965 : aw_H := [(0, kcx2), (1, kcx1964), (2, kcx7), (3, .inr (.inl (0, 40, [], []))), (4, .inr (.inl (0, 40, [], []))), (5, .inr (.inl (0, 40, [], []))), (6, .inr (.inl (0, 40, [], []))), (7, .inr (.inl (0, 40, [], []))), (8, .inr (.inl (0, 40, [], [])))]
def kcx1966 : aw_A := .inr (.inl (0, 6, [(0, 5, [(-1, 40)])], [(5, [(30, 40)]), (0, [(-1, 40)]), (1, [(-1, 40)]), (2, [(-1, 40)]), (3, [(-1, 40)]), (4, [(-1, 40)])]))
def kch1967 : aw_H := [(0, kcx2), (1, kcx1966), (2, kcx7), (3, .inr (.inl (0, 40, [], []))), (4, .inr (.inl (0, 40, [], []))), (5, .inr (.inl (0, 40, [], []))), (6, .inr (.inl (0, 40, [], []))), (7, .inr (.inl (0, 40, [], []))), (8, .inr (.inl (0, 40, [], [])))]
def kcx1968 : aw_A := .inr (.inl (0, 6, [(0, 5, [(-1, 40)])], [(5, [(31, 40)]), (0, [(-1, 40)]), (1, [(-1, 40)]), (2, [(-1, 40)]), (3, [(-1, 40)]), (4, [(-1, 40)])]))
def kch1969 : aw_H := [(0, kcx2), (1, kcx1968), (2, kcx7), (3, .inr (.inl (0, 40, [], []))), (4, .inr (.inl (0, 40, [], []))), (5, .inr (.inl (0, 40, [], []))), (6, .inr (.inl (0, 40, [], []))), (7, .inr (.inl (0, 40, [], []))), (8, .inr (.inl (0, 40, [], [])))]
def kcx1970 : aw_A := .inr (.inl (0, 6, [(0, 5, [(-1, 40)])], [(5, [(32, 40)]), (0, [(-1, 40)]), (1, [(-1, 40)]), (2, [(-1, 40)]), (3, [(-1, 40)]), (4, [(-1, 40)])]))
def kch1971 : aw_H := [(0, kcx2), (1, kcx1970), (2, kcx7), (3, .inr (.inl (0, 40, [], []))), (4, .inr (.inl (0, 40, [], []))), (5, .inr (.inl (0, 40, [], []))), (6, .inr (.inl (0, 40, [], []))), (7, .inr (.inl (0, 40, [], []))), (8, .inr (.inl (0, 40, [], [])))]
def kcx1972 : aw_A := .inr (.inl (0, 6, [(0, 5, [(-1, 40)])], [(5, [(32, 32)]), (0, [(-1, 40)]), (1, [(-1, 40)]), (2, [(-1, 40)]), (3, [(-1, 40)]), (4, [(-1, 40)])]))
def kch1973 : aw_H := [(0, kcx2), (1, kcx1972), (2, kcx7), (3, .inr (.inl (0, 40, [], []))), (4, .inr (.inl (0, 40, [], []))), (5, .inr (.inl (0, 40, [], []))), (6, .inr (.inl (0, 40, [], []))), (7, .inr (.inl (0, 40, [], []))), (8, .inr (.inl (0, 40, [], [])))]
def kcx1974 : aw_A := .inr (.inl (0, 6, [(0, 5, [(-1, 40)])], [(5, [(33, 40)]), (0, [(-1, 40)]), (1, [(-1, 40)]), (2, [(-1, 40)]), (3, [(-1, 40)]), (4, [(-1, 40)])]))
def kch1975 : aw_H := [(0, kcx2), (1, kcx1974), (2, kcx7), (3, .inr (.inl (0, 40, [], []))), (4, .inr (.inl (0, 40, [], []))), (5, .inr (.inl (0, 40, [], []))), (6, .inr (.inl (0, 40, [], []))), (7, .inr (.inl (0, 40, [], []))), (8, .inr (.inl (0, 40, [], [])))]
def kcx1976 : aw_A := .inr (.inl (0, 6, [(0, 5, [(-1, 40)])], [(5, [(33, 33)]), (0, [(-1, 40)]), (1, [(-1, 40)]), (2, [(-1, 40)]), (3, [(-1, 40)]), (4, [(-1, 40)])]))
def kch1977 : aw_H := [(0, kcx2), (1, kcx1976), (2, kcx7), (3, .inr (.inl (0, 40, [], []))), (4, .inr (.inl (0, 40, [], []))), (5, .inr (.inl (0, 40, [], []))), (6, .inr (.inl (0, 40, [], []))), (7, .inr (.inl (0, 40, [], []))), (8, .inr (.inl (0, 40, [], [])))]
def kcx1978 : aw_A := .inr (.inl (0, 6, [(0, 5, [(-1, 40)])], [(5, [(34, 40)]), (0, [(-1, 40)]), (1, [(-1, 40)]), (2, [(-1, 40)]), (3, [(-1, 40)]), (4, [(-1, 40)])]))
def kch1979 : aw_H := [(0, kcx2), (1, kcx1978), (2, kcx7), (3, .inr (.inl (0, 40, [], []))), (4, .inr (.inl (0, 40, [], []))), (5, .inr (.inl (0, 40, [], []))), (6, .inr (.inl (0, 40, [], []))), (7, .inr (.inl (0, 40, [], []))), (8, .inr (.inl (0, 40, [], [])))]
def kcx1980 : aw_A := .inr (.inl (0, 6, [(0, 5, [(-1, 40)])], [(5, [(35, 40)]), (0, [(-1, 40)]), (1, [(-1, 40)]), (2, [(-1, 40)]), (3, [(-1, 40)]), (4, [(-1, 40)])]))
def kch1981 : aw_H := [(0, kcx2), (1, kcx1980), (2, kcx7), (3, .inr (.inl (0, 40, [], []))), (4, .inr (.inl (0, 40, [], []))), (5, .inr (.inl (0, 40, [], []))), (6, .inr (.inl (0, 40, [], []))), (7, .inr (.inl (0, 40, [], []))), (8, .inr (.inl (0, 40, [], [])))]
def kcx1982 : aw_A := .inr (.inl (0, 6, [(0, 5, [(-1, 40)])], [(5, [(36, 40)]), (0, [(-1, 40)]), (1, [(-1, 40)]), (2, [(-1, 40)]), (3, [(-1, 40)]), (4, [(-1, 40)])]))
def kch1983 : aw_H := [(0, kcx2), (1, kcx1982), (2, kcx7), (3, .inr (.inl (0, 40, [], []))), (4, .inr (.inl (0, 40, [], []))), (5, .inr (.inl (0, 40, [], []))), (6, .inr (.inl (0, 40, [], []))), (7, .inr (.inl (0, 40, [], []))), (8, .inr (.inl (0, 40, [], [])))]
def kcx1984 : aw_A := .inr (.inl (0, 6, [(0, 5, [(-1, 40)])], [(5, [(36, 36)]), (0, [(-1, 40)]), (1, [(-1, 40)]), (2, [(-1, 40)]), (3, [(-1, 40)]), (4, [(-1, 40)])]))
def kch1985 : aw_H := [(0, kcx2), (1, kcx1984), (2, kcx7), (3, .inr (.inl (0, 40, [], []))), (4, .inr (.inl (0, 40, [], []))), (5, .inr (.inl (0, 40, [], []))), (6, .inr (.inl (0, 40, [], []))), (7, .inr (.inl (0, 40, [], []))), (8, .inr (.inl (0, 40, [], [])))]
def kcx1986 : aw_A := .inr (.inl (0, 6, [(0, 5, [(-1, 40)])], [(5, [(37, 40)]), (0, [(-1, 40)]), (1, [(-1, 40)]), (2, [(-1, 40)]), (3, [(-1, 40)]), (4, [(-1, 40)])]))
def kch1987 : aw_H := [(0, kcx2), (1, kcx1986), (2, kcx7), (3, .inr (.inl (0, 40, [], []))), (4, .inr (.inl (0, 40, [], []))), (5, .inr (.inl (0, 40, [], []))), (6, .inr (.inl (0, 40, [], []))), (7, .inr (.inl (0, 40, [], []))), (8, .inr (.inl (0, 40, [], [])))]
def kcx1988 : aw_A := .inr (.inl (0, 6, [(0, 5, [(-1, 40)])], [(5, [(37, 37)]), (0, [(-1, 40)]), (1, [(-1, 40)]), (2, [(-1, 40)]), (3, [(-1, 40)]), (4, [(-1, 40)])]))
def kch1989 : aw_H := [(0, kcx2), (1, kcx1988), (2, kcx7), (3, .inr (.inl (0, 40, [], []))), (4, .inr (.inl (0, 40, [], []))), (5, .inr (.inl (0, 40, [], []))), (6, .inr (.inl (0, 40, [], []))), (7, .inr (.inl (0, 40, [], []))), (8, .inr (.inl (0, 40, [], [])))]
def kcx1990 : aw_A := .inr (.inl (0, 6, [(0, 5, [(-1, 40)])], [(5, [(38, 40)]), (0, [(-1, 40)]), (1, [(-1, 40)]), (2, [(-1, 40)]), (3, [(-1, 40)]), (4, [(-1, 40)])]))
def kch1991 : aw_H := [(0, kcx2), (1, kcx1990), (2, kcx7), (3, .inr (.inl (0, 40, [], []))), (4, .inr (.inl (0, 40, [], []))), (5, .inr (.inl (0, 40, [], []))), (6, .inr (.inl (0, 40, [], []))), (7, .inr (.inl (0, 40, [], []))), (8, .inr (.inl (0, 40, [], [])))]
def kcx1992 : aw_A := .inr (.inl (0, 6, [(0, 5, [(-1, 40)])], [(5, [(38, 38)]), (0, [(-1, 40)]), (1, [(-1, 40)]), (2, [(-1, 40)]), (3, [(-1, 40)]), (4, [(-1, 40)])]))
def kch1993 : aw_H := [(0, kcx2), (1, kcx1992), (2, kcx7), (3, .inr (.inl (0, 40, [], []))), (4, .inr (.inl (0, 40, [], []))), (5, .inr (.inl (0, 40, [], []))), (6, .inr (.inl (0, 40, [], []))), (7, .inr (.inl (0, 40, [], []))), (8, .inr (.inl (0, 40, [], [])))]
def kcx1994 : aw_A := .inr (.inl (0, 6, [(0, 5, [(-1, 40)])], [(5, [(39, 40)]), (0, [(-1, 40)]), (1, [(-1, 40)]), (2, [(-1, 40)]), (3, [(-1, 40)]), (4, [(-1, 40)])]))
def kch1995 : aw_H := [(0, kcx2), (1, kcx1994), (2, kcx7), (3, .inr (.inl (0, 40, [], []))), (4, .inr (.inl (0, 40, [], []))), (5, .inr (.inl (0, 40, [], []))), (6, .inr (.inl (0, 40, [], []))), (7, .inr (.inl (0, 40, [], []))), (8, .inr (.inl (0, 40, [], [])))]
def kcx1996 : aw_A := .inr (.inl (0, 6, [(0, 5, [(-1, 40)])], [(5, [(40, 40)]), (0, [(-1, 40)]), (1, [(-1, 40)]), (2, [(-1, 40)]), (3, [(-1, 40)]), (4, [(-1, 40)])]))
def kch1997 : aw_H := [(0, kcx2), (1, kcx1996), (2, kcx7), (3, .inr (.inl (0, 40, [], []))), (4, .inr (.inl (0, 40, [], []))), (5, .inr (.inl (0, 40, [], []))), (6, .inr (.inl (0, 40, [], []))), (7, .inr (.inl (0, 40, [], []))), (8, .inr (.inl (0, 40, [], [])))]
def kcx1998 : aw_A := .inr (.inl (0, 6, [(0, 5, [(-1, 40)])], [(5, [(39, 39)]), (0, [(-1, 40)]), (1, [(-1, 40)]), (2, [(-1, 40)]), (3, [(-1, 40)]), (4, [(-1, 40)])]))
def kch1999 : aw_H := [(0, kcx2), (1, kcx1998), (2, kcx7), (3, .inr (.inl (0, 40, [], []))), (4, .inr (.inl (0, 40, [], []))), (5, .inr (.inl (0, 40, [], []))), (6, .inr (.inl (0, 40, [], []))), (7, .inr (.inl (0, 40, [], []))), (8, .inr (.inl (0, 40, [], [])))]
def kcx2000 : aw_A := .inr (.inl (0, 6, [(0, 5, [(-1, 40)])], [(5, [(35, 35)]), (0, [(-1, 40)]), (1, [(-1, 40)]), (2, [(-1, 40)]), (3, [(-1, 40)]), (4, [(-1, 40)])]))
def kch2001 : aw_H := [(0, kcx2), (1, kcx2000), (2, kcx7), (3, .inr (.inl (0, 40, [], []))), (4, .inr (.inl (0, 40, [], []))), (5, .inr (.inl (0, 40, [], []))), (6, .inr (.inl (0, 40, [], []))), (7, .inr (.inl (0, 40, [], []))), (8, .inr (.inl (0, 40, [], [])))]
def kcx2002 : aw_A := .inr (.inl (0, 6, [(0, 5, [(-1, 40)])], [(5, [(34, 34)]), (0, [(-1, 40)]), (1, [(-1, 40)]), (2, [(-1, 40)]), (3, [(-1, 40)]), (4, [(-1, 40)])]))
def kch2003 : aw_H := [(0, kcx2), (1, kcx2002), (2, kcx7), (3, .inr (.inl (0, 40, [], []))), (4, .inr (.inl (0, 40, [], []))), (5, .inr (.inl (0, 40, [], []))), (6, .inr (.inl (0, 40, [], []))), (7, .inr (.inl (0, 40, [], []))), (8, .inr (.inl (0, 40, [], [])))]
def kcx2004 : aw_A := .inr (.inl (0, 6, [(0, 5, [(-1, 40)])], [(5, [(31, 31)]), (0, [(-1, 40)]), (1, [(-1, 40)]), (2, [(-1, 40)]), (3, [(-1, 40)]), (4, [(-1, 40)])]))
def kch2005 : aw_H := [(0, kcx2), (1, kcx2004), (2, kcx7), (3, .inr (.inl (0, 40, [], []))), (4, .inr (.inl (0, 40, [], []))), (5, .inr (.inl (0, 40, [], []))), (6, .inr (.inl (0, 40, [], []))), (7, .inr (.inl (0, 40, [], []))), (8, .inr (.inl (0, 40, [], [])))]
def kcx2006 : aw_A := .inr (.inl (0, 6, [(0, 5, [(-1, 40)])], [(5, [(30, 30)]), (0, [(-1, 40)]), (1, [(-1, 40)]), (2, [(-1, 40)]), (3, [(-1, 40)]), (4, [(-1, 40)])]))
def kch2007 : aw_H := [(0, kcx2), (1, kcx2006), (2, kcx7), (3, .inr (.inl (0, 40, [], []))), (4, .inr (.inl (0, 40, [], []))), (5, .inr (.inl (0, 40, [], []))), (6, .inr (.inl (0, 40, [], []))), (7, .inr (.inl (0, 40, [], []))), (8, .inr (.inl (0, 40, [], [])))]
def kcx2008 : aw_A := .inr (.inl (0, 6, [(0, 5, [(-1, 40)])], [(5, [(28, 28)]), (0, [(-1, 40)]), (1, [(-1, 40)]), (2, [(-1, 40)]), (3, [(-1, 40)]), (4, [(-1, 40)])]))
def kch2009 : aw_H := [(0, kcx2), (1, kcx2008), (2, kcx7), (3, .inr (.inl (0, 40, [], []))), (4, .inr (.inl (0, 40, [], []))), (5, .inr (.inl (0, 40, [], []))), (6, .inr (.inl (0, 40, [], []))), (7, .inr (.inl (0, 40, [], []))), (8, .inr (.inl (0, 40, [], [])))]
def kcx2010 : aw_A := .inr (.inl (0, 6, [(0, 5, [(-1, 40)])], [(5, [(27, 27)]), (0, [(-1, 40)]), (1, [(-1, 40)]), (2, [(-1, 40)]), (3, [(-1, 40)]), (4, [(-1, 40)])]))
def kch2011 : aw_H := [(0, kcx2), (1, kcx2010), (2, kcx7), (3, .inr (.inl (0, 40, [], []))), (4, .inr (.inl (0, 40, [], []))), (5, .inr (.inl (0, 40, [], []))), (6, .inr (.inl (0, 40, [], []))), (7, .inr (.inl (0, 40, [], []))), (8, .inr (.inl (0, 40, [], [])))]
def kcx2012 : aw_A := .inr (.inl (0, 6, [(0, 5, [(-1, 40)])], [(5, [(26, 26)]), (0, [(-1, 40)]), (1, [(-1, 40)]), (2, [(-1, 40)]), (3, [(-1, 40)]), (4, [(-1, 40)])]))
def kch2013 : aw_H := [(0, kcx2), (1, kcx2012), (2, kcx7), (3, .inr (.inl (0, 40, [], []))), (4, .inr (.inl (0, 40, [], []))), (5, .inr (.inl (0, 40, [], []))), (6, .inr (.inl (0, 40, [], []))), (7, .inr (.inl (0, 40, [], []))), (8, .inr (.inl (0, 40, [], [])))]
def kcx2014 : aw_A := .inr (.inl (0, 6, [(0, 5, [(-1, 40)])], [(5, [(23, 23)]), (0, [(-1, 40)]), (1, [(-1, 40)]), (2, [(-1, 40)]), (3, [(-1, 40)]), (4, [(-1, 40)])]))
def kch2015 : aw_H := [(0, kcx2), (1, kcx2014), (2, kcx7), (3, .inr (.inl (0, 40, [], []))), (4, .inr (.inl (0, 40, [], []))), (5, .inr (.inl (0, 40, [], []))), (6, .inr (.inl (0, 40, [], []))), (7, .inr (.inl (0, 40, [], []))), (8, .inr (.inl (0, 40, [], [])))]
def kcx2016 : aw_A := .inr (.inl (0, 6, [(0, 5, [(-1, 40)])], [(5, [(22, 22)]), (0, [(-1, 40)]), (1, [(-1, 40)]), (2, [(-1, 40)]), (3, [(-1, 40)]), (4, [(-1, 40)])]))
def kch2017 : aw_H := [(0, kcx2), (1, kcx2016), (2, kcx7), (3, .inr (.inl (0, 40, [], []))), (4, .inr (.inl (0, 40, [], []))), (5, .inr (.inl (0, 40, [], []))), (6, .inr (.inl (0, 40, [], []))), (7, .inr (.inl (0, 40, [], []))), (8, .inr (.inl (0, 40, [], [])))]
def kcx2018 : aw_A := .inr (.inl (0, 6, [(0, 5, [(-1, 40)])], [(5, [(19, 19)]), (0, [(-1, 40)]), (1, [(-1, 40)]), (2, [(-1, 40)]), (3, [(-1, 40)]), (4, [(-1, 40)])]))
def kch2019 : aw_H := [(0, kcx2), (1, kcx2018), (2, kcx7), (3, .inr (.inl (0, 40, [], []))), (4, .inr (.inl (0, 40, [], []))), (5, .inr (.inl (0, 40, [], []))), (6, .inr (.inl (0, 40, [], []))), (7, .inr (.inl (0, 40, [], []))), (8, .inr (.inl (0, 40, [], [])))]
def kcx2020 : aw_A := .inr (.inl (0, 6, [(0, 5, [(-1, 40)])], [(5, [(18, 18)]), (0, [(-1, 40)]), (1, [(-1, 40)]), (2, [(-1, 40)]), (3, [(-1, 40)]), (4, [(-1, 40)])]))
def kch2021 : aw_H := [(0, kcx2), (1, kcx2020), (2, kcx7), (3, .inr (.inl (0, 40, [], []))), (4, .inr (.inl (0, 40, [], []))), (5, .inr (.inl (0, 40, [], []))), (6, .inr (.inl (0, 40, [], []))), (7, .inr (.inl (0, 40, [], []))), (8, .inr (.inl (0, 40, [], [])))]
def kcx2022 : aw_A := .inr (.inl (0, 6, [(0, 5, [(-1, 40)])], [(5, [(14, 14)]), (0, [(-1, 40)]), (1, [(-1, 40)]), (2, [(-1, 40)]), (3, [(-1, 40)]), (4, [(-1, 40)])]))
def kch2023 : aw_H := [(0, kcx2), (1, kcx2022), (2, kcx7), (3, .inr (.inl (0, 40, [], []))), (4, .inr (.inl (0, 40, [], []))), (5, .inr (.inl (0, 40, [], []))), (6, .inr (.inl (0, 40, [], []))), (7, .inr (.inl (0, 40, [], []))), (8, .inr (.inl (0, 40, [], [])))]
def kcx2024 : aw_A := .inr (.inl (0, 6, [(0, 5, [(-1, 40)])], [(5, [(11, 11)]), (0, [(-1, 40)]), (1, [(-1, 40)]), (2, [(-1, 40)]), (3, [(-1, 40)]), (4, [(-1, 40)])]))
def kch2025 : aw_H := [(0, kcx2), (1, kcx2024), (2, kcx7), (3, .inr (.inl (0, 40, [], []))), (4, .inr (.inl (0, 40, [], []))), (5, .inr (.inl (0, 40, [], []))), (6, .inr (.inl (0, 40, [], []))), (7, .inr (.inl (0, 40, [], []))), (8, .inr (.inl (0, 40, [], [])))]
def kcx2026 : aw_A := .inr (.inl (0, 6, [(0, 5, [(-1, 40)])], [(5, [(10, 10)]), (0, [(-1, 40)]), (1, [(-1, 40)]), (2, [(-1, 40)]), (3, [(-1, 40)]), (4, [(-1, 40)])]))
def kch2027 : aw_H := [(0, kcx2), (1, kcx2026), (2, kcx7), (3, .inr (.inl (0, 40, [], []))), (4, .inr (.inl (0, 40, [], []))), (5, .inr (.inl (0, 40, [], []))), (6, .inr (.inl (0, 40, [], []))), (7, .inr (.inl (0, 40, [], []))), (8, .inr (.inl (0, 40, [], [])))]
def kcx2028 : aw_A := .inr (.inl (0, 6, [(0, 5, [(-1, 40)])], [(5, [(6, 6)]), (0, [(-1, 40)]), (1, [(-1, 40)]), (2, [(-1, 40)]), (3, [(-1, 40)]), (4, [(-1, 40)])]))
def kch2029 : aw_H := [(0, kcx2), (1, kcx2028), (2, kcx7), (3, .inr (.inl (0, 40, [], []))), (4, .inr (.inl (0, 40, [], []))), (5, .inr (.inl (0, 40, [], []))), (6, .inr (.inl (0, 40, [], []))), (7, .inr (.inl (0, 40, [], []))), (8, .inr (.inl (0, 40, [], [])))]
def kcx2030 : aw_A := .inr (.inl (0, 6, [(0, 5, [(-1, 40)])], [(5, [(3, 3)]), (0, [(-1, 40)]), (1, [(-1, 40)]), (2, [(-1, 40)]), (3, [(-1, 40)]), (4, [(-1, 40)])]))
def kch2031 : aw_H := [(0, kcx2), (1, kcx2030), (2, kcx7), (3, .inr (.inl (0, 40, [], []))), (4, .inr (.inl (0, 40, [], []))), (5, .inr (.inl (0, 40, [], []))), (6, .inr (.inl (0, 40, [], []))), (7, .inr (.inl (0, 40, [], []))), (8, .inr (.inl (0, 40, [], [])))]
def kcx2032 : aw_A := .inr (.inl (0, 6, [(0, 5, [(-1, 40)])], [(5, [(2, 2)]), (0, [(-1, 40)]), (1, [(-1, 40)]), (2, [(-1, 40)]), (3, [(-1, 40)]), (4, [(-1, 40)])]))
def kch2033 : aw_H := [(0, kcx2), (1, kcx2032), (2, kcx7), (3, .inr (.inl (0, 40, [], []))), (4, .inr (.inl (0, 40, [], []))), (5, .inr (.inl (0, 40, [], []))), (6, .inr (.inl (0, 40, [], []))), (7, .inr (.inl (0, 40, [], []))), (8, .inr (.inl (0, 40, [], [])))]
def kcx2034 : aw_A := .inr (.inl (0, 6, [(0, 5, [(-1, 40)])], [(5, [(1, 1)]), (0, [(-1, 40)]), (1, [(-1, 40)]), (2, [(-1, 40)]), (3, [(-1, 40)]), (4, [(-1, 40)])]))
def kch2035 : aw_H := [(0, kcx2), (1, kcx2034), (2, kcx7), (3, .inr (.inl (0, 40, [], []))), (4, .inr (.inl (0, 40, [], []))), (5, .inr (.inl (0, 40, [], []))), (6, .inr (.inl (0, 40, [], []))), (7, .inr (.inl (0, 40, [], []))), (8, .inr (.inl (0, 40, [], [])))]
def kcb1080 : sm_P := (fun pc => sm_ch sm_t101 pc, sm_Kn 2 7 none, fun x => sm_lk sm_ca2 x, some .long)
def czkc1080x0 : aw_A := .inl (2, [.inl 1, .inl 2, .inl 9, .inl 10, .inl 15, .inl 24, .inl 33, .inl 42, .inl 46, .inl 59, .inl 80, .inr (false, ar_t32), .inr (false, ar_t32), .inr (true, ar_t64), .inr (true, ar_t64)])
def czkc1080x1 : aw_A := .inr (.inl (0, 6, [(0, 5, [(-1, 40)])], []))
def czkc1080x2 : aw_A := .inr (.inr (.inl (2, [3, 4, 5, 6, 7, 8])))
def czkc1080h3 : aw_H := [(0, czkc1080x0), (1, czkc1080x1), (2, czkc1080x2), (3, .inr (.inl (0, 40, [], []))), (4, .inr (.inl (0, 40, [], []))), (5, .inr (.inl (0, 40, [], []))), (6, .inr (.inl (0, 40, [], []))), (7, .inr (.inl (0, 40, [], []))), (8, .inr (.inl (0, 40, [], [])))]
set_option maxRecDepth 100000 in
theorem kck1080 : ai_ch2 [] kcc1080 kcb1080 [] 7 0 [5, 30] [] 2000 [.inr (5, false, [((5, [(0, .inl 0), (1, .inr (true, ar_t64)), (3, .inr (true, ar_t64)), (5, .inr (false, [(0, 6)]))], [], czkc1080h3), none), ((30, [(0, .inl 0), (1, .inr (true, ar_t64)), (3, .inr (true, ar_t64)), (5, .inr (false, [(0, 5)])), (6, .inr (false, [(0, 40)]))], [], czkc1080h3), some 6)])] = true := by decide +kernel

