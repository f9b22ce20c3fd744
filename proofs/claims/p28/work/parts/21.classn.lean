/-! Contracts over ranges of the class, and their checks; printed by a program of mine. -/
def kcx968 : aw_A := .inl (1, [.inr (false, [(0, 8)]), .inr (false, [(0, 4)]), .inr (false, ar_t32), .inr (false, ar_t32), .inr (false, ar_t32), .inl 34, .inl 35, .inl 36, .inl 37, .inl 38, .inl 39, .inl 40, .inl 41])
def kch969 : aw_H := [(33, kcx968), (34, .inr (.inl (0, 8, [], []))), (35, .inr (.inl (0, 8, [], []))), (36, .inr (.inl (0, 8, [], []))), (37, .inr (.inl (0, 8, [], []))), (38, .inr (.inl (0, 4, [], []))), (39, .inr (.inl (0, 4, [], []))), (40, kcx36), (41, kcx36)]
/-- Register.takeFrom -/
def kch970 : aw_H := [(24, kcx25), (25, .inr (.inl (0, 8, [], []))), (26, .inr (.inl (0, 8, [], []))), (27, .inr (.inl (0, 8, [], []))), (28, .inr (.inl (0, 8, [], []))), (29, .inr (.inl (0, 4, [], []))), (30, .inr (.inl (0, 4, [], []))), (31, kcx36), (32, kcx36), (33, kcx968), (34, .inr (.inl (0, 8, [], []))), (35, .inr (.inl (0, 8, [], []))), (36, .inr (.inl (0, 8, [], []))), (37, .inr (.inl (0, 8, [], []))), (38, .inr (.inl (0, 4, [], []))), (39, .inr (.inl (0, 4, [], []))), (40, kcx36), (41, kcx36)]
def kcc1043 : ak_C := (23, [.inl 33, .inl 24], kch970, [33, 34, 35, 36, 37, 38, 39, 40, 41], [([], none, kch969)])
def kcx971 : aw_A := .inl (1, [.inr (false, [(1, 8)]), .inr (false, [(0, 4)]), .inr (false, ar_t32), .inr (false, ar_t32), .inr (false, ar_t32), .inl 34, .inl 35, .inl 36, .inl 37, .inl 38, .inl 39, .inl 40, .inl 41])
def kch972 : aw_H := [(24, kcx25), (25, .inr (.inl (0, 8, [], []))), (26, .inr (.inl (0, 8, [], []))), (27, .inr (.inl (0, 8, [], []))), (28, .inr (.inl (0, 8, [], []))), (29, .inr (.inl (0, 4, [], []))), (30, .inr (.inl (0, 4, [], []))), (31, kcx36), (32, kcx36), (33, kcx971), (34, .inr (.inl (0, 8, [], []))), (35, .inr (.inl (0, 8, [], []))), (36, .inr (.inl (0, 8, [], []))), (37, .inr (.inl (0, 8, [], []))), (38, .inr (.inl (0, 4, [], []))), (39, .inr (.inl (0, 4, [], []))), (40, kcx36), (41, kcx36)]
def kcx973 : aw_A := .inl (1, [.inr (false, [(2, 8)]), .inr (false, [(0, 4)]), .inr (false, ar_t32), .inr (false, ar_t32), .inr (false, ar_t32), .inl 34, .inl 35, .inl 36, .inl 37, .inl 38, .inl 39, .inl 40, .inl 41])
def kch974 : aw_H := [(24, kcx25), (25, .inr (.inl (0, 8, [], []))), (26, .inr (.inl (0, 8, [], []))), (27, .inr (.inl (0, 8, [], []))), (28, .inr (.inl (0, 8, [], []))), (29, .inr (.inl (0, 4, [], []))), (30, .inr (.inl (0, 4, [], []))), (31, kcx36), (32, kcx36), (33, kcx973), (34, .inr (.inl (0, 8, [], []))), (35, .inr (.inl (0, 8, [], []))), (36, .inr (.inl (0, 8, [], []))), (37, .inr (.inl (0, 8, [], []))), (38, .inr (.inl (0, 4, [], []))), (39, .inr (.inl (0, 4, [], []))), (40, kcx36), (41, kcx36)]
def kcx975 : aw_A := .inl (1, [.inr (false, [(3, 8)]), .inr (false, [(0, 4)]), .inr (false, ar_t32), .inr (false, ar_t32), .inr (false, ar_t32), .inl 34, .inl 35, .inl 36, .inl 37, .inl 38, .inl 39, .inl 40, .inl 41])
def kch976 : aw_H := [(24, kcx25), (25, .inr (.inl (0, 8, [], []))), (26, .inr (.inl (0, 8, [], []))), (27, .inr (.inl (0, 8, [], []))), (28, .inr (.inl (0, 8, [], []))), (29, .inr (.inl (0, 4, [], []))), (30, .inr (.inl (0, 4, [], []))), (31, kcx36), (32, kcx36), (33, kcx975), (34, .inr (.inl (0, 8, [], []))), (35, .inr (.inl (0, 8, [], []))), (36, .inr (.inl (0, 8, [], []))), (37, .inr (.inl (0, 8, [], []))), (38, .inr (.inl (0, 4, [], []))), (39, .inr (.inl (0, 4, [], []))), (40, kcx36), (41, kcx36)]
def kcx977 : aw_A := .inl (1, [.inr (false, [(4, 8)]), .inr (false, [(0, 4)]), .inr (false, ar_t32), .inr (false, ar_t32), .inr (false, ar_t32), .inl 34, .inl 35, .inl 36, .inl 37, .inl 38, .inl 39, .inl 40, .inl 41])
def kch978 : aw_H := [(24, kcx25), (25, .inr (.inl (0, 8, [], []))), (26, .inr (.inl (0, 8, [], []))), (27, .inr (.inl (0, 8, [], []))), (28, .inr (.inl (0, 8, [], []))), (29, .inr (.inl (0, 4, [], []))), (30, .inr (.inl (0, 4, [], []))), (31, kcx36), (32, kcx36), (33, kcx977), (34, .inr (.inl (0, 8, [], []))), (35, .inr (.inl (0, 8, [], []))), (36, .inr (.inl (0, 8, [], []))), (37, .inr (.inl (0, 8, [], []))), (38, .inr (.inl (0, 4, [], []))), (39, .inr (.inl (0, 4, [], []))), (40, kcx36), (41, kcx36)]
def kcx979 : aw_A := .inl (1, [.inr (false, [(5, 8)]), .inr (false, [(0, 4)]), .inr (false, ar_t32), .inr (false, ar_t32), .inr (false, ar_t32), .inl 34, .inl 35, .inl 36, .inl 37, .inl 38, .inl 39, .inl 40, .inl 41])
def kch980 : aw_H := [(24, kcx25), (25, .inr (.inl (0, 8, [], []))), (26, .inr (.inl (0, 8, [], []))), (27, .inr (.inl (0, 8, [], []))), (28, .inr (.inl (0, 8, [], []))), (29, .inr (.inl (0, 4, [], []))), (30, .inr (.inl (0, 4, [], []))), (31, kcx36), (32, kcx36), (33, kcx979), (34, .inr (.inl (0, 8, [], []))), (35, .inr (.inl (0, 8, [], []))), (36, .inr (.inl (0, 8, [], []))), (37, .inr (.inl (0, 8, [], []))), (38, .inr (.inl (0, 4, [], []))), (39, .inr (.inl (0, 4, [], []))), (40, kcx36), (41, kcx36)]
def kcx981 : aw_A := .inl (1, [.inr (false, [(6, 8)]), .inr (false, [(0, 4)]), .inr (false, ar_t32), .inr (false, ar_t32), .inr (false, ar_t32), .inl 34, .inl 35, .inl 36, .inl 37, .inl 38, .inl 39, .inl 40, .inl 41])
def kch982 : aw_H := [(24, kcx25), (25, .inr (.inl (0, 8, [], []))), (26, .inr (.inl (0, 8, [], []))), (27, .inr (.inl (0, 8, [], []))), (28, .inr (.inl (0, 8, [], []))), (29, .inr (.inl (0, 4, [], []))), (30, .inr (.inl (0, 4, [], []))), (31, kcx36), (32, kcx36), (33, kcx981), (34, .inr (.inl (0, 8, [], []))), (35, .inr (.inl (0, 8, [], []))), (36, .inr (.inl (0, 8, [], []))), (37, .inr (.inl (0, 8, [], []))), (38, .inr (.inl (0, 4, [], []))), (39, .inr (.inl (0, 4, [], []))), (40, kcx36), (41, kcx36)]
def kcx983 : aw_A := .inl (1, [.inr (false, [(7, 8)]), .inr (false, [(0, 4)]), .inr (false, ar_t32), .inr (false, ar_t32), .inr (false, ar_t32), .inl 34, .inl 35, .inl 36, .inl 37, .inl 38, .inl 39, .inl 40, .inl 41])
def kch984 : aw_H := [(24, kcx25), (25, .inr (.inl (0, 8, [], []))), (26, .inr (.inl (0, 8, [], []))), (27, .inr (.inl (0, 8, [], []))), (28, .inr (.inl (0, 8, [], []))), (29, .inr (.inl (0, 4, [], []))), (30, .inr (.inl (0, 4, [], []))), (31, kcx36), (32, kcx36), (33, kcx983), (34, .inr (.inl (0, 8, [], []))), (35, .inr (.inl (0, 8, [], []))), (36, .inr (.inl (0, 8, [], []))), (37, .inr (.inl (0, 8, [], []))), (38, .inr (.inl (0, 4, [], []))), (39, .inr (.inl (0, 4, [], []))), (40, kcx36), (41, kcx36)]
def kcx985 : aw_A := .inl (1, [.inr (false, [(8, 8)]), .inr (false, [(0, 4)]), .inr (false, ar_t32), .inr (false, ar_t32), .inr (false, ar_t32), .inl 34, .inl 35, .inl 36, .inl 37, .inl 38, .inl 39, .inl 40, .inl 41])
def kch986 : aw_H := [(24, kcx25), (25, .inr (.inl (0, 8, [], []))), (26, .inr (.inl (0, 8, [], []))), (27, .inr (.inl (0, 8, [], []))), (28, .inr (.inl (0, 8, [], []))), (29, .inr (.inl (0, 4, [], []))), (30, .inr (.inl (0, 4, [], []))), (31, kcx36), (32, kcx36), (33, kcx985), (34, .inr (.inl (0, 8, [], []))), (35, .inr (.inl (0, 8, [], []))), (36, .inr (.inl (0, 8, [], []))), (37, .inr (.inl (0, 8, [], []))), (38, .inr (.inl (0, 4, [], []))), (39, .inr (.inl (0, 4, [], []))), (40, kcx36), (41, kcx36)]
def kcx987 : aw_A := .inl (1, [.inr (false, [(0, 8)]), .inr (false, [(1, 4)]), .inr (false, ar_t32), .inr (false, ar_t32), .inr (false, ar_t32), .inl 34, .inl 35, .inl 36, .inl 37, .inl 38, .inl 39, .inl 40, .inl 41])
def kch988 : aw_H := [(24, kcx25), (25, .inr (.inl (0, 8, [], []))), (26, .inr (.inl (0, 8, [], []))), (27, .inr (.inl (0, 8, [], []))), (28, .inr (.inl (0, 8, [], []))), (29, .inr (.inl (0, 4, [], []))), (30, .inr (.inl (0, 4, [], []))), (31, kcx36), (32, kcx36), (33, kcx987), (34, .inr (.inl (0, 8, [], []))), (35, .inr (.inl (0, 8, [], []))), (36, .inr (.inl (0, 8, [], []))), (37, .inr (.inl (0, 8, [], []))), (38, .inr (.inl (0, 4, [], []))), (39, .inr (.inl (0, 4, [], []))), (40, kcx36), (41, kcx36)]
def kcx989 : aw_A := .inl (1, [.inr (false, [(0, 8)]), .inr (false, [(2, 4)]), .inr (false, ar_t32), .inr (false, ar_t32), .inr (false, ar_t32), .inl 34, .inl 35, .inl 36, .inl 37, .inl 38, .inl 39, .inl 40, .inl 41])
def kch990 : aw_H := [(24, kcx25), (25, .inr (.inl (0, 8, [], []))), (26, .inr (.inl (0, 8, [], []))), (27, .inr (.inl (0, 8, [], []))), (28, .inr (.inl (0, 8, [], []))), (29, .inr (.inl (0, 4, [], []))), (30, .inr (.inl (0, 4, [], []))), (31, kcx36), (32, kcx36), (33, kcx989), (34, .inr (.inl (0, 8, [], []))), (35, .inr (.inl (0, 8, [], []))), (36, .inr (.inl (0, 8, [], []))), (37, .inr (.inl (0, 8, [], []))), (38, .inr (.inl (0, 4, [], []))), (39, .inr (.inl (0, 4, [], []))), (40, kcx36), (41, kcx36)]
def kcx991 : aw_A := .inl (1, [.inr (false, [(0, 8)]), .inr (false, [(3, 4)]), .inr (false, ar_t32), .inr (false, ar_t32), .inr (false, ar_t32), .inl 34, .inl 35, .inl 36, .inl 37, .inl 38, .inl 39, .inl 40, .inl 41])
def kch992 : aw_H := [(24, kcx25), (25, .inr (.inl (0, 8, [], []))), (26, .inr (.inl (0, 8, [], []))), (27, .inr (.inl (0, 8, [], []))), (28, .inr (.inl (0, 8, [], []))), (29, .inr (.inl (0, 4, [], []))), (30, .inr (.inl (0, 4, [], []))), (31, kcx36), (32, kcx36), (33, kcx991), (34, .inr (.inl (0, 8, [], []))), (35, .inr (.inl (0, 8, [], []))), (36, .inr (.inl (0, 8, [], []))), (37, .inr (.inl (0, 8, [], []))), (38, .inr (.inl (0, 4, [], []))), (39, .inr (.inl (0, 4, [], []))), (40, kcx36), (41, kcx36)]
def kcx993 : aw_A := .inl (1, [.inr (false, [(0, 8)]), .inr (false, [(4, 4)]), .inr (false, ar_t32), .inr (false, ar_t32), .inr (false, ar_t32), .inl 34, .inl 35, .inl 36, .inl 37, .inl 38, .inl 39, .inl 40, .inl 41])
def kch994 : aw_H := [(24, kcx25), (25, .inr (.inl (0, 8, [], []))), (26, .inr (.inl (0, 8, [], []))), (27, .inr (.inl (0, 8, [], []))), (28, .inr (.inl (0, 8, [], []))), (29, .inr (.inl (0, 4, [], []))), (30, .inr (.inl (0, 4, [], []))), (31, kcx36), (32, kcx36), (33, kcx993), (34, .inr (.inl (0, 8, [], []))), (35, .inr (.inl (0, 8, [], []))), (36, .inr (.inl (0, 8, [], []))), (37, .inr (.inl (0, 8, [], []))), (38, .inr (.inl (0, 4, [], []))), (39, .inr (.inl (0, 4, [], []))), (40, kcx36), (41, kcx36)]
theorem kck1043 : ai_chk [] kcc1043 (fun pc => sm_ch sm_t23 pc, sm_Kn 1 3 none, fun x => sm_lk sm_ca1 x, none) [33, 34, 35, 36, 37, 38, 39, 40, 41] 3 0 [42, 106] [] 2000 [(42, [(0, .inl 33), (1, .inl 24), (2, .inr (false, [(0, 0)]))], [], kch970),
  (42, [(0, .inl 33), (1, .inl 24), (2, .inr (false, [(1, 1)]))], [], kch972),
  (42, [(0, .inl 33), (1, .inl 24), (2, .inr (false, [(2, 2)]))], [], kch974),
  (42, [(0, .inl 33), (1, .inl 24), (2, .inr (false, [(3, 3)]))], [], kch976),
  (42, [(0, .inl 33), (1, .inl 24), (2, .inr (false, [(4, 4)]))], [], kch978),
  (42, [(0, .inl 33), (1, .inl 24), (2, .inr (false, [(5, 5)]))], [], kch980),
  (42, [(0, .inl 33), (1, .inl 24), (2, .inr (false, [(6, 6)]))], [], kch982),
  (42, [(0, .inl 33), (1, .inl 24), (2, .inr (false, [(7, 7)]))], [], kch984),
  (42, [(0, .inl 33), (1, .inl 24), (2, .inr (false, [(8, 8)]))], [], kch986),
  (106, [(0, .inl 33), (1, .inl 24), (2, .inr (false, [(0, 0)]))], [], kch970),
  (106, [(0, .inl 33), (1, .inl 24), (2, .inr (false, [(1, 1)]))], [], kch988),
  (106, [(0, .inl 33), (1, .inl 24), (2, .inr (false, [(2, 2)]))], [], kch990),
  (106, [(0, .inl 33), (1, .inl 24), (2, .inr (false, [(3, 3)]))], [], kch992),
  (106, [(0, .inl 33), (1, .inl 24), (2, .inr (false, [(4, 4)]))], [], kch994)] = true := by decide +kernel
/-- Register.isOpen -/
def kch995 : aw_H := [(33, kcx968), (36, .inr (.inl (0, 8, [], [])))]
def kcc1044 : ak_C := (29, [.inl 33, .inr (false, [(0, 7)])], kch995, [], [([], some (.inr (false, [(1, 1)])), []), ([], some (.inr (false, [(0, 0)])), [])])
theorem kck1044 : ai_chk [] kcc1044 (fun pc => sm_ch sm_t29 pc, sm_Kn 1 2 none, fun x => sm_lk sm_ca1 x, some .boolean) [] 2 0 [] [] 2000 [] = true := by decide +kernel
/-- Register.distance -/
def kch996 : aw_H := [(33, kcx968), (41, kcx36)]
def kcc1045 : ak_C := (30, [.inl 33, .inr (false, [(0, 3)]), .inr (false, [(0, 7)])], kch996, [], [([], some (.inr (false, [(0, 7)])), [])])
theorem kck1045 : ai_chk [] kcc1045 (fun pc => sm_ch sm_t30 pc, sm_Kn 1 3 none, fun x => sm_lk sm_ca1 x, some .int) [] 3 0 [] [] 2000 [] = true := by decide +kernel
/-- Register.lineWantedBy -/
def kch997 : aw_H := [(33, kcx968), (34, .inr (.inl (0, 8, [], []))), (36, .inr (.inl (0, 8, [], []))), (37, .inr (.inl (0, 8, [], []))), (38, .inr (.inl (0, 4, [], []))), (41, kcx36)]
def kcc1046 : ak_C := (28, [.inl 33, .inr (false, [(0, 3)])], kch997, [], [([], some (.inr (false, [(-9, -9)])), []), ([], some (.inr (false, [(-9, -9), (0, 7)])), [])])
def kch998 : aw_H := [(33, kcx971), (34, .inr (.inl (0, 8, [], []))), (36, .inr (.inl (0, 8, [], []))), (37, .inr (.inl (0, 8, [], []))), (38, .inr (.inl (0, 4, [], []))), (41, kcx36)]
def kch999 : aw_H := [(33, kcx973), (34, .inr (.inl (0, 8, [], []))), (36, .inr (.inl (0, 8, [], []))), (37, .inr (.inl (0, 8, [], []))), (38, .inr (.inl (0, 4, [], []))), (41, kcx36)]
def kch1000 : aw_H := [(33, kcx975), (34, .inr (.inl (0, 8, [], []))), (36, .inr (.inl (0, 8, [], []))), (37, .inr (.inl (0, 8, [], []))), (38, .inr (.inl (0, 4, [], []))), (41, kcx36)]
def kch1001 : aw_H := [(33, kcx977), (34, .inr (.inl (0, 8, [], []))), (36, .inr (.inl (0, 8, [], []))), (37, .inr (.inl (0, 8, [], []))), (38, .inr (.inl (0, 4, [], []))), (41, kcx36)]
def kch1002 : aw_H := [(33, kcx979), (34, .inr (.inl (0, 8, [], []))), (36, .inr (.inl (0, 8, [], []))), (37, .inr (.inl (0, 8, [], []))), (38, .inr (.inl (0, 4, [], []))), (41, kcx36)]
def kch1003 : aw_H := [(33, kcx981), (34, .inr (.inl (0, 8, [], []))), (36, .inr (.inl (0, 8, [], []))), (37, .inr (.inl (0, 8, [], []))), (38, .inr (.inl (0, 4, [], []))), (41, kcx36)]
def kch1004 : aw_H := [(33, kcx983), (34, .inr (.inl (0, 8, [], []))), (36, .inr (.inl (0, 8, [], []))), (37, .inr (.inl (0, 8, [], []))), (38, .inr (.inl (0, 4, [], []))), (41, kcx36)]
def kch1005 : aw_H := [(33, kcx985), (34, .inr (.inl (0, 8, [], []))), (36, .inr (.inl (0, 8, [], []))), (37, .inr (.inl (0, 8, [], []))), (38, .inr (.inl (0, 4, [], []))), (41, kcx36)]
theorem kck1046 : ai_chk [kcc1044, kcc1045, kcc979] kcc1046 (fun pc => sm_ch sm_t28 pc, sm_Kn 1 8 none, fun x => sm_lk sm_ca1 x, some .int) [] 8 0 [11] [] 2000 [(11, [(0, .inl 33), (1, .inr (false, [(0, 3)])), (2, .inr (false, [(-9, -9)])), (3, .inr (false, [(0, 0)])), (4, .inr (false, [(0, 0)])), (5, .inr (false, [(0, 0)]))], [], kch997),
  (11, [(0, .inl 33), (1, .inr (false, [(0, 3)])), (2, .inr (false, [(-9, -9), (0, 0)])), (3, .inr (false, [(0, 2147483647)])), (4, .inr (false, [(0, 7)])), (5, .inr (false, [(1, 1)]))], [], kch998),
  (11, [(0, .inl 33), (1, .inr (false, [(0, 3)])), (2, .inr (false, [(-9, -9), (0, 1)])), (3, .inr (false, [(0, 2147483647)])), (4, .inr (false, [(0, 7)])), (5, .inr (false, [(2, 2)]))], [], kch999),
  (11, [(0, .inl 33), (1, .inr (false, [(0, 3)])), (2, .inr (false, [(-9, -9), (0, 2)])), (3, .inr (false, [(0, 2147483647)])), (4, .inr (false, [(0, 7)])), (5, .inr (false, [(3, 3)]))], [], kch1000),
  (11, [(0, .inl 33), (1, .inr (false, [(0, 3)])), (2, .inr (false, [(-9, -9), (0, 3)])), (3, .inr (false, [(0, 2147483647)])), (4, .inr (false, [(0, 7)])), (5, .inr (false, [(4, 4)]))], [], kch1001),
  (11, [(0, .inl 33), (1, .inr (false, [(0, 3)])), (2, .inr (false, [(-9, -9), (0, 4)])), (3, .inr (false, [(0, 2147483647)])), (4, .inr (false, [(0, 7)])), (5, .inr (false, [(5, 5)]))], [], kch1002),
  (11, [(0, .inl 33), (1, .inr (false, [(0, 3)])), (2, .inr (false, [(-9, -9), (0, 5)])), (3, .inr (false, [(0, 2147483647)])), (4, .inr (false, [(0, 7)])), (5, .inr (false, [(6, 6)]))], [], kch1003),
  (11, [(0, .inl 33), (1, .inr (false, [(0, 3)])), (2, .inr (false, [(-9, -9), (0, 6)])), (3, .inr (false, [(0, 2147483647)])), (4, .inr (false, [(0, 7)])), (5, .inr (false, [(7, 7)]))], [], kch1004),
  (11, [(0, .inl 33), (1, .inr (false, [(0, 3)])), (2, .inr (false, [(-9, -9), (0, 7)])), (3, .inr (false, [(0, 2147483647)])), (4, .inr (false, [(0, 7)])), (5, .inr (false, [(8, 8)]))], [], kch1005)] = true := by decide +kernel
def kch1006 : aw_H := [(33, kcx968), (36, .inr (.inl (0, 8, [], []))), (37, .inr (.inl (0, 8, [], []))), (41, kcx36)]
/-- Register.passYear -/
def kch1007 : aw_H := [(33, kcx968), (34, .inr (.inl (0, 8, [], []))), (36, .inr (.inl (0, 8, [], []))), (37, .inr (.inl (0, 8, [], []))), (38, .inr (.inl (0, 4, [], []))), (39, .inr (.inl (0, 4, [], []))), (41, kcx36)]
def kcc1047 : ak_C := (46, [.inl 33, .inr (false, ar_t32)], kch1007, [33, 36, 37, 41], [([], some (.inr (false, ar_t32)), kch1006)])
def kch1008 : aw_H := [(33, kcx987), (34, .inr (.inl (0, 8, [], []))), (36, .inr (.inl (0, 8, [], []))), (37, .inr (.inl (0, 8, [], []))), (38, .inr (.inl (0, 4, [], []))), (39, .inr (.inl (0, 4, [], []))), (41, kcx36)]
def kch1009 : aw_H := [(33, kcx989), (34, .inr (.inl (0, 8, [], []))), (36, .inr (.inl (0, 8, [], []))), (37, .inr (.inl (0, 8, [], []))), (38, .inr (.inl (0, 4, [], []))), (39, .inr (.inl (0, 4, [], []))), (41, kcx36)]
def kch1010 : aw_H := [(33, kcx991), (34, .inr (.inl (0, 8, [], []))), (36, .inr (.inl (0, 8, [], []))), (37, .inr (.inl (0, 8, [], []))), (38, .inr (.inl (0, 4, [], []))), (39, .inr (.inl (0, 4, [], []))), (41, kcx36)]
def kch1011 : aw_H := [(33, kcx993), (34, .inr (.inl (0, 8, [], []))), (36, .inr (.inl (0, 8, [], []))), (37, .inr (.inl (0, 8, [], []))), (38, .inr (.inl (0, 4, [], []))), (39, .inr (.inl (0, 4, [], []))), (41, kcx36)]
def kch1012 : aw_H := [(33, kcx971), (34, .inr (.inl (0, 8, [], []))), (36, .inr (.inl (0, 8, [], []))), (37, .inr (.inl (0, 8, [], []))), (38, .inr (.inl (0, 4, [], []))), (39, .inr (.inl (0, 4, [], []))), (41, kcx36)]
def kch1013 : aw_H := [(33, kcx973), (34, .inr (.inl (0, 8, [], []))), (36, .inr (.inl (0, 8, [], []))), (37, .inr (.inl (0, 8, [], []))), (38, .inr (.inl (0, 4, [], []))), (39, .inr (.inl (0, 4, [], []))), (41, kcx36)]
def kch1014 : aw_H := [(33, kcx975), (34, .inr (.inl (0, 8, [], []))), (36, .inr (.inl (0, 8, [], []))), (37, .inr (.inl (0, 8, [], []))), (38, .inr (.inl (0, 4, [], []))), (39, .inr (.inl (0, 4, [], []))), (41, kcx36)]
def kch1015 : aw_H := [(33, kcx977), (34, .inr (.inl (0, 8, [], []))), (36, .inr (.inl (0, 8, [], []))), (37, .inr (.inl (0, 8, [], []))), (38, .inr (.inl (0, 4, [], []))), (39, .inr (.inl (0, 4, [], []))), (41, kcx36)]
def kch1016 : aw_H := [(33, kcx979), (34, .inr (.inl (0, 8, [], []))), (36, .inr (.inl (0, 8, [], []))), (37, .inr (.inl (0, 8, [], []))), (38, .inr (.inl (0, 4, [], []))), (39, .inr (.inl (0, 4, [], []))), (41, kcx36)]
def kch1017 : aw_H := [(33, kcx981), (34, .inr (.inl (0, 8, [], []))), (36, .inr (.inl (0, 8, [], []))), (37, .inr (.inl (0, 8, [], []))), (38, .inr (.inl (0, 4, [], []))), (39, .inr (.inl (0, 4, [], []))), (41, kcx36)]
def kch1018 : aw_H := [(33, kcx983), (34, .inr (.inl (0, 8, [], []))), (36, .inr (.inl (0, 8, [], []))), (37, .inr (.inl (0, 8, [], []))), (38, .inr (.inl (0, 4, [], []))), (39, .inr (.inl (0, 4, [], []))), (41, kcx36)]
def kch1019 : aw_H := [(33, kcx985), (34, .inr (.inl (0, 8, [], []))), (36, .inr (.inl (0, 8, [], []))), (37, .inr (.inl (0, 8, [], []))), (38, .inr (.inl (0, 4, [], []))), (39, .inr (.inl (0, 4, [], []))), (41, kcx36)]
theorem kck1047 : ai_chk [kcc1046, kcc985] kcc1047 (fun pc => sm_ch sm_t46 pc, sm_Kn 1 6 none, fun x => sm_lk sm_ca1 x, some .int) [33, 36, 37, 41] 6 0 [4, 100] [] 2000 [(4, [(0, .inl 33), (1, .inr (false, ar_t32)), (2, .inr (false, [(0, 0)])), (3, .inr (false, [(0, 0)]))], [], kch1007),
  (4, [(0, .inl 33), (1, .inr (false, ar_t32)), (2, .inr (false, ar_t32)), (3, .inr (false, [(1, 1)])), (4, .inr (false, [(-9, -9), (0, 7)]))], [], kch1008),
  (4, [(0, .inl 33), (1, .inr (false, ar_t32)), (2, .inr (false, ar_t32)), (3, .inr (false, [(2, 2)])), (4, .inr (false, [(-9, -9), (0, 7)]))], [], kch1009),
  (4, [(0, .inl 33), (1, .inr (false, ar_t32)), (2, .inr (false, ar_t32)), (3, .inr (false, [(3, 3)])), (4, .inr (false, [(-9, -9), (0, 7)]))], [], kch1010),
  (4, [(0, .inl 33), (1, .inr (false, ar_t32)), (2, .inr (false, ar_t32)), (3, .inr (false, [(4, 4)])), (4, .inr (false, [(-9, -9), (0, 7)]))], [], kch1011),
  (100, [(0, .inl 33), (1, .inr (false, ar_t32)), (2, .inr (false, ar_t32)), (3, .inr (false, [(0, 0)]))], [], kch1007),
  (100, [(0, .inl 33), (1, .inr (false, ar_t32)), (2, .inr (false, ar_t32)), (3, .inr (false, [(1, 1)]))], [], kch1012),
  (100, [(0, .inl 33), (1, .inr (false, ar_t32)), (2, .inr (false, ar_t32)), (3, .inr (false, [(2, 2)]))], [], kch1013),
  (100, [(0, .inl 33), (1, .inr (false, ar_t32)), (2, .inr (false, ar_t32)), (3, .inr (false, [(3, 3)]))], [], kch1014),
  (100, [(0, .inl 33), (1, .inr (false, ar_t32)), (2, .inr (false, ar_t32)), (3, .inr (false, [(4, 4)]))], [], kch1015),
  (100, [(0, .inl 33), (1, .inr (false, ar_t32)), (2, .inr (false, ar_t32)), (3, .inr (false, [(5, 5)]))], [], kch1016),
  (100, [(0, .inl 33), (1, .inr (false, ar_t32)), (2, .inr (false, ar_t32)), (3, .inr (false, [(6, 6)]))], [], kch1017),
  (100, [(0, .inl 33), (1, .inr (false, ar_t32)), (2, .inr (false, ar_t32)), (3, .inr (false, [(7, 7)]))], [], kch1018),
  (100, [(0, .inl 33), (1, .inr (false, ar_t32)), (2, .inr (false, ar_t32)), (3, .inr (false, [(8, 8)]))], [], kch1019)] = true := by decide +kernel
/-- MiceRegisters.duelFrom -/
def kcc1048 : ak_C := (82, [.inl 24, .inl 33, .inr (false, [(0, 0)]), .inr (false, [(0, 7)]), .inr (false, [(0, 7)]), .inr (false, ar_t32), .inr (false, ar_t32)], kch970, [33, 34, 35, 36, 37, 38, 39, 40, 41], [([], some (.inr (false, ar_t32)), kch969)])
theorem kck1048 : ai_chk [kcc1043, kcc1047] kcc1048 (fun pc => sm_ch sm_t82 pc, sm_Kn 2 13 none, fun x => sm_lk sm_ca2 x, some .int) [33, 34, 35, 36, 37, 38, 39, 40, 41] 13 0 [63] [] 2000 [] = true := by decide +kernel
def kch1020 : aw_H := [(28, .inr (.inl (0, 8, [], []))), (33, kcx968), (34, .inr (.inl (0, 8, [], []))), (35, .inr (.inl (0, 8, [], []))), (36, .inr (.inl (0, 8, [], []))), (37, .inr (.inl (0, 8, [], []))), (38, .inr (.inl (0, 4, [], []))), (39, .inr (.inl (0, 4, [], []))), (40, kcx36), (41, kcx36)]
/-- MiceRegisters.duelFrom -/
def kcc1049 : ak_C := (82, [.inl 24, .inl 33, .inr (false, [(1, 1)]), .inr (false, [(0, 7)]), .inr (false, [(0, 7)]), .inr (false, ar_t32), .inr (false, ar_t32)], kch970, [28, 33, 34, 35, 36, 37, 38, 39, 40, 41], [([], some (.inr (false, ar_t32)), kch1020)])
def kch1021 : aw_H := [(24, kcx828), (25, .inr (.inl (0, 8, [], []))), (26, .inr (.inl (0, 8, [], []))), (27, .inr (.inl (0, 8, [], []))), (28, .inr (.inl (0, 8, [], [(0, ar_t32)]))), (29, .inr (.inl (0, 4, [], []))), (30, .inr (.inl (0, 4, [], []))), (31, kcx36), (32, kcx36), (33, kcx968), (34, .inr (.inl (0, 8, [], []))), (35, .inr (.inl (0, 8, [], []))), (36, .inr (.inl (0, 8, [], []))), (37, .inr (.inl (0, 8, [], []))), (38, .inr (.inl (0, 4, [], []))), (39, .inr (.inl (0, 4, [], []))), (40, kcx36), (41, kcx36)]
def kch1022 : aw_H := [(24, kcx830), (25, .inr (.inl (0, 8, [], []))), (26, .inr (.inl (0, 8, [], []))), (27, .inr (.inl (0, 8, [], []))), (28, kcx733), (29, .inr (.inl (0, 4, [], []))), (30, .inr (.inl (0, 4, [], []))), (31, kcx36), (32, kcx36), (33, kcx968), (34, .inr (.inl (0, 8, [], []))), (35, .inr (.inl (0, 8, [], []))), (36, .inr (.inl (0, 8, [], []))), (37, .inr (.inl (0, 8, [], []))), (38, .inr (.inl (0, 4, [], []))), (39, .inr (.inl (0, 4, [], []))), (40, kcx36), (41, kcx36)]
def kch1023 : aw_H := [(24, kcx832), (25, .inr (.inl (0, 8, [], []))), (26, .inr (.inl (0, 8, [], []))), (27, .inr (.inl (0, 8, [], []))), (28, kcx735), (29, .inr (.inl (0, 4, [], []))), (30, .inr (.inl (0, 4, [], []))), (31, kcx36), (32, kcx36), (33, kcx968), (34, .inr (.inl (0, 8, [], []))), (35, .inr (.inl (0, 8, [], []))), (36, .inr (.inl (0, 8, [], []))), (37, .inr (.inl (0, 8, [], []))), (38, .inr (.inl (0, 4, [], []))), (39, .inr (.inl (0, 4, [], []))), (40, kcx36), (41, kcx36)]
def kch1024 : aw_H := [(24, kcx834), (25, .inr (.inl (0, 8, [], []))), (26, .inr (.inl (0, 8, [], []))), (27, .inr (.inl (0, 8, [], []))), (28, kcx737), (29, .inr (.inl (0, 4, [], []))), (30, .inr (.inl (0, 4, [], []))), (31, kcx36), (32, kcx36), (33, kcx968), (34, .inr (.inl (0, 8, [], []))), (35, .inr (.inl (0, 8, [], []))), (36, .inr (.inl (0, 8, [], []))), (37, .inr (.inl (0, 8, [], []))), (38, .inr (.inl (0, 4, [], []))), (39, .inr (.inl (0, 4, [], []))), (40, kcx36), (41, kcx36)]
def kch1025 : aw_H := [(24, kcx836), (25, .inr (.inl (0, 8, [], []))), (26, .inr (.inl (0, 8, [], []))), (27, .inr (.inl (0, 8, [], []))), (28, kcx739), (29, .inr (.inl (0, 4, [], []))), (30, .inr (.inl (0, 4, [], []))), (31, kcx36), (32, kcx36), (33, kcx968), (34, .inr (.inl (0, 8, [], []))), (35, .inr (.inl (0, 8, [], []))), (36, .inr (.inl (0, 8, [], []))), (37, .inr (.inl (0, 8, [], []))), (38, .inr (.inl (0, 4, [], []))), (39, .inr (.inl (0, 4, [], []))), (40, kcx36), (41, kcx36)]
def kch1026 : aw_H := [(24, kcx838), (25, .inr (.inl (0, 8, [], []))), (26, .inr (.inl (0, 8, [], []))), (27, .inr (.inl (0, 8, [], []))), (28, kcx741), (29, .inr (.inl (0, 4, [], []))), (30, .inr (.inl (0, 4, [], []))), (31, kcx36), (32, kcx36), (33, kcx968), (34, .inr (.inl (0, 8, [], []))), (35, .inr (.inl (0, 8, [], []))), (36, .inr (.inl (0, 8, [], []))), (37, .inr (.inl (0, 8, [], []))), (38, .inr (.inl (0, 4, [], []))), (39, .inr (.inl (0, 4, [], []))), (40, kcx36), (41, kcx36)]
def kch1027 : aw_H := [(24, kcx840), (25, .inr (.inl (0, 8, [], []))), (26, .inr (.inl (0, 8, [], []))), (27, .inr (.inl (0, 8, [], []))), (28, kcx743), (29, .inr (.inl (0, 4, [], []))), (30, .inr (.inl (0, 4, [], []))), (31, kcx36), (32, kcx36), (33, kcx968), (34, .inr (.inl (0, 8, [], []))), (35, .inr (.inl (0, 8, [], []))), (36, .inr (.inl (0, 8, [], []))), (37, .inr (.inl (0, 8, [], []))), (38, .inr (.inl (0, 4, [], []))), (39, .inr (.inl (0, 4, [], []))), (40, kcx36), (41, kcx36)]
def kch1028 : aw_H := [(24, kcx842), (25, .inr (.inl (0, 8, [], []))), (26, .inr (.inl (0, 8, [], []))), (27, .inr (.inl (0, 8, [], []))), (28, kcx745), (29, .inr (.inl (0, 4, [], []))), (30, .inr (.inl (0, 4, [], []))), (31, kcx36), (32, kcx36), (33, kcx968), (34, .inr (.inl (0, 8, [], []))), (35, .inr (.inl (0, 8, [], []))), (36, .inr (.inl (0, 8, [], []))), (37, .inr (.inl (0, 8, [], []))), (38, .inr (.inl (0, 4, [], []))), (39, .inr (.inl (0, 4, [], []))), (40, kcx36), (41, kcx36)]
theorem kck1049 : ai_chk [kcc1048] kcc1049 (fun pc => sm_ch sm_t82 pc, sm_Kn 2 13 none, fun x => sm_lk sm_ca2 x, some .int) [28, 33, 34, 35, 36, 37, 38, 39, 40, 41] 13 0 [63] [] 2000 [(63, [(0, .inl 24), (1, .inl 33), (2, .inr (false, [(1, 1)])), (3, .inr (false, [(0, 7)])), (4, .inr (false, [(0, 7)])), (5, .inr (false, ar_t32)), (6, .inr (false, ar_t32)), (7, .inr (false, [(0, 0)])), (8, .inr (false, ar_t32)), (9, .inr (false, [(0, 0)]))], [], kch970),
  (63, [(0, .inl 24), (1, .inl 33), (2, .inr (false, [(1, 1)])), (3, .inr (false, [(0, 7)])), (4, .inr (false, [(0, 7)])), (5, .inr (false, ar_t32)), (6, .inr (false, ar_t32)), (7, .inr (false, [(0, 0)])), (8, .inr (false, ar_t32)), (9, .inr (false, [(1, 1)])), (10, .inr (false, [(-2147483648, 2147483646)])), (11, .inr (false, [(-2147483647, 2147483647)]))], [], kch1021),
  (63, [(0, .inl 24), (1, .inl 33), (2, .inr (false, [(1, 1)])), (3, .inr (false, [(0, 7)])), (4, .inr (false, [(0, 7)])), (5, .inr (false, ar_t32)), (6, .inr (false, ar_t32)), (7, .inr (false, [(0, 0)])), (8, .inr (false, ar_t32)), (9, .inr (false, [(2, 2)])), (10, .inr (false, [(-2147483648, 2147483646)])), (11, .inr (false, [(-2147483647, 2147483647)]))], [], kch1022),
  (63, [(0, .inl 24), (1, .inl 33), (2, .inr (false, [(1, 1)])), (3, .inr (false, [(0, 7)])), (4, .inr (false, [(0, 7)])), (5, .inr (false, ar_t32)), (6, .inr (false, ar_t32)), (7, .inr (false, [(0, 0)])), (8, .inr (false, ar_t32)), (9, .inr (false, [(3, 3)])), (10, .inr (false, [(-2147483648, 2147483646)])), (11, .inr (false, [(-2147483647, 2147483647)]))], [], kch1023),
  (63, [(0, .inl 24), (1, .inl 33), (2, .inr (false, [(1, 1)])), (3, .inr (false, [(0, 7)])), (4, .inr (false, [(0, 7)])), (5, .inr (false, ar_t32)), (6, .inr (false, ar_t32)), (7, .inr (false, [(0, 0)])), (8, .inr (false, ar_t32)), (9, .inr (false, [(4, 4)])), (10, .inr (false, [(-2147483648, 2147483646)])), (11, .inr (false, [(-2147483647, 2147483647)]))], [], kch1024),
  (63, [(0, .inl 24), (1, .inl 33), (2, .inr (false, [(1, 1)])), (3, .inr (false, [(0, 7)])), (4, .inr (false, [(0, 7)])), (5, .inr (false, ar_t32)), (6, .inr (false, ar_t32)), (7, .inr (false, [(0, 0)])), (8, .inr (false, ar_t32)), (9, .inr (false, [(5, 5)])), (10, .inr (false, [(-2147483648, 2147483646)])), (11, .inr (false, [(-2147483647, 2147483647)]))], [], kch1025),
  (63, [(0, .inl 24), (1, .inl 33), (2, .inr (false, [(1, 1)])), (3, .inr (false, [(0, 7)])), (4, .inr (false, [(0, 7)])), (5, .inr (false, ar_t32)), (6, .inr (false, ar_t32)), (7, .inr (false, [(0, 0)])), (8, .inr (false, ar_t32)), (9, .inr (false, [(6, 6)])), (10, .inr (false, [(-2147483648, 2147483646)])), (11, .inr (false, [(-2147483647, 2147483647)]))], [], kch1026),
  (63, [(0, .inl 24), (1, .inl 33), (2, .inr (false, [(1, 1)])), (3, .inr (false, [(0, 7)])), (4, .inr (false, [(0, 7)])), (5, .inr (false, ar_t32)), (6, .inr (false, ar_t32)), (7, .inr (false, [(0, 0)])), (8, .inr (false, ar_t32)), (9, .inr (false, [(7, 7)])), (10, .inr (false, [(-2147483648, 2147483646)])), (11, .inr (false, [(-2147483647, 2147483647)]))], [], kch1027),
  (63, [(0, .inl 24), (1, .inl 33), (2, .inr (false, [(1, 1)])), (3, .inr (false, [(0, 7)])), (4, .inr (false, [(0, 7)])), (5, .inr (false, ar_t32)), (6, .inr (false, ar_t32)), (7, .inr (false, [(0, 0)])), (8, .inr (false, ar_t32)), (9, .inr (false, [(8, 8)])), (10, .inr (false, [(-2147483648, 2147483646)])), (11, .inr (false, [(-2147483647, 2147483647)]))], [], kch1028)] = true := by decide +kernel
/-- MiceRegisters.duelFrom -/
def kcc1050 : ak_C := (82, [.inl 24, .inl 33, .inr (false, [(2, 2)]), .inr (false, [(0, 7)]), .inr (false, [(0, 7)]), .inr (false, ar_t32), .inr (false, ar_t32)], kch970, [28, 33, 34, 35, 36, 37, 38, 39, 40, 41], [([], some (.inr (false, ar_t32)), kch1020)])
def kch1029 : aw_H := [(24, kcx828), (25, .inr (.inl (0, 8, [], []))), (26, .inr (.inl (0, 8, [], []))), (27, .inr (.inl (0, 8, [], []))), (28, .inr (.inl (0, 8, [], []))), (29, .inr (.inl (0, 4, [], []))), (30, .inr (.inl (0, 4, [], []))), (31, kcx36), (32, kcx36), (33, kcx968), (34, .inr (.inl (0, 8, [], []))), (35, .inr (.inl (0, 8, [], []))), (36, .inr (.inl (0, 8, [], []))), (37, .inr (.inl (0, 8, [], []))), (38, .inr (.inl (0, 4, [], []))), (39, .inr (.inl (0, 4, [], []))), (40, kcx36), (41, kcx36)]
def kch1030 : aw_H := [(24, kcx830), (25, .inr (.inl (0, 8, [], []))), (26, .inr (.inl (0, 8, [], []))), (27, .inr (.inl (0, 8, [], []))), (28, .inr (.inl (0, 8, [], []))), (29, .inr (.inl (0, 4, [], []))), (30, .inr (.inl (0, 4, [], []))), (31, kcx36), (32, kcx36), (33, kcx968), (34, .inr (.inl (0, 8, [], []))), (35, .inr (.inl (0, 8, [], []))), (36, .inr (.inl (0, 8, [], []))), (37, .inr (.inl (0, 8, [], []))), (38, .inr (.inl (0, 4, [], []))), (39, .inr (.inl (0, 4, [], []))), (40, kcx36), (41, kcx36)]
def kch1031 : aw_H := [(24, kcx832), (25, .inr (.inl (0, 8, [], []))), (26, .inr (.inl (0, 8, [], []))), (27, .inr (.inl (0, 8, [], []))), (28, .inr (.inl (0, 8, [], []))), (29, .inr (.inl (0, 4, [], []))), (30, .inr (.inl (0, 4, [], []))), (31, kcx36), (32, kcx36), (33, kcx968), (34, .inr (.inl (0, 8, [], []))), (35, .inr (.inl (0, 8, [], []))), (36, .inr (.inl (0, 8, [], []))), (37, .inr (.inl (0, 8, [], []))), (38, .inr (.inl (0, 4, [], []))), (39, .inr (.inl (0, 4, [], []))), (40, kcx36), (41, kcx36)]
def kch1032 : aw_H := [(24, kcx834), (25, .inr (.inl (0, 8, [], []))), (26, .inr (.inl (0, 8, [], []))), (27, .inr (.inl (0, 8, [], []))), (28, .inr (.inl (0, 8, [], []))), (29, .inr (.inl (0, 4, [], []))), (30, .inr (.inl (0, 4, [], []))), (31, kcx36), (32, kcx36), (33, kcx968), (34, .inr (.inl (0, 8, [], []))), (35, .inr (.inl (0, 8, [], []))), (36, .inr (.inl (0, 8, [], []))), (37, .inr (.inl (0, 8, [], []))), (38, .inr (.inl (0, 4, [], []))), (39, .inr (.inl (0, 4, [], []))), (40, kcx36), (41, kcx36)]
def kch1033 : aw_H := [(24, kcx836), (25, .inr (.inl (0, 8, [], []))), (26, .inr (.inl (0, 8, [], []))), (27, .inr (.inl (0, 8, [], []))), (28, .inr (.inl (0, 8, [], []))), (29, .inr (.inl (0, 4, [], []))), (30, .inr (.inl (0, 4, [], []))), (31, kcx36), (32, kcx36), (33, kcx968), (34, .inr (.inl (0, 8, [], []))), (35, .inr (.inl (0, 8, [], []))), (36, .inr (.inl (0, 8, [], []))), (37, .inr (.inl (0, 8, [], []))), (38, .inr (.inl (0, 4, [], []))), (39, .inr (.inl (0, 4, [], []))), (40, kcx36), (41, kcx36)]
def kch1034 : aw_H := [(24, kcx838), (25, .inr (.inl (0, 8, [], []))), (26, .inr (.inl (0, 8, [], []))), (27, .inr (.inl (0, 8, [], []))), (28, .inr (.inl (0, 8, [], []))), (29, .inr (.inl (0, 4, [], []))), (30, .inr (.inl (0, 4, [], []))), (31, kcx36), (32, kcx36), (33, kcx968), (34, .inr (.inl (0, 8, [], []))), (35, .inr (.inl (0, 8, [], []))), (36, .inr (.inl (0, 8, [], []))), (37, .inr (.inl (0, 8, [], []))), (38, .inr (.inl (0, 4, [], []))), (39, .inr (.inl (0, 4, [], []))), (40, kcx36), (41, kcx36)]
def kch1035 : aw_H := [(24, kcx840), (25, .inr (.inl (0, 8, [], []))), (26, .inr (.inl (0, 8, [], []))), (27, .inr (.inl (0, 8, [], []))), (28, .inr (.inl (0, 8, [], []))), (29, .inr (.inl (0, 4, [], []))), (30, .inr (.inl (0, 4, [], []))), (31, kcx36), (32, kcx36), (33, kcx968), (34, .inr (.inl (0, 8, [], []))), (35, .inr (.inl (0, 8, [], []))), (36, .inr (.inl (0, 8, [], []))), (37, .inr (.inl (0, 8, [], []))), (38, .inr (.inl (0, 4, [], []))), (39, .inr (.inl (0, 4, [], []))), (40, kcx36), (41, kcx36)]
def kch1036 : aw_H := [(24, kcx842), (25, .inr (.inl (0, 8, [], []))), (26, .inr (.inl (0, 8, [], []))), (27, .inr (.inl (0, 8, [], []))), (28, .inr (.inl (0, 8, [], []))), (29, .inr (.inl (0, 4, [], []))), (30, .inr (.inl (0, 4, [], []))), (31, kcx36), (32, kcx36), (33, kcx968), (34, .inr (.inl (0, 8, [], []))), (35, .inr (.inl (0, 8, [], []))), (36, .inr (.inl (0, 8, [], []))), (37, .inr (.inl (0, 8, [], []))), (38, .inr (.inl (0, 4, [], []))), (39, .inr (.inl (0, 4, [], []))), (40, kcx36), (41, kcx36)]
theorem kck1050 : ai_chk [kcc1049] kcc1050 (fun pc => sm_ch sm_t82 pc, sm_Kn 2 13 none, fun x => sm_lk sm_ca2 x, some .int) [28, 33, 34, 35, 36, 37, 38, 39, 40, 41] 13 0 [63] [] 2000 [(63, [(0, .inl 24), (1, .inl 33), (2, .inr (false, [(2, 2)])), (3, .inr (false, [(0, 7)])), (4, .inr (false, [(0, 7)])), (5, .inr (false, ar_t32)), (6, .inr (false, ar_t32)), (7, .inr (false, [(1, 1)])), (8, .inr (false, ar_t32)), (9, .inr (false, [(0, 0)]))], [], kch970),
  (63, [(0, .inl 24), (1, .inl 33), (2, .inr (false, [(2, 2)])), (3, .inr (false, [(0, 7)])), (4, .inr (false, [(0, 7)])), (5, .inr (false, ar_t32)), (6, .inr (false, ar_t32)), (7, .inr (false, [(1, 1)])), (8, .inr (false, ar_t32)), (9, .inr (false, [(1, 1)])), (10, .inr (false, [(-2147483648, 2147483646)])), (11, .inr (false, [(-2147483647, 2147483647)]))], [], kch1029),
  (63, [(0, .inl 24), (1, .inl 33), (2, .inr (false, [(2, 2)])), (3, .inr (false, [(0, 7)])), (4, .inr (false, [(0, 7)])), (5, .inr (false, ar_t32)), (6, .inr (false, ar_t32)), (7, .inr (false, [(1, 1)])), (8, .inr (false, ar_t32)), (9, .inr (false, [(2, 2)])), (10, .inr (false, [(-2147483648, 2147483646)])), (11, .inr (false, [(-2147483647, 2147483647)]))], [], kch1030),
  (63, [(0, .inl 24), (1, .inl 33), (2, .inr (false, [(2, 2)])), (3, .inr (false, [(0, 7)])), (4, .inr (false, [(0, 7)])), (5, .inr (false, ar_t32)), (6, .inr (false, ar_t32)), (7, .inr (false, [(1, 1)])), (8, .inr (false, ar_t32)), (9, .inr (false, [(3, 3)])), (10, .inr (false, [(-2147483648, 2147483646)])), (11, .inr (false, [(-2147483647, 2147483647)]))], [], kch1031),
  (63, [(0, .inl 24), (1, .inl 33), (2, .inr (false, [(2, 2)])), (3, .inr (false, [(0, 7)])), (4, .inr (false, [(0, 7)])), (5, .inr (false, ar_t32)), (6, .inr (false, ar_t32)), (7, .inr (false, [(1, 1)])), (8, .inr (false, ar_t32)), (9, .inr (false, [(4, 4)])), (10, .inr (false, [(-2147483648, 2147483646)])), (11, .inr (false, [(-2147483647, 2147483647)]))], [], kch1032),
  (63, [(0, .inl 24), (1, .inl 33), (2, .inr (false, [(2, 2)])), (3, .inr (false, [(0, 7)])), (4, .inr (false, [(0, 7)])), (5, .inr (false, ar_t32)), (6, .inr (false, ar_t32)), (7, .inr (false, [(1, 1)])), (8, .inr (false, ar_t32)), (9, .inr (false, [(5, 5)])), (10, .inr (false, [(-2147483648, 2147483646)])), (11, .inr (false, [(-2147483647, 2147483647)]))], [], kch1033),
  (63, [(0, .inl 24), (1, .inl 33), (2, .inr (false, [(2, 2)])), (3, .inr (false, [(0, 7)])), (4, .inr (false, [(0, 7)])), (5, .inr (false, ar_t32)), (6, .inr (false, ar_t32)), (7, .inr (false, [(1, 1)])), (8, .inr (false, ar_t32)), (9, .inr (false, [(6, 6)])), (10, .inr (false, [(-2147483648, 2147483646)])), (11, .inr (false, [(-2147483647, 2147483647)]))], [], kch1034),
  (63, [(0, .inl 24), (1, .inl 33), (2, .inr (false, [(2, 2)])), (3, .inr (false, [(0, 7)])), (4, .inr (false, [(0, 7)])), (5, .inr (false, ar_t32)), (6, .inr (false, ar_t32)), (7, .inr (false, [(1, 1)])), (8, .inr (false, ar_t32)), (9, .inr (false, [(7, 7)])), (10, .inr (false, [(-2147483648, 2147483646)])), (11, .inr (false, [(-2147483647, 2147483647)]))], [], kch1035),
  (63, [(0, .inl 24), (1, .inl 33), (2, .inr (false, [(2, 2)])), (3, .inr (false, [(0, 7)])), (4, .inr (false, [(0, 7)])), (5, .inr (false, ar_t32)), (6, .inr (false, ar_t32)), (7, .inr (false, [(1, 1)])), (8, .inr (false, ar_t32)), (9, .inr (false, [(8, 8)])), (10, .inr (false, [(-2147483648, 2147483646)])), (11, .inr (false, [(-2147483647, 2147483647)]))], [], kch1036)] = true := by decide +kernel
/-- MiceRegisters.duelFrom -/
def kcc1051 : ak_C := (82, [.inl 24, .inl 33, .inr (false, [(3, 3)]), .inr (false, [(0, 7)]), .inr (false, [(0, 7)]), .inr (false, ar_t32), .inr (false, ar_t32)], kch970, [28, 33, 34, 35, 36, 37, 38, 39, 40, 41], [([], some (.inr (false, ar_t32)), kch1020)])
theorem kck1051 : ai_chk [kcc1050] kcc1051 (fun pc => sm_ch sm_t82 pc, sm_Kn 2 13 none, fun x => sm_lk sm_ca2 x, some .int) [28, 33, 34, 35, 36, 37, 38, 39, 40, 41] 13 0 [63] [] 2000 [(63, [(0, .inl 24), (1, .inl 33), (2, .inr (false, [(3, 3)])), (3, .inr (false, [(0, 7)])), (4, .inr (false, [(0, 7)])), (5, .inr (false, ar_t32)), (6, .inr (false, ar_t32)), (7, .inr (false, [(0, 0)])), (8, .inr (false, ar_t32)), (9, .inr (false, [(0, 0)]))], [], kch970),
  (63, [(0, .inl 24), (1, .inl 33), (2, .inr (false, [(3, 3)])), (3, .inr (false, [(0, 7)])), (4, .inr (false, [(0, 7)])), (5, .inr (false, ar_t32)), (6, .inr (false, ar_t32)), (7, .inr (false, [(0, 0)])), (8, .inr (false, ar_t32)), (9, .inr (false, [(1, 1)])), (10, .inr (false, [(-2147483648, 2147483646)])), (11, .inr (false, [(-2147483647, 2147483647)]))], [], kch1029),
  (63, [(0, .inl 24), (1, .inl 33), (2, .inr (false, [(3, 3)])), (3, .inr (false, [(0, 7)])), (4, .inr (false, [(0, 7)])), (5, .inr (false, ar_t32)), (6, .inr (false, ar_t32)), (7, .inr (false, [(0, 0)])), (8, .inr (false, ar_t32)), (9, .inr (false, [(2, 2)])), (10, .inr (false, [(-2147483648, 2147483646)])), (11, .inr (false, [(-2147483647, 2147483647)]))], [], kch1030),
  (63, [(0, .inl 24), (1, .inl 33), (2, .inr (false, [(3, 3)])), (3, .inr (false, [(0, 7)])), (4, .inr (false, [(0, 7)])), (5, .inr (false, ar_t32)), (6, .inr (false, ar_t32)), (7, .inr (false, [(0, 0)])), (8, .inr (false, ar_t32)), (9, .inr (false, [(3, 3)])), (10, .inr (false, [(-2147483648, 2147483646)])), (11, .inr (false, [(-2147483647, 2147483647)]))], [], kch1031),
  (63, [(0, .inl 24), (1, .inl 33), (2, .inr (false, [(3, 3)])), (3, .inr (false, [(0, 7)])), (4, .inr (false, [(0, 7)])), (5, .inr (false, ar_t32)), (6, .inr (false, ar_t32)), (7, .inr (false, [(0, 0)])), (8, .inr (false, ar_t32)), (9, .inr (false, [(4, 4)])), (10, .inr (false, [(-2147483648, 2147483646)])), (11, .inr (false, [(-2147483647, 2147483647)]))], [], kch1032),
  (63, [(0, .inl 24), (1, .inl 33), (2, .inr (false, [(3, 3)])), (3, .inr (false, [(0, 7)])), (4, .inr (false, [(0, 7)])), (5, .inr (false, ar_t32)), (6, .inr (false, ar_t32)), (7, .inr (false, [(0, 0)])), (8, .inr (false, ar_t32)), (9, .inr (false, [(5, 5)])), (10, .inr (false, [(-2147483648, 2147483646)])), (11, .inr (false, [(-2147483647, 2147483647)]))], [], kch1033),
  (63, [(0, .inl 24), (1, .inl 33), (2, .inr (false, [(3, 3)])), (3, .inr (false, [(0, 7)])), (4, .inr (false, [(0, 7)])), (5, .inr (false, ar_t32)), (6, .inr (false, ar_t32)), (7, .inr (false, [(0, 0)])), (8, .inr (false, ar_t32)), (9, .inr (false, [(6, 6)])), (10, .inr (false, [(-2147483648, 2147483646)])), (11, .inr (false, [(-2147483647, 2147483647)]))], [], kch1034),
  (63, [(0, .inl 24), (1, .inl 33), (2, .inr (false, [(3, 3)])), (3, .inr (false, [(0, 7)])), (4, .inr (false, [(0, 7)])), (5, .inr (false, ar_t32)), (6, .inr (false, ar_t32)), (7, .inr (false, [(0, 0)])), (8, .inr (false, ar_t32)), (9, .inr (false, [(7, 7)])), (10, .inr (false, [(-2147483648, 2147483646)])), (11, .inr (false, [(-2147483647, 2147483647)]))], [], kch1035),
  (63, [(0, .inl 24), (1, .inl 33), (2, .inr (false, [(3, 3)])), (3, .inr (false, [(0, 7)])), (4, .inr (false, [(0, 7)])), (5, .inr (false, ar_t32)), (6, .inr (false, ar_t32)), (7, .inr (false, [(0, 0)])), (8, .inr (false, ar_t32)), (9, .inr (false, [(8, 8)])), (10, .inr (false, [(-2147483648, 2147483646)])), (11, .inr (false, [(-2147483647, 2147483647)]))], [], kch1036)] = true := by decide +kernel
/-- MiceRegisters.duelFrom -/
def kcc1052 : ak_C := (82, [.inl 24, .inl 33, .inr (false, [(4, 4)]), .inr (false, [(0, 7)]), .inr (false, [(0, 7)]), .inr (false, ar_t32), .inr (false, ar_t32)], kch970, [28, 33, 34, 35, 36, 37, 38, 39, 40, 41], [([], some (.inr (false, ar_t32)), kch1020)])
theorem kck1052 : ai_chk [kcc1051] kcc1052 (fun pc => sm_ch sm_t82 pc, sm_Kn 2 13 none, fun x => sm_lk sm_ca2 x, some .int) [28, 33, 34, 35, 36, 37, 38, 39, 40, 41] 13 0 [63] [] 2000 [(63, [(0, .inl 24), (1, .inl 33), (2, .inr (false, [(4, 4)])), (3, .inr (false, [(0, 7)])), (4, .inr (false, [(0, 7)])), (5, .inr (false, ar_t32)), (6, .inr (false, ar_t32)), (7, .inr (false, [(1, 1)])), (8, .inr (false, ar_t32)), (9, .inr (false, [(0, 0)]))], [], kch970),
  (63, [(0, .inl 24), (1, .inl 33), (2, .inr (false, [(4, 4)])), (3, .inr (false, [(0, 7)])), (4, .inr (false, [(0, 7)])), (5, .inr (false, ar_t32)), (6, .inr (false, ar_t32)), (7, .inr (false, [(1, 1)])), (8, .inr (false, ar_t32)), (9, .inr (false, [(1, 1)])), (10, .inr (false, [(-2147483648, 2147483646)])), (11, .inr (false, [(-2147483647, 2147483647)]))], [], kch1029),
  (63, [(0, .inl 24), (1, .inl 33), (2, .inr (false, [(4, 4)])), (3, .inr (false, [(0, 7)])), (4, .inr (false, [(0, 7)])), (5, .inr (false, ar_t32)), (6, .inr (false, ar_t32)), (7, .inr (false, [(1, 1)])), (8, .inr (false, ar_t32)), (9, .inr (false, [(2, 2)])), (10, .inr (false, [(-2147483648, 2147483646)])), (11, .inr (false, [(-2147483647, 2147483647)]))], [], kch1030),
  (63, [(0, .inl 24), (1, .inl 33), (2, .inr (false, [(4, 4)])), (3, .inr (false, [(0, 7)])), (4, .inr (false, [(0, 7)])), (5, .inr (false, ar_t32)), (6, .inr (false, ar_t32)), (7, .inr (false, [(1, 1)])), (8, .inr (false, ar_t32)), (9, .inr (false, [(3, 3)])), (10, .inr (false, [(-2147483648, 2147483646)])), (11, .inr (false, [(-2147483647, 2147483647)]))], [], kch1031),
  (63, [(0, .inl 24), (1, .inl 33), (2, .inr (false, [(4, 4)])), (3, .inr (false, [(0, 7)])), (4, .inr (false, [(0, 7)])), (5, .inr (false, ar_t32)), (6, .inr (false, ar_t32)), (7, .inr (false, [(1, 1)])), (8, .inr (false, ar_t32)), (9, .inr (false, [(4, 4)])), (10, .inr (false, [(-2147483648, 2147483646)])), (11, .inr (false, [(-2147483647, 2147483647)]))], [], kch1032),
  (63, [(0, .inl 24), (1, .inl 33), (2, .inr (false, [(4, 4)])), (3, .inr (false, [(0, 7)])), (4, .inr (false, [(0, 7)])), (5, .inr (false, ar_t32)), (6, .inr (false, ar_t32)), (7, .inr (false, [(1, 1)])), (8, .inr (false, ar_t32)), (9, .inr (false, [(5, 5)])), (10, .inr (false, [(-2147483648, 2147483646)])), (11, .inr (false, [(-2147483647, 2147483647)]))], [], kch1033),
  (63, [(0, .inl 24), (1, .inl 33), (2, .inr (false, [(4, 4)])), (3, .inr (false, [(0, 7)])), (4, .inr (false, [(0, 7)])), (5, .inr (false, ar_t32)), (6, .inr (false, ar_t32)), (7, .inr (false, [(1, 1)])), (8, .inr (false, ar_t32)), (9, .inr (false, [(6, 6)])), (10, .inr (false, [(-2147483648, 2147483646)])), (11, .inr (false, [(-2147483647, 2147483647)]))], [], kch1034),
  (63, [(0, .inl 24), (1, .inl 33), (2, .inr (false, [(4, 4)])), (3, .inr (false, [(0, 7)])), (4, .inr (false, [(0, 7)])), (5, .inr (false, ar_t32)), (6, .inr (false, ar_t32)), (7, .inr (false, [(1, 1)])), (8, .inr (false, ar_t32)), (9, .inr (false, [(7, 7)])), (10, .inr (false, [(-2147483648, 2147483646)])), (11, .inr (false, [(-2147483647, 2147483647)]))], [], kch1035),
  (63, [(0, .inl 24), (1, .inl 33), (2, .inr (false, [(4, 4)])), (3, .inr (false, [(0, 7)])), (4, .inr (false, [(0, 7)])), (5, .inr (false, ar_t32)), (6, .inr (false, ar_t32)), (7, .inr (false, [(1, 1)])), (8, .inr (false, ar_t32)), (9, .inr (false, [(8, 8)])), (10, .inr (false, [(-2147483648, 2147483646)])), (11, .inr (false, [(-2147483647, 2147483647)]))], [], kch1036)] = true := by decide +kernel
def kch1037 : aw_H := [(0, kcx2), (24, kcx25), (25, .inr (.inl (0, 8, [], []))), (26, .inr (.inl (0, 8, [], []))), (27, .inr (.inl (0, 8, [], []))), (28, .inr (.inl (0, 8, [], []))), (29, .inr (.inl (0, 4, [], []))), (30, .inr (.inl (0, 4, [], []))), (31, kcx36), (32, kcx36), (33, kcx968), (34, .inr (.inl (0, 8, [], []))), (35, .inr (.inl (0, 8, [], []))), (36, .inr (.inl (0, 8, [], []))), (37, .inr (.inl (0, 8, [], []))), (38, .inr (.inl (0, 4, [], []))), (39, .inr (.inl (0, 4, [], []))), (40, kcx36), (41, kcx36)]
/-- MiceRegisters.duel -/
def kch1038 : aw_H := [(0, kcx2), (15, kcx669), (16, .inr (.inl (0, 8, [], []))), (17, .inr (.inl (0, 8, [], []))), (18, .inr (.inl (0, 8, [], []))), (19, .inr (.inl (0, 8, [], []))), (20, .inr (.inl (0, 4, [], []))), (21, .inr (.inl (0, 4, [], []))), (22, kcx36), (23, kcx36), (24, kcx25), (25, .inr (.inl (0, 8, [], []))), (26, .inr (.inl (0, 8, [], []))), (27, .inr (.inl (0, 8, [], []))), (28, .inr (.inl (0, 8, [], []))), (29, .inr (.inl (0, 4, [], []))), (30, .inr (.inl (0, 4, [], []))), (31, kcx36), (32, kcx36), (33, kcx968), (34, .inr (.inl (0, 8, [], []))), (35, .inr (.inl (0, 8, [], []))), (36, .inr (.inl (0, 8, [], []))), (37, .inr (.inl (0, 8, [], []))), (38, .inr (.inl (0, 4, [], []))), (39, .inr (.inl (0, 4, [], []))), (40, kcx36), (41, kcx36)]
def kcc1053 : ak_C := (81, [.inl 0, .inr (false, ar_t32), .inr (false, ar_t32), .inr (false, ar_t32)], kch1038, [0, 24, 25, 26, 27, 28, 29, 30, 31, 32, 33, 34, 35, 36, 37, 38, 39, 40, 41], [([[], [], [], []], some (.inr (false, [(-1, -1)])), kch1037), ([[], [(0, 7)], [(0, 7)], [(0, 2)]], some (.inr (false, [(1, 1)])), kch1037)])
theorem kck1053 : ai_chk [kcc976, kcc1014, kcc1052, kcc14, kcc1050, kcc1048] kcc1053 (fun pc => sm_ch sm_t81 pc, sm_Kn 2 4 none, fun x => sm_lk sm_ca2 x, some .int) [0, 24, 25, 26, 27, 28, 29, 30, 31, 32, 33, 34, 35, 36, 37, 38, 39, 40, 41] 4 4 [] [(5, some (0, 3, 0), 0, 3)] 2000 [] = true := by decide +kernel
/-- MiceRegisters.sleepAside -/
def kcc1054 : ak_C := (84, [.inl 0, .inr (false, ar_t32)], kch876, [24, 25, 26, 27, 28, 29, 30, 31, 32], [([], none, kch827)])
theorem kck1054 : ai_chk [kcc1014, kcc1018] kcc1054 (fun pc => sm_ch sm_t84 pc, sm_Kn 2 2 none, fun x => sm_lk sm_ca2 x, none) [24, 25, 26, 27, 28, 29, 30, 31, 32] 2 0 [] [] 2000 [] = true := by decide +kernel
/-- MiceRegisters.weightOf -/
def kcc1055 : ak_C := (85, [.inl 0, .inr (false, ar_t32), .inr (false, ar_t32)], kch712, [], [([], some (.inr (true, ar_t64)), [])])
def kch1039 : aw_H := [(0, kcx2), (15, kcx688)]
def kch1040 : aw_H := [(0, kcx2), (15, kcx690)]
def kch1041 : aw_H := [(0, kcx2), (15, kcx692)]
def kch1042 : aw_H := [(0, kcx2), (15, kcx694)]
theorem kck1055 : ai_chk [] kcc1055 (fun pc => sm_ch sm_t85 pc, sm_Kn 2 6 none, fun x => sm_lk sm_ca2 x, some .long) [] 6 0 [5] [] 2000 [(5, [(0, .inl 0), (1, .inr (false, ar_t32)), (2, .inr (false, ar_t32)), (3, .inr (true, [(1, 1)])), (5, .inr (false, [(0, 0)]))], [], kch712),
  (5, [(0, .inl 0), (1, .inr (false, ar_t32)), (2, .inr (false, ar_t32)), (3, .inr (true, ar_t32)), (5, .inr (false, [(1, 1)]))], [], kch1039),
  (5, [(0, .inl 0), (1, .inr (false, ar_t32)), (2, .inr (false, ar_t32)), (3, .inr (true, [(-4611686016279904256, 4611686018427387904)])), (5, .inr (false, [(2, 2)]))], [], kch1040),
  (5, [(0, .inl 0), (1, .inr (false, ar_t32)), (2, .inr (false, ar_t32)), (3, .inr (true, ar_t64)), (5, .inr (false, [(3, 3)]))], [], kch1041),
  (5, [(0, .inl 0), (1, .inr (false, ar_t32)), (2, .inr (false, ar_t32)), (3, .inr (true, ar_t64)), (5, .inr (false, [(4, 4)]))], [], kch1042)] = true := by decide +kernel
/-- MiceRegisters.allWeights -/
def kcc1056 : ak_C := (86, [.inl 0], kch712, [], [([], some (.inr (true, [(1, 20736)])), [])])
theorem kck1056 : ai_chk [] kcc1056 (fun pc => sm_ch sm_t86 pc, sm_Kn 2 4 none, fun x => sm_lk sm_ca2 x, some .long) [] 4 0 [4] [] 2000 [(4, [(0, .inl 0), (1, .inr (true, [(1, 1)])), (3, .inr (false, [(0, 0)]))], [], kch712),
  (4, [(0, .inl 0), (1, .inr (true, [(12, 12)])), (3, .inr (false, [(1, 1)]))], [], kch1039),
  (4, [(0, .inl 0), (1, .inr (true, [(144, 144)])), (3, .inr (false, [(2, 2)]))], [], kch1040),
  (4, [(0, .inl 0), (1, .inr (true, [(1728, 1728)])), (3, .inr (false, [(3, 3)]))], [], kch1041),
  (4, [(0, .inl 0), (1, .inr (true, [(20736, 20736)])), (3, .inr (false, [(4, 4)]))], [], kch1042)] = true := by decide +kernel
/-- MiceRegisters.odds -/
def kcc1057 : ak_C := (83, [.inl 0, .inr (false, ar_t32), .inr (false, ar_t32)], kch876, [0, 24, 25, 26, 27, 28, 29, 30, 31, 32], [([[], [], []], some (.inr (false, [(-1, -1)])), kch885), ([[], [(0, 7)], [(0, 12)]], some (.inr (false, [(1, 1)])), kch885)])
theorem kck1057 : ai_chk [kcc976, kcc1054, kcc1055, kcc1056, kcc1040] kcc1057 (fun pc => sm_ch sm_t83 pc, sm_Kn 2 6 none, fun x => sm_lk sm_ca2 x, some .int) [0, 24, 25, 26, 27, 28, 29, 30, 31, 32] 6 3 [25] [] 2000 [(25, [(0, .inl 0), (1, .inr (false, [(0, 7)])), (2, .inr (false, [(0, 12)])), (3, .inr (true, [(0, 0)])), (5, .inr (false, [(0, 0)]))], [], kch876),
  (25, [(0, .inl 0), (1, .inr (false, [(0, 7)])), (2, .inr (false, [(0, 12)])), (3, .inr (true, ar_t64)), (5, .inr (false, [(1, 1)]))], [], kch876),
  (25, [(0, .inl 0), (1, .inr (false, [(0, 7)])), (2, .inr (false, [(0, 12)])), (3, .inr (true, ar_t64)), (5, .inr (false, [(2, 2)]))], [], kch876),
  (25, [(0, .inl 0), (1, .inr (false, [(0, 7)])), (2, .inr (false, [(0, 12)])), (3, .inr (true, ar_t64)), (5, .inr (false, [(3, 3)]))], [], kch876),
  (25, [(0, .inl 0), (1, .inr (false, [(0, 7)])), (2, .inr (false, [(0, 12)])), (3, .inr (true, ar_t64)), (5, .inr (false, [(4, 4)]))], [], kch876),
  (25, [(0, .inl 0), (1, .inr (false, [(0, 7)])), (2, .inr (false, [(0, 12)])), (3, .inr (true, ar_t64)), (5, .inr (false, [(5, 5)]))], [], kch876),
  (25, [(0, .inl 0), (1, .inr (false, [(0, 7)])), (2, .inr (false, [(0, 12)])), (3, .inr (true, ar_t64)), (5, .inr (false, [(6, 6)]))], [], kch876),
  (25, [(0, .inl 0), (1, .inr (false, [(0, 7)])), (2, .inr (false, [(0, 12)])), (3, .inr (true, ar_t64)), (5, .inr (false, [(7, 7)]))], [], kch876),
  (25, [(0, .inl 0), (1, .inr (false, [(0, 7)])), (2, .inr (false, [(0, 12)])), (3, .inr (true, ar_t64)), (5, .inr (false, [(8, 8)]))], [], kch876),
  (25, [(0, .inl 0), (1, .inr (false, [(0, 7)])), (2, .inr (false, [(0, 12)])), (3, .inr (true, ar_t64)), (5, .inr (false, [(9, 9)]))], [], kch876),
  (25, [(0, .inl 0), (1, .inr (false, [(0, 7)])), (2, .inr (false, [(0, 12)])), (3, .inr (true, ar_t64)), (5, .inr (false, [(10, 10)]))], [], kch876),
  (25, [(0, .inl 0), (1, .inr (false, [(0, 7)])), (2, .inr (false, [(0, 12)])), (3, .inr (true, ar_t64)), (5, .inr (false, [(11, 11)]))], [], kch876),
  (25, [(0, .inl 0), (1, .inr (false, [(0, 7)])), (2, .inr (false, [(0, 12)])), (3, .inr (true, ar_t64)), (5, .inr (false, [(12, 12)]))], [], kch876),
  (25, [(0, .inl 0), (1, .inr (false, [(0, 7)])), (2, .inr (false, [(0, 12)])), (3, .inr (true, ar_t64)), (5, .inr (false, [(13, 13)]))], [], kch876),
  (25, [(0, .inl 0), (1, .inr (false, [(0, 7)])), (2, .inr (false, [(0, 12)])), (3, .inr (true, ar_t64)), (5, .inr (false, [(14, 14)]))], [], kch876),
  (25, [(0, .inl 0), (1, .inr (false, [(0, 7)])), (2, .inr (false, [(0, 12)])), (3, .inr (true, ar_t64)), (5, .inr (false, [(15, 15)]))], [], kch876),
  (25, [(0, .inl 0), (1, .inr (false, [(0, 7)])), (2, .inr (false, [(0, 12)])), (3, .inr (true, ar_t64)), (5, .inr (false, [(16, 16)]))], [], kch876)] = true := by decide +kernel
/-- MiceRegisters.mid -/
def kcc1058 : ak_C := (87, [.inl 0, .inr (false, ar_t32)], kch876, [0, 24, 25, 26, 27, 28, 29, 30, 31, 32], [([[], [(-2147483648, -1), (13, 2147483647)]], some (.inr (false, [(-1, -1)])), kch885), ([[], [(0, 12)]], some (.inr (false, [(-4, -4)])), kch885), ([[], [(0, 12)]], some (.inr (false, [(1, 1)])), kch885)])
theorem kck1058 : ai_chk [kcc1054, kcc1055, kcc1027, kcc1056, kcc1040] kcc1058 (fun pc => sm_ch sm_t87 pc, sm_Kn 2 5 none, fun x => sm_lk sm_ca2 x, some .int) [0, 24, 25, 26, 27, 28, 29, 30, 31, 32] 5 2 [30] [] 2000 [(30, [(0, .inl 0), (1, .inr (false, [(0, 12)])), (2, .inr (true, [(0, 0)])), (4, .inr (false, [(0, 0)]))], [], kch918),
  (30, [(0, .inl 0), (1, .inr (false, [(0, 12)])), (2, .inr (true, ar_t64)), (4, .inr (false, [(1, 1)]))], [], kch918),
  (30, [(0, .inl 0), (1, .inr (false, [(0, 12)])), (2, .inr (true, ar_t64)), (4, .inr (false, [(2, 2)]))], [], kch918),
  (30, [(0, .inl 0), (1, .inr (false, [(0, 12)])), (2, .inr (true, ar_t64)), (4, .inr (false, [(3, 3)]))], [], kch918),
  (30, [(0, .inl 0), (1, .inr (false, [(0, 12)])), (2, .inr (true, ar_t64)), (4, .inr (false, [(4, 4)]))], [], kch918),
  (30, [(0, .inl 0), (1, .inr (false, [(0, 12)])), (2, .inr (true, ar_t64)), (4, .inr (false, [(5, 5)]))], [], kch918),
  (30, [(0, .inl 0), (1, .inr (false, [(0, 12)])), (2, .inr (true, ar_t64)), (4, .inr (false, [(6, 6)]))], [], kch918),
  (30, [(0, .inl 0), (1, .inr (false, [(0, 12)])), (2, .inr (true, ar_t64)), (4, .inr (false, [(7, 7)]))], [], kch918),
  (30, [(0, .inl 0), (1, .inr (false, [(0, 12)])), (2, .inr (true, ar_t64)), (4, .inr (false, [(8, 8)]))], [], kch918),
  (30, [(0, .inl 0), (1, .inr (false, [(0, 12)])), (2, .inr (true, ar_t64)), (4, .inr (false, [(9, 9)]))], [], kch918),
  (30, [(0, .inl 0), (1, .inr (false, [(0, 12)])), (2, .inr (true, ar_t64)), (4, .inr (false, [(10, 10)]))], [], kch918),
  (30, [(0, .inl 0), (1, .inr (false, [(0, 12)])), (2, .inr (true, ar_t64)), (4, .inr (false, [(11, 11)]))], [], kch918),
  (30, [(0, .inl 0), (1, .inr (false, [(0, 12)])), (2, .inr (true, ar_t64)), (4, .inr (false, [(12, 12)]))], [], kch918),
  (30, [(0, .inl 0), (1, .inr (false, [(0, 12)])), (2, .inr (true, ar_t64)), (4, .inr (false, [(13, 13)]))], [], kch918),
  (30, [(0, .inl 0), (1, .inr (false, [(0, 12)])), (2, .inr (true, ar_t64)), (4, .inr (false, [(14, 14)]))], [], kch918),
  (30, [(0, .inl 0), (1, .inr (false, [(0, 12)])), (2, .inr (true, ar_t64)), (4, .inr (false, [(15, 15)]))], [], kch918),
  (30, [(0, .inl 0), (1, .inr (false, [(0, 12)])), (2, .inr (true, ar_t64)), (4, .inr (false, [(16, 16)]))], [], kch918)] = true := by decide +kernel
/-- Register.change -/
def kcc1059 : ak_C := (45, [.inl 15, .inr (false, [(3, 3)]), .inr (false, [(0, 0)]), .inr (false, ar_t32)], kch794, [15], [([], some (.inr (false, [(0, 1)])), kch794)])
theorem kck1059 : ai_chk [] kcc1059 (fun pc => sm_ch sm_t45 pc, sm_Kn 1 5 none, fun x => sm_lk sm_ca1 x, some .int) [15] 5 0 [] [] 2000 [] = true := by decide +kernel
/-- MiceRegisters.doTruly -/
def kcc1060 : ak_C := (43, [.inl 0, .inr (false, [(3, 3)]), .inr (false, [(0, 0)]), .inr (false, ar_t32)], kch796, [15, 42, 43, 44, 45], [([], some (.inr (false, [(0, 1)])), kch800)])
theorem kck1060 : ai_chk [kcc0, kcc1059] kcc1060 (fun pc => sm_ch sm_t43 pc, sm_Kn 2 4 none, fun x => sm_lk sm_ca2 x, some .int) [15, 42] 4 0 [] [] 2000 [] = true := by decide +kernel
def kcx1043 : aw_A := .inl (1, [.inr (false, [(0, 8)]), .inr (false, [(0, 4)]), .inr (false, ar_t32), .inr (false, [(0, 0)]), .inr (false, ar_t32), .inl 16, .inl 17, .inl 18, .inl 19, .inl 20, .inl 21, .inl 22, .inl 23])
def kch1044 : aw_H := [(15, kcx1043)]
/-- Register.change -/
def kcc1061 : ak_C := (45, [.inl 15, .inr (false, [(2, 2)]), .inr (false, [(0, 0)]), .inr (false, ar_t32)], kch794, [15], [([], some (.inr (false, ar_t32)), kch1044)])
theorem kck1061 : ai_chk [] kcc1061 (fun pc => sm_ch sm_t45 pc, sm_Kn 1 5 none, fun x => sm_lk sm_ca1 x, some .int) [15] 5 0 [] [] 2000 [] = true := by decide +kernel
def kch1045 : aw_H := [(15, kcx1043), (42, kcx696), (43, .inr (.inr (.inr ()))), (44, .inr (.inr (.inr ()))), (45, .inr (.inr (.inr ())))]
/-- MiceRegisters.doTruly -/
def kcc1062 : ak_C := (43, [.inl 0, .inr (false, [(2, 2)]), .inr (false, [(0, 0)]), .inr (false, ar_t32)], kch796, [15, 42, 43, 44, 45], [([], some (.inr (false, ar_t32)), kch1045)])
theorem kck1062 : ai_chk [kcc0, kcc1061] kcc1062 (fun pc => sm_ch sm_t43 pc, sm_Kn 2 4 none, fun x => sm_lk sm_ca2 x, some .int) [15, 42] 4 0 [] [] 2000 [] = true := by decide +kernel
/-- Register.change -/
def kcc1063 : ak_C := (45, [.inl 15, .inr (false, [(1, 1)]), .inr (false, [(0, 0)]), .inr (false, ar_t32)], kch756, [19], [([], some (.inr (false, ar_t32)), kch788)])
theorem kck1063 : ai_chk [] kcc1063 (fun pc => sm_ch sm_t45 pc, sm_Kn 1 5 none, fun x => sm_lk sm_ca1 x, some .int) [19] 5 0 [] [] 2000 [] = true := by decide +kernel
/-- MiceRegisters.doTruly -/
def kcc1064 : ak_C := (43, [.inl 0, .inr (false, [(1, 1)]), .inr (false, [(0, 0)]), .inr (false, ar_t32)], kch790, [19, 42, 43, 44, 45], [([], some (.inr (false, ar_t32)), kch789)])
theorem kck1064 : ai_chk [kcc1, kcc1063] kcc1064 (fun pc => sm_ch sm_t43 pc, sm_Kn 2 4 none, fun x => sm_lk sm_ca2 x, some .int) [19, 42] 4 0 [] [] 2000 [] = true := by decide +kernel
/-- MiceRegisters.doByLot -/
def kcc1065 : ak_C := (89, [.inl 0, .inr (false, [(0, 2147483646)])], kch783, [15, 18, 19, 23, 42, 43, 44, 45], [([], none, kch782)])
theorem kck1065 : ai_chk [kcc1007, kcc1002, kcc999, kcc996, kcc1060, kcc1062, kcc1064] kcc1065 (fun pc => sm_ch sm_t89 pc, sm_Kn 2 3 none, fun x => sm_lk sm_ca2 x, none) [15, 18, 19, 23, 42] 3 0 [] [] 2000 [] = true := by decide +kernel
/-- Register.allLeft -/
def kcc1066 : ak_C := (66, [.inl 15], kch713, [], [([], some (.inr (false, [(0, 0)])), []), ([], some (.inr (false, ar_t32)), [])])
theorem kck1066 : ai_chk [] kcc1066 (fun pc => sm_ch sm_t66 pc, sm_Kn 1 3 none, fun x => sm_lk sm_ca1 x, some .int) [] 3 0 [4] [] 2000 [(4, [(0, .inl 15), (1, .inr (false, [(0, 0)])), (2, .inr (false, [(0, 0)]))], [], kch713),
  (4, [(0, .inl 15), (1, .inr (false, ar_t32)), (2, .inr (false, [(1, 1)]))], [], kch956),
  (4, [(0, .inl 15), (1, .inr (false, ar_t32)), (2, .inr (false, [(2, 2)]))], [], kch957),
  (4, [(0, .inl 15), (1, .inr (false, ar_t32)), (2, .inr (false, [(3, 3)]))], [], kch958),
  (4, [(0, .inl 15), (1, .inr (false, ar_t32)), (2, .inr (false, [(4, 4)]))], [], kch959),
  (4, [(0, .inl 15), (1, .inr (false, ar_t32)), (2, .inr (false, [(5, 5)]))], [], kch960),
  (4, [(0, .inl 15), (1, .inr (false, ar_t32)), (2, .inr (false, [(6, 6)]))], [], kch961),
  (4, [(0, .inl 15), (1, .inr (false, ar_t32)), (2, .inr (false, [(7, 7)]))], [], kch962),
  (4, [(0, .inl 15), (1, .inr (false, ar_t32)), (2, .inr (false, [(8, 8)]))], [], kch963)] = true := by decide +kernel
def kch1046 : aw_H := [(15, kcx688), (18, .inr (.inl (0, 8, [], []))), (19, .inr (.inl (0, 8, [], []))), (23, kcx36), (42, kcx696), (43, .inr (.inr (.inr ()))), (44, .inr (.inr (.inr ()))), (45, .inr (.inr (.inr ())))]
/-- MiceRegisters.lots -/
def kcc1067 : ak_C := (88, [.inl 0, .inr (false, ar_t32), .inr (false, ar_t32)], kch783, [15, 18, 19, 23, 42, 43, 44, 45], [([[], [], []], some (.inr (false, [(-1, -1)])), kch782), ([[], [(1, 20)], [(1, 2147483646)]], some (.inr (false, [(-4, -4)])), kch785), ([[], [(1, 20)], [(1, 2147483646)]], some (.inr (false, [(-2, -2)])), kch1046), ([[], [(1, 20)], [(1, 2147483646)]], some (.inr (false, ar_t32)), kch782), ([[], [(1, 20)], [(1, 2147483646)]], some (.inr (false, [(0, 0)])), kch782)])
def kch1047 : aw_H := [(0, kcx2), (15, kcx688), (16, .inr (.inl (0, 8, [], []))), (18, .inr (.inl (0, 8, [], []))), (19, .inr (.inl (0, 8, [], []))), (20, .inr (.inl (0, 4, [], []))), (21, .inr (.inl (0, 4, [], []))), (23, kcx36), (42, kcx696), (43, .inr (.inr (.inr ()))), (44, .inr (.inr (.inr ()))), (45, .inr (.inr (.inr ())))]
theorem kck1067 : ai_chk [kcc1065, kcc1066] kcc1067 (fun pc => sm_ch sm_t88 pc, sm_Kn 2 6 none, fun x => sm_lk sm_ca2 x, some .int) [15, 18, 19, 23, 42] 6 3 [60] [] 2000 [(60, [(0, .inl 0), (1, .inr (false, [(1, 20)])), (2, .inr (false, [(1, 2147483646)])), (3, .inr (true, [(1, 2147483646)])), (5, .inr (false, [(0, 0)]))], [], kch1047),
  (60, [(0, .inl 0), (1, .inr (false, [(1, 20)])), (2, .inr (false, [(1, 2147483646)])), (3, .inr (true, [(0, 2147483646)])), (5, .inr (false, [(1, 1)]))], [], kch783),
  (60, [(0, .inl 0), (1, .inr (false, [(2, 20)])), (2, .inr (false, [(1, 2147483646)])), (3, .inr (true, [(0, 2147483646)])), (5, .inr (false, [(2, 2)]))], [], kch783),
  (60, [(0, .inl 0), (1, .inr (false, [(3, 20)])), (2, .inr (false, [(1, 2147483646)])), (3, .inr (true, [(0, 2147483646)])), (5, .inr (false, [(3, 3)]))], [], kch783),
  (60, [(0, .inl 0), (1, .inr (false, [(4, 20)])), (2, .inr (false, [(1, 2147483646)])), (3, .inr (true, [(0, 2147483646)])), (5, .inr (false, [(4, 4)]))], [], kch783),
  (60, [(0, .inl 0), (1, .inr (false, [(5, 20)])), (2, .inr (false, [(1, 2147483646)])), (3, .inr (true, [(0, 2147483646)])), (5, .inr (false, [(5, 5)]))], [], kch783),
  (60, [(0, .inl 0), (1, .inr (false, [(6, 20)])), (2, .inr (false, [(1, 2147483646)])), (3, .inr (true, [(0, 2147483646)])), (5, .inr (false, [(6, 6)]))], [], kch783),
  (60, [(0, .inl 0), (1, .inr (false, [(7, 20)])), (2, .inr (false, [(1, 2147483646)])), (3, .inr (true, [(0, 2147483646)])), (5, .inr (false, [(7, 7)]))], [], kch783),
  (60, [(0, .inl 0), (1, .inr (false, [(8, 20)])), (2, .inr (false, [(1, 2147483646)])), (3, .inr (true, [(0, 2147483646)])), (5, .inr (false, [(8, 8)]))], [], kch783),
  (60, [(0, .inl 0), (1, .inr (false, [(9, 20)])), (2, .inr (false, [(1, 2147483646)])), (3, .inr (true, [(0, 2147483646)])), (5, .inr (false, [(9, 9)]))], [], kch783),
  (60, [(0, .inl 0), (1, .inr (false, [(10, 20)])), (2, .inr (false, [(1, 2147483646)])), (3, .inr (true, [(0, 2147483646)])), (5, .inr (false, [(10, 10)]))], [], kch783),
  (60, [(0, .inl 0), (1, .inr (false, [(11, 20)])), (2, .inr (false, [(1, 2147483646)])), (3, .inr (true, [(0, 2147483646)])), (5, .inr (false, [(11, 11)]))], [], kch783),
  (60, [(0, .inl 0), (1, .inr (false, [(12, 20)])), (2, .inr (false, [(1, 2147483646)])), (3, .inr (true, [(0, 2147483646)])), (5, .inr (false, [(12, 12)]))], [], kch783),
  (60, [(0, .inl 0), (1, .inr (false, [(13, 20)])), (2, .inr (false, [(1, 2147483646)])), (3, .inr (true, [(0, 2147483646)])), (5, .inr (false, [(13, 13)]))], [], kch783),
  (60, [(0, .inl 0), (1, .inr (false, [(14, 20)])), (2, .inr (false, [(1, 2147483646)])), (3, .inr (true, [(0, 2147483646)])), (5, .inr (false, [(14, 14)]))], [], kch783),
  (60, [(0, .inl 0), (1, .inr (false, [(15, 20)])), (2, .inr (false, [(1, 2147483646)])), (3, .inr (true, [(0, 2147483646)])), (5, .inr (false, [(15, 15)]))], [], kch783),
  (60, [(0, .inl 0), (1, .inr (false, [(16, 20)])), (2, .inr (false, [(1, 2147483646)])), (3, .inr (true, [(0, 2147483646)])), (5, .inr (false, [(16, 16)]))], [], kch783),
  (60, [(0, .inl 0), (1, .inr (false, [(17, 20)])), (2, .inr (false, [(1, 2147483646)])), (3, .inr (true, [(0, 2147483646)])), (5, .inr (false, [(17, 17)]))], [], kch783),
  (60, [(0, .inl 0), (1, .inr (false, [(18, 20)])), (2, .inr (false, [(1, 2147483646)])), (3, .inr (true, [(0, 2147483646)])), (5, .inr (false, [(18, 18)]))], [], kch783),
  (60, [(0, .inl 0), (1, .inr (false, [(19, 20)])), (2, .inr (false, [(1, 2147483646)])), (3, .inr (true, [(0, 2147483646)])), (5, .inr (false, [(19, 19)]))], [], kch783),
  (60, [(0, .inl 0), (1, .inr (false, [(20, 20)])), (2, .inr (false, [(1, 2147483646)])), (3, .inr (true, [(0, 2147483646)])), (5, .inr (false, [(20, 20)]))], [], kch783)] = true := by decide +kernel
/-- MiceRegisters.asked -/
def kcc1068 : ak_C := (90, [.inl 0], kch10, [], [([], some (.inr (false, ar_t32)), [])])
theorem kck1068 : ai_chk [] kcc1068 (fun pc => sm_ch sm_t90 pc, sm_Kn 2 1 none, fun x => sm_lk sm_ca2 x, some .int) [] 1 0 [] [] 2000 [] = true := by decide +kernel
/-- MiceRegisters.upper -/
def kcc1069 : ak_C := (91, [.inl 0], kch10, [], [([], some (.inr (true, ar_t64)), [])])
theorem kck1069 : ai_chk [] kcc1069 (fun pc => sm_ch sm_t91 pc, sm_Kn 2 1 none, fun x => sm_lk sm_ca2 x, some .long) [] 1 0 [] [] 2000 [] = true := by decide +kernel
/-- MiceRegisters.lower -/
def kcc1070 : ak_C := (92, [.inl 0], kch10, [], [([], some (.inr (true, ar_t64)), [])])
theorem kck1070 : ai_chk [] kcc1070 (fun pc => sm_ch sm_t92 pc, sm_Kn 2 1 none, fun x => sm_lk sm_ca2 x, some .long) [] 1 0 [] [] 2000 [] = true := by decide +kernel
/-- MiceRegisters.howManyThere -/
def kch1048 : aw_H := [(9, kcx14)]
def kcc1071 : ak_C := (96, [.inl 9], kch1048, [], [([], some (.inr (false, [(0, 4)])), [])])
theorem kck1071 : ai_chk [] kcc1071 (fun pc => sm_ch sm_t96 pc, sm_Kn 2 6 none, fun x => sm_lk sm_ca2 x, some .int) [] 6 0 [10] [] 2000 [(10, [(0, .inl 9), (1, .inr (false, [(0, 0)])), (2, .inl 9), (3, .inr (false, [(4, 4)])), (4, .inr (false, [(0, 0)]))], [], kch1048),
  (10, [(0, .inl 9), (1, .inr (false, [(0, 1)])), (2, .inl 9), (3, .inr (false, [(4, 4)])), (4, .inr (false, [(1, 1)])), (5, .inr (false, [(-1, 60)]))], [], kch1048),
  (10, [(0, .inl 9), (1, .inr (false, [(0, 2)])), (2, .inl 9), (3, .inr (false, [(4, 4)])), (4, .inr (false, [(2, 2)])), (5, .inr (false, [(-1, 60)]))], [], kch1048),
  (10, [(0, .inl 9), (1, .inr (false, [(0, 3)])), (2, .inl 9), (3, .inr (false, [(4, 4)])), (4, .inr (false, [(3, 3)])), (5, .inr (false, [(-1, 60)]))], [], kch1048),
  (10, [(0, .inl 9), (1, .inr (false, [(0, 4)])), (2, .inl 9), (3, .inr (false, [(4, 4)])), (4, .inr (false, [(4, 4)])), (5, .inr (false, [(-1, 60)]))], [], kch1048)] = true := by decide +kernel
/-- MiceRegisters.howManyThere -/
def kch1049 : aw_H := [(1, kcx4)]
def kcc1072 : ak_C := (96, [.inl 1], kch1049, [], [([], some (.inr (false, [(0, 6)])), [])])
theorem kck1072 : ai_chk [] kcc1072 (fun pc => sm_ch sm_t96 pc, sm_Kn 2 6 none, fun x => sm_lk sm_ca2 x, some .int) [] 6 0 [10] [] 2000 [(10, [(0, .inl 1), (1, .inr (false, [(0, 0)])), (2, .inl 1), (3, .inr (false, [(6, 6)])), (4, .inr (false, [(0, 0)]))], [], kch1049),
  (10, [(0, .inl 1), (1, .inr (false, [(0, 1)])), (2, .inl 1), (3, .inr (false, [(6, 6)])), (4, .inr (false, [(1, 1)])), (5, .inr (false, [(-1, 40)]))], [], kch1049),
  (10, [(0, .inl 1), (1, .inr (false, [(0, 2)])), (2, .inl 1), (3, .inr (false, [(6, 6)])), (4, .inr (false, [(2, 2)])), (5, .inr (false, [(-1, 40)]))], [], kch1049),
  (10, [(0, .inl 1), (1, .inr (false, [(0, 3)])), (2, .inl 1), (3, .inr (false, [(6, 6)])), (4, .inr (false, [(3, 3)])), (5, .inr (false, [(-1, 40)]))], [], kch1049),
  (10, [(0, .inl 1), (1, .inr (false, [(0, 4)])), (2, .inl 1), (3, .inr (false, [(6, 6)])), (4, .inr (false, [(4, 4)])), (5, .inr (false, [(-1, 40)]))], [], kch1049),
  (10, [(0, .inl 1), (1, .inr (false, [(0, 5)])), (2, .inl 1), (3, .inr (false, [(6, 6)])), (4, .inr (false, [(5, 5)])), (5, .inr (false, [(-1, 40)]))], [], kch1049),
  (10, [(0, .inl 1), (1, .inr (false, [(0, 6)])), (2, .inl 1), (3, .inr (false, [(6, 6)])), (4, .inr (false, [(6, 6)])), (5, .inr (false, [(-1, 40)]))], [], kch1049)] = true := by decide +kernel
/-- Register.miceOfKind -/
def kch1050 : aw_H := [(15, kcx669), (20, .inr (.inl (0, 4, [], [])))]
def kcc1073 : ak_C := (95, [.inl 15, .inr (false, ar_t32)], kch1050, [], [([], some (.inr (false, [(0, 0)])), []), ([], some (.inr (false, [(0, 4)])), [])])
def kch1051 : aw_H := [(15, kcx688), (20, .inr (.inl (0, 4, [], [])))]
def kch1052 : aw_H := [(15, kcx690), (20, .inr (.inl (0, 4, [], [])))]
def kch1053 : aw_H := [(15, kcx692), (20, .inr (.inl (0, 4, [], [])))]
def kch1054 : aw_H := [(15, kcx694), (20, .inr (.inl (0, 4, [], [])))]
theorem kck1073 : ai_chk [kcc988] kcc1073 (fun pc => sm_ch sm_t95 pc, sm_Kn 1 4 none, fun x => sm_lk sm_ca1 x, some .int) [] 4 0 [4] [] 2000 [(4, [(0, .inl 15), (1, .inr (false, ar_t32)), (2, .inr (false, [(0, 0)])), (3, .inr (false, [(0, 0)]))], [], kch1050),
  (4, [(0, .inl 15), (1, .inr (false, ar_t32)), (2, .inr (false, [(0, 1)])), (3, .inr (false, [(1, 1)]))], [], kch1051),
  (4, [(0, .inl 15), (1, .inr (false, ar_t32)), (2, .inr (false, [(0, 2)])), (3, .inr (false, [(2, 2)]))], [], kch1052),
  (4, [(0, .inl 15), (1, .inr (false, ar_t32)), (2, .inr (false, [(0, 3)])), (3, .inr (false, [(3, 3)]))], [], kch1053),
  (4, [(0, .inl 15), (1, .inr (false, ar_t32)), (2, .inr (false, [(0, 4)])), (3, .inr (false, [(4, 4)]))], [], kch1054)] = true := by decide +kernel
/-- Register.linesEatenUp -/
def kcc1074 : ak_C := (61, [.inl 15], kch713, [], [([], some (.inr (false, [(0, 0)])), []), ([], some (.inr (false, ar_t32)), [])])
def kch1055 : aw_H := [(15, kcx672), (18, .inr (.inl (0, 8, [], [(0, ar_t32)])))]
def kch1056 : aw_H := [(15, kcx674), (18, kcx733)]
def kch1057 : aw_H := [(15, kcx676), (18, kcx735)]
def kch1058 : aw_H := [(15, kcx678), (18, kcx737)]
def kch1059 : aw_H := [(15, kcx680), (18, kcx739)]
def kch1060 : aw_H := [(15, kcx682), (18, kcx741)]
def kch1061 : aw_H := [(15, kcx684), (18, kcx743)]
def kch1062 : aw_H := [(15, kcx686), (18, kcx745)]
theorem kck1074 : ai_chk [] kcc1074 (fun pc => sm_ch sm_t61 pc, sm_Kn 1 3 none, fun x => sm_lk sm_ca1 x, some .int) [] 3 0 [4] [] 2000 [(4, [(0, .inl 15), (1, .inr (false, [(0, 0)])), (2, .inr (false, [(0, 0)]))], [], kch713),
  (4, [(0, .inl 15), (1, .inr (false, [(0, 1)])), (2, .inr (false, [(1, 1)]))], [], kch1055),
  (4, [(0, .inl 15), (1, .inr (false, ar_t32)), (2, .inr (false, [(2, 2)]))], [], kch1056),
  (4, [(0, .inl 15), (1, .inr (false, ar_t32)), (2, .inr (false, [(3, 3)]))], [], kch1057),
  (4, [(0, .inl 15), (1, .inr (false, ar_t32)), (2, .inr (false, [(4, 4)]))], [], kch1058),
  (4, [(0, .inl 15), (1, .inr (false, ar_t32)), (2, .inr (false, [(5, 5)]))], [], kch1059),
  (4, [(0, .inl 15), (1, .inr (false, ar_t32)), (2, .inr (false, [(6, 6)]))], [], kch1060),
  (4, [(0, .inl 15), (1, .inr (false, ar_t32)), (2, .inr (false, [(7, 7)]))], [], kch1061),
  (4, [(0, .inl 15), (1, .inr (false, ar_t32)), (2, .inr (false, [(8, 8)]))], [], kch1062)] = true := by decide +kernel
/-- MiceRegisters.howManyKept -/
def kch1063 : aw_H := [(0, kcx2), (46, .inr (.inr (.inl (4, [47, 51, 55])))), (47, kcx697), (51, kcx698), (55, kcx699)]
def kcc1075 : ak_C := (97, [.inl 0], kch1063, [], [([], some (.inr (false, [(0, 3)])), [])])
theorem kck1075 : ai_chk [] kcc1075 (fun pc => sm_ch sm_t97 pc, sm_Kn 2 3 none, fun x => sm_lk sm_ca2 x, some .int) [] 3 0 [4] [] 2000 [(4, [(0, .inl 0), (1, .inr (false, [(0, 0)])), (2, .inr (false, [(0, 0)]))], [], kch1063),
  (4, [(0, .inl 0), (1, .inr (false, [(0, 1)])), (2, .inr (false, [(1, 1)]))], [], kch1063),
  (4, [(0, .inl 0), (1, .inr (false, [(0, 2)])), (2, .inr (false, [(2, 2)]))], [], kch1063),
  (4, [(0, .inl 0), (1, .inr (false, [(0, 3)])), (2, .inr (false, [(3, 3)]))], [], kch1063)] = true := by decide +kernel
/-- MiceRegisters.countOf -/
def kch1064 : aw_H := [(0, kcx2), (1, kcx4), (9, kcx14), (15, kcx669), (18, .inr (.inl (0, 8, [], []))), (19, .inr (.inl (0, 8, [], []))), (20, .inr (.inl (0, 4, [], []))), (42, kcx696), (46, .inr (.inr (.inl (4, [47, 51, 55])))), (47, kcx697), (51, kcx698), (55, kcx699)]
def kcc1076 : ak_C := (94, [.inl 0, .inr (false, ar_t32)], kch1064, [], [([[], []], some (.inr (false, ar_t32)), []), ([[], [(4, 5), (8, 10)]], some (.inr (false, [(0, 0)])), [])])
theorem kck1076 : ai_chk [kcc1071, kcc1072, kcc1073, kcc992, kcc1074, kcc1066, kcc1075] kcc1076 (fun pc => sm_ch sm_t94 pc, sm_Kn 2 2 none, fun x => sm_lk sm_ca2 x, some .int) [] 2 2 [] [] 2000 [] = true := by decide +kernel
/-- MiceRegisters.count -/
def kcc1077 : ak_C := (93, [.inl 0, .inr (false, ar_t32)], kch1064, [], [([[], [(-2147483648, -1), (14, 2147483647)]], some (.inr (false, [(-1, -1)])), []), ([[], [(4, 5), (8, 10)]], some (.inr (false, [(0, 0)])), []), ([[], [(0, 13)]], some (.inr (false, ar_t32)), [])])
theorem kck1077 : ai_chk [kcc1076] kcc1077 (fun pc => sm_ch sm_t93 pc, sm_Kn 2 2 none, fun x => sm_lk sm_ca2 x, some .int) [] 2 2 [] [] 2000 [] = true := by decide +kernel
/-- MiceRegisters.finding -/
def kcc1078 : ak_C := (98, [.inl 0], kch10, [], [([], some (.inr (false, ar_t32)), [])])
theorem kck1078 : ai_chk [] kcc1078 (fun pc => sm_ch sm_t98 pc, sm_Kn 2 1 none, fun x => sm_lk sm_ca2 x, some .int) [] 1 0 [] [] 2000 [] = true := by decide +kernel
/-- MiceRegisters.findings -/
def kcc1079 : ak_C := (99, [.inl 0, .inr (false, ar_t32)], kch3, [], [([[], [(-2147483648, 0), (6, 2147483647)]], some (.inr (false, [(-1, -1)])), []), ([[], [(1, 5)]], some (.inr (false, ar_t32)), [])])
theorem kck1079 : ai_chk [] kcc1079 (fun pc => sm_ch sm_t99 pc, sm_Kn 2 2 none, fun x => sm_lk sm_ca2 x, some .int) [] 2 2 [] [] 2000 [] = true := by decide +kernel
/-- MiceRegisters.digestOfRows -/
def kch1065 : aw_H := [(0, kcx2), (1, kcx4), (2, kcx7), (3, .inr (.inl (0, 40, [], []))), (4, .inr (.inl (0, 40, [], []))), (5, .inr (.inl (0, 40, [], []))), (6, .inr (.inl (0, 40, [], []))), (7, .inr (.inl (0, 40, [], []))), (8, .inr (.inl (0, 40, [], [])))]
def kcc1080 : ak_C := (101, [.inl 0, .inr (true, ar_t64)], kch1065, [], [([], some (.inr (true, ar_t64)), [])])
def kcb1080 : sm_P := (fun pc => sm_ch sm_t101 pc, sm_Kn 2 7 none, fun x => sm_lk sm_ca2 x, some .long)
def czkc1080x0 : aw_A := .inl (2, [.inl 1, .inl 2, .inl 9, .inl 10, .inl 15, .inl 24, .inl 33, .inl 42, .inl 46, .inl 59, .inl 80, .inr (false, ar_t32), .inr (false, ar_t32), .inr (true, ar_t64), .inr (true, ar_t64)])
def czkc1080x1 : aw_A := .inr (.inl (0, 6, [(0, 5, [(-1, 40)])], []))
def czkc1080x2 : aw_A := .inr (.inr (.inl (2, [3, 4, 5, 6, 7, 8])))
def czkc1080h3 : aw_H := [(0, czkc1080x0), (1, czkc1080x1), (2, czkc1080x2), (3, .inr (.inl (0, 40, [], []))), (4, .inr (.inl (0, 40, [], []))), (5, .inr (.inl (0, 40, [], []))), (6, .inr (.inl (0, 40, [], []))), (7, .inr (.inl (0, 40, [], []))), (8, .inr (.inl (0, 40, [], [])))]
set_option maxRecDepth 100000 in
theorem kck1080 : ai_ch2 [] kcc1080 kcb1080 [] 7 0 [5, 30] [] 2000 [.inr (5, false, [((5, [(0, .inl 0), (1, .inr (true, ar_t64)), (3, .inr (true, ar_t64)), (5, .inr (false, [(0, 6)]))], [], czkc1080h3), none), ((30, [(0, .inl 0), (1, .inr (true, ar_t64)), (3, .inr (true, ar_t64)), (5, .inr (false, [(0, 5)])), (6, .inr (false, [(0, 40)]))], [], czkc1080h3), some 6)])] = true := by decide +kernel
/-! Contracts over ranges of the class, and their checks; printed by a program of mine. -/
/-- MiceRegisters.digestOfTexts -/
def kch2036 : aw_H := [(0, kcx2), (9, kcx14), (10, kcx17), (11, .inr (.inl (1, 60, [], []))), (12, .inr (.inl (1, 60, [], []))), (13, .inr (.inl (1, 60, [], []))), (14, .inr (.inl (1, 60, [], [])))]
def kcc1081 : ak_C := (102, [.inl 0, .inr (true, ar_t64)], kch2036, [], [([], some (.inr (true, ar_t64)), [])])
def kcb1081 : sm_P := (fun pc => sm_ch sm_t102 pc, sm_Kn 2 7 none, fun x => sm_lk sm_ca2 x, some .long)
def czkc1081x0 : aw_A := .inl (2, [.inl 1, .inl 2, .inl 9, .inl 10, .inl 15, .inl 24, .inl 33, .inl 42, .inl 46, .inl 59, .inl 80, .inr (false, ar_t32), .inr (false, ar_t32), .inr (true, ar_t64), .inr (true, ar_t64)])
def czkc1081x1 : aw_A := .inr (.inl (0, 4, [(0, 3, [(-1, 60)])], []))
def czkc1081x2 : aw_A := .inr (.inr (.inl (3, [11, 12, 13, 14])))
def czkc1081h3 : aw_H := [(0, czkc1081x0), (9, czkc1081x1), (10, czkc1081x2), (11, .inr (.inl (1, 60, [], []))), (12, .inr (.inl (1, 60, [], []))), (13, .inr (.inl (1, 60, [], []))), (14, .inr (.inl (1, 60, [], [])))]
set_option maxRecDepth 100000 in
theorem kck1081 : ai_ch2 [] kcc1081 kcb1081 [] 7 0 [5, 29] [] 2000 [.inr (5, false, [((5, [(0, .inl 0), (1, .inr (true, ar_t64)), (3, .inr (true, ar_t64)), (5, .inr (false, [(0, 4)]))], [], czkc1081h3), none), ((29, [(0, .inl 0), (1, .inr (true, ar_t64)), (3, .inr (true, ar_t64)), (5, .inr (false, [(0, 3)])), (6, .inr (false, [(0, 60)]))], [], czkc1081h3), some 6)])] = true := by decide +kernel
/-! Contracts over ranges of the class, and their checks; printed by a program of mine. -/
/-- MiceRegisters.digest -/
def kch3003 : aw_H := [(0, kcx2), (1, kcx4), (2, kcx7), (3, .inr (.inl (0, 40, [], []))), (4, .inr (.inl (0, 40, [], []))), (5, .inr (.inl (0, 40, [], []))), (6, .inr (.inl (0, 40, [], []))), (7, .inr (.inl (0, 40, [], []))), (8, .inr (.inl (0, 40, [], []))), (9, kcx14), (10, kcx17), (11, .inr (.inl (1, 60, [], []))), (12, .inr (.inl (1, 60, [], []))), (13, .inr (.inl (1, 60, [], []))), (14, .inr (.inl (1, 60, [], []))), (15, kcx669), (16, .inr (.inl (0, 8, [], []))), (17, .inr (.inl (0, 8, [], []))), (18, .inr (.inl (0, 8, [], []))), (19, .inr (.inl (0, 8, [], []))), (20, .inr (.inl (0, 4, [], []))), (21, .inr (.inl (0, 4, [], []))), (23, kcx36), (42, kcx696), (46, .inr (.inr (.inl (4, [47, 51, 55])))), (47, kcx697), (51, kcx698), (55, kcx699)]
def kcc1082 : ak_C := (100, [.inl 0], kch3003, [], [([], some (.inr (true, ar_t64)), [])])
def czkc1082x0 : aw_A := .inl (2, [.inl 1, .inl 2, .inl 9, .inl 10, .inl 15, .inl 24, .inl 33, .inl 42, .inl 46, .inl 59, .inl 80, .inr (false, ar_t32), .inr (false, ar_t32), .inr (true, ar_t64), .inr (true, ar_t64)])
def czkc1082x1 : aw_A := .inr (.inl (0, 6, [(0, 5, [(-1, 40)])], []))
def czkc1082x2 : aw_A := .inr (.inr (.inl (2, [3, 4, 5, 6, 7, 8])))
def czkc1082x3 : aw_A := .inr (.inl (0, 4, [(0, 3, [(-1, 60)])], []))
def czkc1082x4 : aw_A := .inr (.inr (.inl (3, [11, 12, 13, 14])))
def czkc1082x5 : aw_A := .inl (1, [.inr (false, [(0, 8)]), .inr (false, [(0, 4)]), .inr (false, ar_t32), .inr (false, ar_t32), .inr (false, ar_t32), .inl 16, .inl 17, .inl 18, .inl 19, .inl 20, .inl 21, .inl 22, .inl 23])
def czkc1082x6 : aw_A := .inr (.inl (0, 4, [(0, 3, [(0, 7)])], []))
def czkc1082x7 : aw_A := .inl (0, [.inr (false, [(0, 40)]), .inl 43, .inl 44, .inl 45])
def czkc1082x8 : aw_A := .inl (0, [.inr (false, [(-1, 40)]), .inl 48, .inl 49, .inl 50])
def czkc1082x9 : aw_A := .inl (0, [.inr (false, [(-1, 40)]), .inl 52, .inl 53, .inl 54])
def czkc1082x10 : aw_A := .inl (0, [.inr (false, [(-1, 40)]), .inl 56, .inl 57, .inl 58])
def czkc1082h11 : aw_H := [(0, czkc1082x0), (1, czkc1082x1), (2, czkc1082x2), (3, .inr (.inl (0, 40, [], []))), (4, .inr (.inl (0, 40, [], []))), (5, .inr (.inl (0, 40, [], []))), (6, .inr (.inl (0, 40, [], []))), (7, .inr (.inl (0, 40, [], []))), (8, .inr (.inl (0, 40, [], []))), (9, czkc1082x3), (10, czkc1082x4), (11, .inr (.inl (1, 60, [], []))), (12, .inr (.inl (1, 60, [], []))), (13, .inr (.inl (1, 60, [], []))), (14, .inr (.inl (1, 60, [], []))), (15, czkc1082x5), (16, .inr (.inl (0, 8, [], []))), (17, .inr (.inl (0, 8, [], []))), (18, .inr (.inl (0, 8, [], []))), (19, .inr (.inl (0, 8, [], []))), (20, .inr (.inl (0, 4, [], []))), (21, .inr (.inl (0, 4, [], []))), (23, czkc1082x6), (42, czkc1082x7), (46, .inr (.inr (.inl (4, [47, 51, 55])))), (47, czkc1082x8), (51, czkc1082x9), (55, czkc1082x10)]
def czkc1082x12 : aw_A := .inl (1, [.inr (false, [(1, 8)]), .inr (false, [(0, 4)]), .inr (false, ar_t32), .inr (false, ar_t32), .inr (false, ar_t32), .inl 16, .inl 17, .inl 18, .inl 19, .inl 20, .inl 21, .inl 22, .inl 23])
def czkc1082h13 : aw_H := [(0, czkc1082x0), (1, czkc1082x1), (2, czkc1082x2), (3, .inr (.inl (0, 40, [], []))), (4, .inr (.inl (0, 40, [], []))), (5, .inr (.inl (0, 40, [], []))), (6, .inr (.inl (0, 40, [], []))), (7, .inr (.inl (0, 40, [], []))), (8, .inr (.inl (0, 40, [], []))), (9, czkc1082x3), (10, czkc1082x4), (11, .inr (.inl (1, 60, [], []))), (12, .inr (.inl (1, 60, [], []))), (13, .inr (.inl (1, 60, [], []))), (14, .inr (.inl (1, 60, [], []))), (15, czkc1082x12), (16, .inr (.inl (0, 8, [], []))), (17, .inr (.inl (0, 8, [], []))), (18, .inr (.inl (0, 8, [], []))), (19, .inr (.inl (0, 8, [], []))), (20, .inr (.inl (0, 4, [], []))), (21, .inr (.inl (0, 4, [], []))), (23, czkc1082x6), (42, czkc1082x7), (46, .inr (.inr (.inl (4, [47, 51, 55])))), (47, czkc1082x8), (51, czkc1082x9), (55, czkc1082x10)]
def czkc1082x14 : aw_A := .inl (1, [.inr (false, [(0, 8)]), .inr (false, [(1, 4)]), .inr (false, ar_t32), .inr (false, ar_t32), .inr (false, ar_t32), .inl 16, .inl 17, .inl 18, .inl 19, .inl 20, .inl 21, .inl 22, .inl 23])
def czkc1082h15 : aw_H := [(0, czkc1082x0), (1, czkc1082x1), (2, czkc1082x2), (3, .inr (.inl (0, 40, [], []))), (4, .inr (.inl (0, 40, [], []))), (5, .inr (.inl (0, 40, [], []))), (6, .inr (.inl (0, 40, [], []))), (7, .inr (.inl (0, 40, [], []))), (8, .inr (.inl (0, 40, [], []))), (9, czkc1082x3), (10, czkc1082x4), (11, .inr (.inl (1, 60, [], []))), (12, .inr (.inl (1, 60, [], []))), (13, .inr (.inl (1, 60, [], []))), (14, .inr (.inl (1, 60, [], []))), (15, czkc1082x14), (16, .inr (.inl (0, 8, [], []))), (17, .inr (.inl (0, 8, [], []))), (18, .inr (.inl (0, 8, [], []))), (19, .inr (.inl (0, 8, [], []))), (20, .inr (.inl (0, 4, [], []))), (21, .inr (.inl (0, 4, [], []))), (23, czkc1082x6), (42, czkc1082x7), (46, .inr (.inr (.inl (4, [47, 51, 55])))), (47, czkc1082x8), (51, czkc1082x9), (55, czkc1082x10)]
set_option maxRecDepth 100000 in
theorem kck1082 : ai_ch2 [kcc1076, kcc982, kcc986, kcc1080, kcc1081] kcc1082 (fun pc => sm_ch sm_t100 pc, sm_Kn 2 5 none, fun x => sm_lk sm_ca2 x, some .long) [] 5 0 [6, 33, 47, 83, 97, 132] [] 2000 [.inr (3, false, [((6, [(0, .inl 0), (1, .inr (true, ar_t64)), (3, .inr (false, [(0, 14)]))], [], czkc1082h11), none)]),
  .inr (3, false, [((33, [(0, .inl 0), (1, .inr (true, ar_t64)), (3, .inr (false, [(0, 8)]))], [], czkc1082h11), none), ((47, [(0, .inl 0), (1, .inr (true, ar_t64)), (3, .inr (false, [(0, 7)])), (4, .inr (false, [(0, 6)]))], [], czkc1082h13), some 4)]),
  .inr (3, false, [((83, [(0, .inl 0), (1, .inr (true, ar_t64)), (3, .inr (false, [(0, 4)]))], [], czkc1082h11), none), ((97, [(0, .inl 0), (1, .inr (true, ar_t64)), (3, .inr (false, [(0, 3)])), (4, .inr (false, [(0, 5)]))], [], czkc1082h15), some 4)]),
  .inr (3, false, [((132, [(0, .inl 0), (1, .inr (true, ar_t64)), (3, .inr (false, [(0, 3)]))], [], czkc1082h11), none)])] = true := by decide +kernel
