def kcx993 : aw_A := .inl (1, [.inr (false, [(0, 8)]), .inr (false, [(4, 4)]), .inr (false, ar_t32), .inr (false, ar_t32), .inr (false, ar_t32), .inl 34, .inl 35, .inl 36, .inl 37, .inl 38, .inl 39, .inl 40, .inl 41])
def kch994 : aw_H := [(24, kcx25), (25, .inr (.inl (0, 8, [], []))), (26, .inr (.inl (0, 8, [], []))), (27, .inr (.inl (0, 8, [], []))), (28, .inr (.inl (0, 8, [], []))), (29, .inr (.inl (0, 4, [], []))), (30, .inr (.inl (0, 4, [], []))), (31, kcx36), (32, kcx36), (33, kcx993), (34, .inr (.inl (0, 8, [], []))), (35, .inr (.inl (0, 8, [], []))), (36, .inr (.inl (0, 8, [], []))), (37, .inr (.inl (0, 8, [], []))), (38, .inr (.inl (0, 4, [], []))), (39, .inr (.inl (0, 4, [], []))), (40, kcx36), (41, kcx36)]
theorem kck1043 : ai_chk [] kcc1043 (fun pc => sm_ch sm_t23 pc, sm_Kn 1 3 none, fun x => sm_lk sm_ca1 x, none) [33, 34, 35, 36, 37, 38, 39, 40, 41] 3 0 [42, 106] [] 2000 [(42, [(0, .inl 33), (1, .inl 24), (2, .inr (false, [(0, 0)]))], [], kch970),
  (42, [(0, .inl 33), (1, .inl 24), (2, .inr (false, [(1, 1)]))], [], kch972),
  (42, [(0, .inl 33), (1, .inl 24), (2, .inr (false, [(2, 2)]))], [], kch974),
  (42, [(0, .inl 33), (1, .inl 24), (2, .inr (false, [(3, 3)]))], [], kch976),
  (42, [(0, .inl 33), (1, .inl 24), (2, .inr (false, [(4, 4)]))], [], kch978),
  (42, [(0, .inl 33), (1, .inl 24), (2, .inr (false, [(5, 5)]))], [], kch980),
  (42, [(0, .inl 33), (1, .inl 24), (2, .inr (false, [(6, 6)]))], [], kch982),
  (42, [(0, .inl 33), (1, .inl 24), (2, .inr (false, [(7, 7)]))], [], kch984),
  (42, [(0, .inl 33), (1, .inl 24), (2, .inr (false, [(8, 8)]))], [], kch986),
  (106, [(0, .inl 33), (1, .inl 24), (2, .inr (false, [(0, 0)]))], [], kch970),
  (106, [(0, .inl 33), (1, .inl 24), (2, .inr (false, [(1, 1)]))], [], kch988),
  (106, [(0, .inl 33), (1, .inl 24), (2, .inr (false, [(2, 2)]))], [], kch990),
  (106, [(0, .inl 33), (1, .inl 24), (2, .inr (false, [(3, 3)]))], [], kch992),
  (106, [(0, .inl 33), (1, .inl 24), (2, .inr (false, [(4, 4)]))], [], kch994)] = true := by decide +kernel
/-- Register.isOpen -/
def kch995 : aw_H := [(33, kcx968), (36, .inr (.inl (0, 8, [], [])))]
def kcc1044 : ak_C := (29, [.inl 33, .inr (false, [(0, 7)])], kch995, [], [([], some (.inr (false, [(1, 1)])), []), ([], some (.inr (false, [(0, 0)])), [])])
theorem kck1044 : ai_chk [] kcc1044 (fun pc => sm_ch sm_t29 pc, sm_Kn 1 2 none, fun x => sm_lk sm_ca1 x, some .boolean) [] 2 0 [] [] 2000 [] = true := by decide +kernel
/-- Register.distance -/
def kch996 : aw_H := [(33, kcx968), (41, kcx36)]
def kcc1045 : ak_C := (30, [.inl 33, .inr (false, [(0, 3)]), .inr (false, [(0, 7)])], kch996, [], [([], some (.inr (false, [(0, 7)])), [])])
theorem kck1045 : ai_chk [] kcc1045 (fun pc => sm_ch sm_t30 pc, sm_Kn 1 3 none, fun x => sm_lk sm_ca1 x, some .int) [] 3 0 [] [] 2000 [] = true := by decide +kernel
/-- Register.lineWantedBy -/
def kch997 : aw_H := [(33, kcx968), (34, .inr (.inl (0, 8, [], []))), (36, .inr (.inl (0, 8, [], []))), (37, .inr (.inl (0, 8, [], []))), (38, .inr (.inl (0, 4, [], []))), (41, kcx36)]
def kcc1046 : ak_C := (28, [.inl 33, .inr (false, [(0, 3)])], kch997, [], [([], some (.inr (false, [(-9, -9)])), []), ([], some (.inr (false, [(-9, -9), (0, 7)])), [])])
def kch998 : aw_H := [(33, kcx971), (34, .inr (.inl (0, 8, [], []))), (36, .inr (.inl (0, 8, [], []))), (37, .inr (.inl (0, 8, [], []))), (38, .inr (.inl (0, 4, [], []))), (41, kcx36)]
def kch999 : aw_H := [(33, kcx973), (34, .inr (.inl (0, 8, [], []))), (36, .inr (.inl (0, 8, [], []))), (37, .inr (.inl (0, 8, [], []))), (38, .inr (.inl (0, 4, [], []))), (41, kcx36)]
def kch1000 : aw_H := [(33, kcx975), (34, .inr (.inl (0, 8, [], []))), (36, .inr (.inl (0, 8, [], []))), (37, .inr (.inl (0, 8, [], []))), (38, .inr (.inl (0, 4, [], []))), (41, kcx36)]
def kch1001 : aw_H := [(33, kcx977), (34, .inr (.inl (0, 8, [], []))), (36, .inr (.inl (0, 8, [], []))), (37, .inr (.inl (0, 8, [], []))), (38, .inr (.inl (0, 4, [], []))), (41, kcx36)]
def kch1002 : aw_H := [(33, kcx979), (34, .inr (.inl (0, 8, [], []))), (36, .inr (.inl (0, 8, [], []))), (37, .inr (.inl (0, 8, [], []))), (38, .inr (.inl (0, 4, [], []))), (41, kcx36)]
def kch1003 : aw_H := [(33, kcx981), (34, .inr (.inl (0, 8, [], []))), (36, .inr (.inl (0, 8, [], []))), (37, .inr (.inl (0, 8, [], []))), (38, .inr (.inl (0, 4, [], []))), (41, kcx36)]
def kch1004 : aw_H := [(33, kcx983), (34, .inr (.inl (0, 8, [], []))), (36, .inr (.inl (0, 8, [], []))), (37, .inr (.inl (0, 8, [], []))), (38, .inr (.inl (0, 4, [], []))), (41, kcx36)]
def kch1005 : aw_H := [(33, kcx985), (34, .inr (.inl (0, 8, [], []))), (36, .inr (.inl (0, 8, [], []))), (37, .inr (.inl (0, 8, [], []))), (38, .inr (.inl (0, 4, [], []))), (41, kcx36)]
theorem kck1046 : ai_chk [kcc1044, kcc1045, kcc979] kcc1046 (fun pc => sm_ch sm_t28 pc, sm_Kn 1 8 none, fun x => sm_lk sm_ca1 x, some .int) [] 8 0 [11] [] 2000 [(11, [(0, .inl 33), (1, .inr (false, [(0, 3)])), (2, .inr (false, [(-9, -9)])), (3, .inr (false, [(0, 0)])), (4, .inr (false, [(0, 0)])), (5, .inr (false, [(0, 0)]))], [], kch997),
  (11, [(0, .inl 33), (1, .inr (false, [(0, 3)])), (2, .inr (false, [(-9, -9), (0, 0)])), (3, .inr (false, [(0, 2147483647)])), (4, .inr (false, [(0, 7)])), (5, .inr (false, [(1, 1)]))], [], kch998),
  (11, [(0, .inl 33), (1, .inr (false, [(0, 3)])), (2, .inr (false, [(-9, -9), (0, 1)])), (3, .inr (false, [(0, 2147483647)])), (4, .inr (false, [(0, 7)])), (5, .inr (false, [(2, 2)]))], [], kch999),
  (11, [(0, .inl 33), (1, .inr (false, [(0, 3)])), (2, .inr (false, [(-9, -9), (0, 2)])), (3, .inr (false, [(0, 2147483647)])), (4, .inr (false, [(0, 7)])), (5, .inr (false, [(3, 3)]))], [], kch1000),
  (11, [(0, .inl 33), (1, .inr (false, [(0, 3)])), (2, .inr (false, [(-9, -9), (0, 3)])), (3, .inr (false, [(0, 2147483647)])), (4, .inr (false, [(0, 7)])), (5, .inr (false, [(4, 4)]))], [], kch1001),
  (11, [(0, .inl 33), (1, .inr (false, [(0, 3)])), (2, .inr (false, [(-9, -9), (0, 4)])), (3, .inr (false, [(0, 2147483647)])), (4, .inr (false, [(0, 7)])), (5, .inr (false, [(5, 5)]))], [], kch1002),
  (11, [(0, .inl 33), (1, .inr (false, [(0, 3)])), (2, .inr (false, [(-9, -9), (0, 5)])), (3, .inr (false, [(0, 2147483647)])), (4, .inr (false, [(0, 7)])), (5, .inr (false, [(6, 6)]))], [], kch1003),
  (11, [(0, .inl 33), (1, .inr (false, [(0, 3)])), (2, .inr (false, [(-9, -9), (0, 6)])), (3, .inr (false, [(0, 2147483647)])), (4, .inr (false, [(0, 7)])), (5, .inr (false, [(7, 7)]))], [], kch1004),
  (11, [(0, .inl 33), (1, .inr (false, [(0, 3)])), (2, .inr (false, [(-9, -9), (0, 7)])), (3, .inr (false, [(0, 2147483647)])), (4, .inr (false, [(0, 7)])), (5, .inr (false, [(8, 8)]))], [], kch1005)] = true := by decide +kernel
def kch1006 : aw_H := [(33, kcx968), (36, .inr (.inl (0, 8, [], []))), (37, .inr (.inl (0, 8, [], []))), (41, kcx36)]
/-- Register.passYear -/
def kch1007 : aw_H := [(33, kcx968), (34, .inr (.inl (0, 8, [], []))), (36, .inr (.inl (0, 8, [], []))), (37, .inr (.inl (0, 8, [], []))), (38, .inr (.inl (0, 4, [], []))), (39, .inr (.inl (0, 4, [], []))), (41, kcx36)]
def kcc1047 : ak_C := (46, [.inl 33, .inr (false, ar_t32)], kch1007, [33, 36, 37, 41], [([], some (.inr (false, ar_t32)), kch1006)])
def kch1008 : aw_H := [(33, kcx987), (34, .inr (.inl (0, 8, [], []))), (36, .inr (.inl (0, 8, [], []))), (37, .inr (.inl (0, 8, [], []))), (38, .inr (.inl (0, 4, [], []))), (39, .inr (.inl (0, 4, [], []))), (41, kcx36)]
def kch1009 : aw_H := [(33, kcx989), (34, .inr (.inl (0, 8, [], []))), (36, .inr (.inl (0, 8, [], []))), (37, .inr (.inl (0, 8, [], []))), (38, .inr (.inl (0, 4, [], []))), (39, .inr (.inl (0, 4, [], []))), (41, kcx36)]
def kch1010 : aw_H := [(33, kcx991), (34, .inr (.inl (0, 8, [], []))), (36, .inr (.inl (0, 8, [], []))), (37, .inr (.inl (0, 8, [], []))), (38, .inr (.inl (0, 4, [], []))), (39, .inr (.inl (0, 4, [], []))), (41, kcx36)]
def kch1011 : aw_H := [(33, kcx993), (34, .inr (.inl (0, 8, [], []))), (36, .inr (.inl (0, 8, [], []))), (37, .inr (.inl (0, 8, [], []))), (38, .inr (.inl (0, 4, [], []))), (39, .inr (.inl (0, 4, [], []))), (41, kcx36)]
def kch1012 : aw_H := [(33, kcx971), (34, .inr (.inl (0, 8, [], []))), (36, .inr (.inl (0, 8, [], []))), (37, .inr (.inl (0, 8, [], []))), (38, .inr (.inl (0, 4, [], []))), (39, .inr (.inl (0, 4, [], []))), (41, kcx36)]
def kch1013 : aw_H := [(33, kcx973), (34, .inr (.inl (0, 8, [], []))), (36, .inr (.inl (0, 8, [], []))), (37, .inr (.inl (0, 8, [], []))), (38, .inr (.inl (0, 4, [], []))), (39, .inr (.inl (0, 4, [], []))), (41, kcx36)]
def kch1014 : aw_H := [(33, kcx975), (34, .inr (.inl (0, 8, [], []))), (36, .inr (.inl (0, 8, [], []))), (37, .inr (.inl (0, 8, [], []))), (38, .inr (.inl (0, 4, [], []))), (39, .inr (.inl (0, 4, [], []))), (41, kcx36)]
def kch1015 : aw_H := [(33, kcx977), (34, .inr (.inl (0, 8, [], []))), (36, .inr (.inl (0, 8, [], []))), (37, .inr (.inl (0, 8, [], []))), (38, .inr (.inl (0, 4, [], []))), (39, .inr (.inl (0, 4, [], []))), (41, kcx36)]
def kch1016 : aw_H := [(33, kcx979), (34, .inr (.inl (0, 8, [], []))), (36, .inr (.inl (0, 8, [], []))), (37, .inr (.inl (0, 8, [], []))), (38, .inr (.inl (0, 4, [], []))), (39, .inr (.inl (0, 4, [], []))), (41, kcx36)]
def kch1017 : aw_H := [(33, kcx981), (34, .inr (.inl (0, 8, [], []))), (36, .inr (.inl (0, 8, [], []))), (37, .inr (.inl (0, 8, [], []))), (38, .inr (.inl (0, 4, [], []))), (39, .inr (.inl (0, 4, [], []))), (41, kcx36)]
