/-- Register.passYear -/
def kch863 : aw_H := [(24, kcx25), (25, .inr (.inl (0, 8, [], []))), (27, .inr (.inl (0, 8, [], []))), (28, .inr (.inl (0, 8, [], []))), (29, .inr (.inl (0, 4, [], []))), (30, .inr (.inl (0, 4, [], []))), (32, kcx36)]
def kcc1018 : ak_C := (46, [.inl 24, .inr (false, ar_t32)], kch863, [24, 27, 28, 32], [([], some (.inr (false, ar_t32)), kch862)])
def kch864 : aw_H := [(24, kcx632), (25, .inr (.inl (0, 8, [], []))), (27, .inr (.inl (0, 8, [], []))), (28, .inr (.inl (0, 8, [], []))), (29, .inr (.inl (0, 4, [], []))), (30, .inr (.inl (0, 4, [], []))), (32, kcx36)]
def kch865 : aw_H := [(24, kcx845), (25, .inr (.inl (0, 8, [], []))), (27, .inr (.inl (0, 8, [], []))), (28, .inr (.inl (0, 8, [], []))), (29, .inr (.inl (0, 4, [], []))), (30, .inr (.inl (0, 4, [], []))), (32, kcx36)]
def kch866 : aw_H := [(24, kcx847), (25, .inr (.inl (0, 8, [], []))), (27, .inr (.inl (0, 8, [], []))), (28, .inr (.inl (0, 8, [], []))), (29, .inr (.inl (0, 4, [], []))), (30, .inr (.inl (0, 4, [], []))), (32, kcx36)]
def kch867 : aw_H := [(24, kcx849), (25, .inr (.inl (0, 8, [], []))), (27, .inr (.inl (0, 8, [], []))), (28, .inr (.inl (0, 8, [], []))), (29, .inr (.inl (0, 4, [], []))), (30, .inr (.inl (0, 4, [], []))), (32, kcx36)]
def kch868 : aw_H := [(24, kcx828), (25, .inr (.inl (0, 8, [], []))), (27, .inr (.inl (0, 8, [], []))), (28, .inr (.inl (0, 8, [], []))), (29, .inr (.inl (0, 4, [], []))), (30, .inr (.inl (0, 4, [], []))), (32, kcx36)]
def kch869 : aw_H := [(24, kcx830), (25, .inr (.inl (0, 8, [], []))), (27, .inr (.inl (0, 8, [], []))), (28, .inr (.inl (0, 8, [], []))), (29, .inr (.inl (0, 4, [], []))), (30, .inr (.inl (0, 4, [], []))), (32, kcx36)]
def kch870 : aw_H := [(24, kcx832), (25, .inr (.inl (0, 8, [], []))), (27, .inr (.inl (0, 8, [], []))), (28, .inr (.inl (0, 8, [], []))), (29, .inr (.inl (0, 4, [], []))), (30, .inr (.inl (0, 4, [], []))), (32, kcx36)]
def kch871 : aw_H := [(24, kcx834), (25, .inr (.inl (0, 8, [], []))), (27, .inr (.inl (0, 8, [], []))), (28, .inr (.inl (0, 8, [], []))), (29, .inr (.inl (0, 4, [], []))), (30, .inr (.inl (0, 4, [], []))), (32, kcx36)]
def kch872 : aw_H := [(24, kcx836), (25, .inr (.inl (0, 8, [], []))), (27, .inr (.inl (0, 8, [], []))), (28, .inr (.inl (0, 8, [], []))), (29, .inr (.inl (0, 4, [], []))), (30, .inr (.inl (0, 4, [], []))), (32, kcx36)]
def kch873 : aw_H := [(24, kcx838), (25, .inr (.inl (0, 8, [], []))), (27, .inr (.inl (0, 8, [], []))), (28, .inr (.inl (0, 8, [], []))), (29, .inr (.inl (0, 4, [], []))), (30, .inr (.inl (0, 4, [], []))), (32, kcx36)]
def kch874 : aw_H := [(24, kcx840), (25, .inr (.inl (0, 8, [], []))), (27, .inr (.inl (0, 8, [], []))), (28, .inr (.inl (0, 8, [], []))), (29, .inr (.inl (0, 4, [], []))), (30, .inr (.inl (0, 4, [], []))), (32, kcx36)]
def kch875 : aw_H := [(24, kcx842), (25, .inr (.inl (0, 8, [], []))), (27, .inr (.inl (0, 8, [], []))), (28, .inr (.inl (0, 8, [], []))), (29, .inr (.inl (0, 4, [], []))), (30, .inr (.inl (0, 4, [], []))), (32, kcx36)]
theorem kck1018 : ai_chk [kcc1017, kcc985] kcc1018 (fun pc => sm_ch sm_t46 pc, sm_Kn 1 6 none, fun x => sm_lk sm_ca1 x, some .int) [24, 27, 28, 32] 6 0 [4, 100] [] 2000 [(4, [(0, .inl 24), (1, .inr (false, ar_t32)), (2, .inr (false, [(0, 0)])), (3, .inr (false, [(0, 0)]))], [], kch863),
  (4, [(0, .inl 24), (1, .inr (false, ar_t32)), (2, .inr (false, ar_t32)), (3, .inr (false, [(1, 1)])), (4, .inr (false, [(-9, -9), (0, 7)]))], [], kch864),
  (4, [(0, .inl 24), (1, .inr (false, ar_t32)), (2, .inr (false, ar_t32)), (3, .inr (false, [(2, 2)])), (4, .inr (false, [(-9, -9), (0, 7)]))], [], kch865),
  (4, [(0, .inl 24), (1, .inr (false, ar_t32)), (2, .inr (false, ar_t32)), (3, .inr (false, [(3, 3)])), (4, .inr (false, [(-9, -9), (0, 7)]))], [], kch866),
  (4, [(0, .inl 24), (1, .inr (false, ar_t32)), (2, .inr (false, ar_t32)), (3, .inr (false, [(4, 4)])), (4, .inr (false, [(-9, -9), (0, 7)]))], [], kch867),
  (100, [(0, .inl 24), (1, .inr (false, ar_t32)), (2, .inr (false, ar_t32)), (3, .inr (false, [(0, 0)]))], [], kch863),
  (100, [(0, .inl 24), (1, .inr (false, ar_t32)), (2, .inr (false, ar_t32)), (3, .inr (false, [(1, 1)]))], [], kch868),
  (100, [(0, .inl 24), (1, .inr (false, ar_t32)), (2, .inr (false, ar_t32)), (3, .inr (false, [(2, 2)]))], [], kch869),
  (100, [(0, .inl 24), (1, .inr (false, ar_t32)), (2, .inr (false, ar_t32)), (3, .inr (false, [(3, 3)]))], [], kch870),
  (100, [(0, .inl 24), (1, .inr (false, ar_t32)), (2, .inr (false, ar_t32)), (3, .inr (false, [(4, 4)]))], [], kch871),
  (100, [(0, .inl 24), (1, .inr (false, ar_t32)), (2, .inr (false, ar_t32)), (3, .inr (false, [(5, 5)]))], [], kch872),
  (100, [(0, .inl 24), (1, .inr (false, ar_t32)), (2, .inr (false, ar_t32)), (3, .inr (false, [(6, 6)]))], [], kch873),
  (100, [(0, .inl 24), (1, .inr (false, ar_t32)), (2, .inr (false, ar_t32)), (3, .inr (false, [(7, 7)]))], [], kch874),
  (100, [(0, .inl 24), (1, .inr (false, ar_t32)), (2, .inr (false, ar_t32)), (3, .inr (false, [(8, 8)]))], [], kch875)] = true := by decide +kernel
/-- Register.passYears -/
def kcc1019 : ak_C := (59, [.inl 24, .inr (false, [(0, 40)])], kch863, [24, 27, 28, 32], [([], none, kch862)])
theorem kck1019 : ai_chk [kcc1018] kcc1019 (fun pc => sm_ch sm_t59 pc, sm_Kn 1 3 none, fun x => sm_lk sm_ca1 x, none) [24, 27, 28, 32] 3 0 [2] [] 2000 [(2, [(0, .inl 24), (1, .inr (false, [(0, 40)])), (2, .inr (false, [(0, 0)]))], [], kch863),
  (2, [(0, .inl 24), (1, .inr (false, [(1, 40)])), (2, .inr (false, [(1, 1)]))], [], kch863),
  (2, [(0, .inl 24), (1, .inr (false, [(2, 40)])), (2, .inr (false, [(2, 2)]))], [], kch863),
  (2, [(0, .inl 24), (1, .inr (false, [(3, 40)])), (2, .inr (false, [(3, 3)]))], [], kch863),
  (2, [(0, .inl 24), (1, .inr (false, [(4, 40)])), (2, .inr (false, [(4, 4)]))], [], kch863),
  (2, [(0, .inl 24), (1, .inr (false, [(5, 40)])), (2, .inr (false, [(5, 5)]))], [], kch863),
  (2, [(0, .inl 24), (1, .inr (false, [(6, 40)])), (2, .inr (false, [(6, 6)]))], [], kch863),
  (2, [(0, .inl 24), (1, .inr (false, [(7, 40)])), (2, .inr (false, [(7, 7)]))], [], kch863),
  (2, [(0, .inl 24), (1, .inr (false, [(8, 40)])), (2, .inr (false, [(8, 8)]))], [], kch863),
  (2, [(0, .inl 24), (1, .inr (false, [(9, 40)])), (2, .inr (false, [(9, 9)]))], [], kch863),
  (2, [(0, .inl 24), (1, .inr (false, [(10, 40)])), (2, .inr (false, [(10, 10)]))], [], kch863),
  (2, [(0, .inl 24), (1, .inr (false, [(11, 40)])), (2, .inr (false, [(11, 11)]))], [], kch863),
  (2, [(0, .inl 24), (1, .inr (false, [(12, 40)])), (2, .inr (false, [(12, 12)]))], [], kch863),
  (2, [(0, .inl 24), (1, .inr (false, [(13, 40)])), (2, .inr (false, [(13, 13)]))], [], kch863),
  (2, [(0, .inl 24), (1, .inr (false, [(14, 40)])), (2, .inr (false, [(14, 14)]))], [], kch863),
  (2, [(0, .inl 24), (1, .inr (false, [(15, 40)])), (2, .inr (false, [(15, 15)]))], [], kch863),
  (2, [(0, .inl 24), (1, .inr (false, [(16, 40)])), (2, .inr (false, [(16, 16)]))], [], kch863),
  (2, [(0, .inl 24), (1, .inr (false, [(17, 40)])), (2, .inr (false, [(17, 17)]))], [], kch863),
  (2, [(0, .inl 24), (1, .inr (false, [(18, 40)])), (2, .inr (false, [(18, 18)]))], [], kch863),
  (2, [(0, .inl 24), (1, .inr (false, [(19, 40)])), (2, .inr (false, [(19, 19)]))], [], kch863),
  (2, [(0, .inl 24), (1, .inr (false, [(20, 40)])), (2, .inr (false, [(20, 20)]))], [], kch863),
  (2, [(0, .inl 24), (1, .inr (false, [(21, 40)])), (2, .inr (false, [(21, 21)]))], [], kch863),
  (2, [(0, .inl 24), (1, .inr (false, [(22, 40)])), (2, .inr (false, [(22, 22)]))], [], kch863),
  (2, [(0, .inl 24), (1, .inr (false, [(23, 40)])), (2, .inr (false, [(23, 23)]))], [], kch863),
  (2, [(0, .inl 24), (1, .inr (false, [(24, 40)])), (2, .inr (false, [(24, 24)]))], [], kch863),
  (2, [(0, .inl 24), (1, .inr (false, [(25, 40)])), (2, .inr (false, [(25, 25)]))], [], kch863),
  (2, [(0, .inl 24), (1, .inr (false, [(26, 40)])), (2, .inr (false, [(26, 26)]))], [], kch863),
  (2, [(0, .inl 24), (1, .inr (false, [(27, 40)])), (2, .inr (false, [(27, 27)]))], [], kch863),
  (2, [(0, .inl 24), (1, .inr (false, [(28, 40)])), (2, .inr (false, [(28, 28)]))], [], kch863),
  (2, [(0, .inl 24), (1, .inr (false, [(29, 40)])), (2, .inr (false, [(29, 29)]))], [], kch863),
  (2, [(0, .inl 24), (1, .inr (false, [(30, 40)])), (2, .inr (false, [(30, 30)]))], [], kch863),
  (2, [(0, .inl 24), (1, .inr (false, [(31, 40)])), (2, .inr (false, [(31, 31)]))], [], kch863),
  (2, [(0, .inl 24), (1, .inr (false, [(32, 40)])), (2, .inr (false, [(32, 32)]))], [], kch863),
  (2, [(0, .inl 24), (1, .inr (false, [(33, 40)])), (2, .inr (false, [(33, 33)]))], [], kch863),
  (2, [(0, .inl 24), (1, .inr (false, [(34, 40)])), (2, .inr (false, [(34, 34)]))], [], kch863),
  (2, [(0, .inl 24), (1, .inr (false, [(35, 40)])), (2, .inr (false, [(35, 35)]))], [], kch863),
  (2, [(0, .inl 24), (1, .inr (false, [(36, 40)])), (2, .inr (false, [(36, 36)]))], [], kch863),
  (2, [(0, .inl 24), (1, .inr (false, [(37, 40)])), (2, .inr (false, [(37, 37)]))], [], kch863),
  (2, [(0, .inl 24), (1, .inr (false, [(38, 40)])), (2, .inr (false, [(38, 38)]))], [], kch863),
  (2, [(0, .inl 24), (1, .inr (false, [(39, 40)])), (2, .inr (false, [(39, 39)]))], [], kch863),
  (2, [(0, .inl 24), (1, .inr (false, [(40, 40)])), (2, .inr (false, [(40, 40)]))], [], kch863)] = true := by decide +kernel
/-- MiceRegisters.goAside -/
def kch876 : aw_H := [(0, kcx2), (15, kcx669), (16, .inr (.inl (0, 8, [], []))), (17, .inr (.inl (0, 8, [], []))), (18, .inr (.inl (0, 8, [], []))), (19, .inr (.inl (0, 8, [], []))), (20, .inr (.inl (0, 4, [], []))), (21, .inr (.inl (0, 4, [], []))), (22, kcx36), (23, kcx36), (24, kcx25), (25, .inr (.inl (0, 8, [], []))), (26, .inr (.inl (0, 8, [], []))), (27, .inr (.inl (0, 8, [], []))), (28, .inr (.inl (0, 8, [], []))), (29, .inr (.inl (0, 4, [], []))), (30, .inr (.inl (0, 4, [], []))), (31, kcx36), (32, kcx36)]
def kcc1020 : ak_C := (58, [.inl 0, .inr (false, [(0, 40)])], kch876, [24, 25, 26, 27, 28, 29, 30, 31, 32], [([], none, kch827)])
