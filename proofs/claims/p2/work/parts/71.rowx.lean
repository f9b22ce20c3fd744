/-! The class' row, its ends told apart by its arguments; printed by a program of mine. -/
/-- MiceRegisters.isNoRow -/
def krc10 : ak_C := (1, [.inr (false, ar_t32)], [], [], [([[(-2147483648, -1), (6, 2147483647)]], some (.inr (false, [(1, 1)])), []), ([[(0, 5)]], some (.inr (false, [(0, 0)])), [])])
theorem krk10 : ai_chk [] krc10 (fun pc => sm_ch sm_t1 pc, sm_Kn 2 1 none, fun x => sm_lk sm_ca2 x, some .boolean) [] 1 1 [] [] 2000 [] = true := by decide +kernel
def krx0 : aw_A := .inl (2, [.inl 1, .inl 2, .inl 9, .inl 10, .inl 15, .inl 24, .inl 33, .inl 42, .inl 46, .inl 59, .inl 80, .inr (false, [(1, 5)]), .inr (false, ar_t32), .inr (true, ar_t64), .inr (true, ar_t64)])
def krh1 : aw_H := [(0, krx0), (80, .inr (.inl (0, 6, [], [])))]
/-- MiceRegisters.refuseBy -/
def krx2 : aw_A := .inl (2, [.inl 1, .inl 2, .inl 9, .inl 10, .inl 15, .inl 24, .inl 33, .inl 42, .inl 46, .inl 59, .inl 80, .inr (false, ar_t32), .inr (false, ar_t32), .inr (true, ar_t64), .inr (true, ar_t64)])
def krh3 : aw_H := [(0, krx2), (80, .inr (.inl (0, 6, [], [])))]
def krc11 : ak_C := (2, [.inl 0, .inr (false, [(1, 5)])], krh3, [0, 80], [([], some (.inr (false, [(-3, -3)])), krh1)])
theorem krk11 : ai_chk [] krc11 (fun pc => sm_ch sm_t2 pc, sm_Kn 2 2 none, fun x => sm_lk sm_ca2 x, some .int) [0, 80] 2 0 [] [] 2000 [] = true := by decide +kernel
def krx4 : aw_A := .inr (.inl (0, 6, [(0, 5, [(-1, 40)])], []))
def krh5 : aw_H := [(0, krx2), (1, krx4), (3, .inr (.inl (0, 40, [], []))), (4, .inr (.inl (0, 40, [], []))), (5, .inr (.inl (0, 40, [], []))), (6, .inr (.inl (0, 40, [], []))), (7, .inr (.inl (0, 40, [], []))), (8, .inr (.inl (0, 40, [], []))), (80, .inr (.inl (0, 6, [], [])))]
def krh6 : aw_H := [(0, krx0), (1, krx4), (3, .inr (.inl (0, 40, [], []))), (4, .inr (.inl (0, 40, [], []))), (5, .inr (.inl (0, 40, [], []))), (6, .inr (.inl (0, 40, [], []))), (7, .inr (.inl (0, 40, [], []))), (8, .inr (.inl (0, 40, [], []))), (80, .inr (.inl (0, 6, [], [])))]
/-- MiceRegisters.row -/
def krx7 : aw_A := .inr (.inr (.inl (2, [3, 4, 5, 6, 7, 8])))
def krh8 : aw_H := [(0, krx2), (1, krx4), (2, krx7), (3, .inr (.inl (0, 40, [], []))), (4, .inr (.inl (0, 40, [], []))), (5, .inr (.inl (0, 40, [], []))), (6, .inr (.inl (0, 40, [], []))), (7, .inr (.inl (0, 40, [], []))), (8, .inr (.inl (0, 40, [], []))), (80, .inr (.inl (0, 6, [], [])))]
def krc12 : ak_C := (0, [.inl 0, .inr (false, ar_t32), .inr (false, ar_t32)], krh8, [0, 1, 3, 4, 5, 6, 7, 8, 80], [([[], [(0, 5)], [(41, 2147483647)]], some (.inr (false, [(-1, -1)])), krh5), ([[], [(0, 5)], [(-2147483648, -1)]], some (.inr (false, [(-3, -3)])), krh6), ([[], [(-2147483648, -1), (6, 2147483647)], []], some (.inr (false, [(-1, -1)])), krh5), ([[], [(0, 5)], [(0, 0)]], some (.inr (false, [(0, 0)])), krh5), ([[], [(0, 5)], [(1, 1)]], some (.inr (false, [(1, 1)])), krh5), ([[], [(0, 5)], [(2, 2)]], some (.inr (false, [(2, 2)])), krh5), ([[], [(0, 5)], [(3, 3)]], some (.inr (false, [(3, 3)])), krh5), ([[], [(0, 5)], [(4, 4)]], some (.inr (false, [(4, 4)])), krh5), ([[], [(0, 5)], [(5, 5)]], some (.inr (false, [(5, 5)])), krh5), ([[], [(0, 5)], [(6, 6)]], some (.inr (false, [(6, 6)])), krh5), ([[], [(0, 5)], [(7, 7)]], some (.inr (false, [(7, 7)])), krh5), ([[], [(0, 5)], [(8, 8)]], some (.inr (false, [(8, 8)])), krh5), ([[], [(0, 5)], [(9, 9)]], some (.inr (false, [(9, 9)])), krh5), ([[], [(0, 5)], [(10, 10)]], some (.inr (false, [(10, 10)])), krh5), ([[], [(0, 5)], [(11, 11)]], some (.inr (false, [(11, 11)])), krh5), ([[], [(0, 5)], [(12, 12)]], some (.inr (false, [(12, 12)])), krh5), ([[], [(0, 5)], [(13, 13)]], some (.inr (false, [(13, 13)])), krh5), ([[], [(0, 5)], [(14, 14)]], some (.inr (false, [(14, 14)])), krh5), ([[], [(0, 5)], [(15, 15)]], some (.inr (false, [(15, 15)])), krh5), ([[], [(0, 5)], [(16, 16)]], some (.inr (false, [(16, 16)])), krh5), ([[], [(0, 5)], [(17, 17)]], some (.inr (false, [(17, 17)])), krh5), ([[], [(0, 5)], [(18, 18)]], some (.inr (false, [(18, 18)])), krh5), ([[], [(0, 5)], [(19, 19)]], some (.inr (false, [(19, 19)])), krh5), ([[], [(0, 5)], [(20, 20)]], some (.inr (false, [(20, 20)])), krh5), ([[], [(0, 5)], [(21, 21)]], some (.inr (false, [(21, 21)])), krh5), ([[], [(0, 5)], [(22, 22)]], some (.inr (false, [(22, 22)])), krh5), ([[], [(0, 5)], [(23, 23)]], some (.inr (false, [(23, 23)])), krh5), ([[], [(0, 5)], [(24, 24)]], some (.inr (false, [(24, 24)])), krh5), ([[], [(0, 5)], [(25, 25)]], some (.inr (false, [(25, 25)])), krh5), ([[], [(0, 5)], [(26, 26)]], some (.inr (false, [(26, 26)])), krh5), ([[], [(0, 5)], [(27, 27)]], some (.inr (false, [(27, 27)])), krh5), ([[], [(0, 5)], [(28, 28)]], some (.inr (false, [(28, 28)])), krh5), ([[], [(0, 5)], [(29, 29)]], some (.inr (false, [(29, 29)])), krh5), ([[], [(0, 5)], [(30, 30)]], some (.inr (false, [(30, 30)])), krh5), ([[], [(0, 5)], [(31, 31)]], some (.inr (false, [(31, 31)])), krh5), ([[], [(0, 5)], [(32, 32)]], some (.inr (false, [(32, 32)])), krh5), ([[], [(0, 5)], [(33, 33)]], some (.inr (false, [(33, 33)])), krh5), ([[], [(0, 5)], [(34, 34)]], some (.inr (false, [(34, 34)])), krh5), ([[], [(0, 5)], [(35, 35)]], some (.inr (false, [(35, 35)])), krh5), ([[], [(0, 5)], [(36, 36)]], some (.inr (false, [(36, 36)])), krh5), ([[], [(0, 5)], [(37, 37)]], some (.inr (false, [(37, 37)])), krh5), ([[], [(0, 5)], [(38, 38)]], some (.inr (false, [(38, 38)])), krh5), ([[], [(0, 5)], [(39, 39)]], some (.inr (false, [(39, 39)])), krh5), ([[], [(0, 5)], [(40, 40)]], some (.inr (false, [(40, 40)])), krh5)])
theorem krk12 : ai_chk [krc10, krc11] krc12 (fun pc => sm_ch sm_t0 pc, sm_Kn 2 4 none, fun x => sm_lk sm_ca2 x, some .int) [0, 1, 3, 4, 5, 6, 7, 8, 80] 4 3 [27] [] 2000 [(27, [(0, .inl 0), (1, .inr (false, [(0, 5)])), (2, .inr (false, [(0, 40)])), (3, .inr (false, [(0, 0)]))], [], krh8),
  (27, [(0, .inl 0), (1, .inr (false, [(0, 5)])), (2, .inr (false, [(1, 40)])), (3, .inr (false, [(1, 1)]))], [], krh8),
  (27, [(0, .inl 0), (1, .inr (false, [(0, 5)])), (2, .inr (false, [(2, 40)])), (3, .inr (false, [(2, 2)]))], [], krh8),
  (27, [(0, .inl 0), (1, .inr (false, [(0, 5)])), (2, .inr (false, [(3, 40)])), (3, .inr (false, [(3, 3)]))], [], krh8),
  (27, [(0, .inl 0), (1, .inr (false, [(0, 5)])), (2, .inr (false, [(4, 40)])), (3, .inr (false, [(4, 4)]))], [], krh8),
  (27, [(0, .inl 0), (1, .inr (false, [(0, 5)])), (2, .inr (false, [(5, 40)])), (3, .inr (false, [(5, 5)]))], [], krh8),
  (27, [(0, .inl 0), (1, .inr (false, [(0, 5)])), (2, .inr (false, [(6, 40)])), (3, .inr (false, [(6, 6)]))], [], krh8),
  (27, [(0, .inl 0), (1, .inr (false, [(0, 5)])), (2, .inr (false, [(7, 40)])), (3, .inr (false, [(7, 7)]))], [], krh8),
  (27, [(0, .inl 0), (1, .inr (false, [(0, 5)])), (2, .inr (false, [(8, 40)])), (3, .inr (false, [(8, 8)]))], [], krh8),
  (27, [(0, .inl 0), (1, .inr (false, [(0, 5)])), (2, .inr (false, [(9, 40)])), (3, .inr (false, [(9, 9)]))], [], krh8),
  (27, [(0, .inl 0), (1, .inr (false, [(0, 5)])), (2, .inr (false, [(10, 40)])), (3, .inr (false, [(10, 10)]))], [], krh8),
  (27, [(0, .inl 0), (1, .inr (false, [(0, 5)])), (2, .inr (false, [(11, 40)])), (3, .inr (false, [(11, 11)]))], [], krh8),
  (27, [(0, .inl 0), (1, .inr (false, [(0, 5)])), (2, .inr (false, [(12, 40)])), (3, .inr (false, [(12, 12)]))], [], krh8),
  (27, [(0, .inl 0), (1, .inr (false, [(0, 5)])), (2, .inr (false, [(13, 40)])), (3, .inr (false, [(13, 13)]))], [], krh8),
  (27, [(0, .inl 0), (1, .inr (false, [(0, 5)])), (2, .inr (false, [(14, 40)])), (3, .inr (false, [(14, 14)]))], [], krh8),
  (27, [(0, .inl 0), (1, .inr (false, [(0, 5)])), (2, .inr (false, [(15, 40)])), (3, .inr (false, [(15, 15)]))], [], krh8),
  (27, [(0, .inl 0), (1, .inr (false, [(0, 5)])), (2, .inr (false, [(16, 40)])), (3, .inr (false, [(16, 16)]))], [], krh8),
  (27, [(0, .inl 0), (1, .inr (false, [(0, 5)])), (2, .inr (false, [(17, 40)])), (3, .inr (false, [(17, 17)]))], [], krh8),
  (27, [(0, .inl 0), (1, .inr (false, [(0, 5)])), (2, .inr (false, [(18, 40)])), (3, .inr (false, [(18, 18)]))], [], krh8),
  (27, [(0, .inl 0), (1, .inr (false, [(0, 5)])), (2, .inr (false, [(19, 40)])), (3, .inr (false, [(19, 19)]))], [], krh8),
  (27, [(0, .inl 0), (1, .inr (false, [(0, 5)])), (2, .inr (false, [(20, 40)])), (3, .inr (false, [(20, 20)]))], [], krh8),
  (27, [(0, .inl 0), (1, .inr (false, [(0, 5)])), (2, .inr (false, [(21, 40)])), (3, .inr (false, [(21, 21)]))], [], krh8),
  (27, [(0, .inl 0), (1, .inr (false, [(0, 5)])), (2, .inr (false, [(22, 40)])), (3, .inr (false, [(22, 22)]))], [], krh8),
  (27, [(0, .inl 0), (1, .inr (false, [(0, 5)])), (2, .inr (false, [(23, 40)])), (3, .inr (false, [(23, 23)]))], [], krh8),
  (27, [(0, .inl 0), (1, .inr (false, [(0, 5)])), (2, .inr (false, [(24, 40)])), (3, .inr (false, [(24, 24)]))], [], krh8),
  (27, [(0, .inl 0), (1, .inr (false, [(0, 5)])), (2, .inr (false, [(25, 40)])), (3, .inr (false, [(25, 25)]))], [], krh8),
  (27, [(0, .inl 0), (1, .inr (false, [(0, 5)])), (2, .inr (false, [(26, 40)])), (3, .inr (false, [(26, 26)]))], [], krh8),
  (27, [(0, .inl 0), (1, .inr (false, [(0, 5)])), (2, .inr (false, [(27, 40)])), (3, .inr (false, [(27, 27)]))], [], krh8),
  (27, [(0, .inl 0), (1, .inr (false, [(0, 5)])), (2, .inr (false, [(28, 40)])), (3, .inr (false, [(28, 28)]))], [], krh8),
  (27, [(0, .inl 0), (1, .inr (false, [(0, 5)])), (2, .inr (false, [(29, 40)])), (3, .inr (false, [(29, 29)]))], [], krh8),
  (27, [(0, .inl 0), (1, .inr (false, [(0, 5)])), (2, .inr (false, [(30, 40)])), (3, .inr (false, [(30, 30)]))], [], krh8),
  (27, [(0, .inl 0), (1, .inr (false, [(0, 5)])), (2, .inr (false, [(31, 40)])), (3, .inr (false, [(31, 31)]))], [], krh8),
  (27, [(0, .inl 0), (1, .inr (false, [(0, 5)])), (2, .inr (false, [(32, 40)])), (3, .inr (false, [(32, 32)]))], [], krh8),
  (27, [(0, .inl 0), (1, .inr (false, [(0, 5)])), (2, .inr (false, [(33, 40)])), (3, .inr (false, [(33, 33)]))], [], krh8),
  (27, [(0, .inl 0), (1, .inr (false, [(0, 5)])), (2, .inr (false, [(34, 40)])), (3, .inr (false, [(34, 34)]))], [], krh8),
  (27, [(0, .inl 0), (1, .inr (false, [(0, 5)])), (2, .inr (false, [(35, 40)])), (3, .inr (false, [(35, 35)]))], [], krh8),
  (27, [(0, .inl 0), (1, .inr (false, [(0, 5)])), (2, .inr (false, [(36, 40)])), (3, .inr (false, [(36, 36)]))], [], krh8),
  (27, [(0, .inl 0), (1, .inr (false, [(0, 5)])), (2, .inr (false, [(37, 40)])), (3, .inr (false, [(37, 37)]))], [], krh8),
  (27, [(0, .inl 0), (1, .inr (false, [(0, 5)])), (2, .inr (false, [(38, 40)])), (3, .inr (false, [(38, 38)]))], [], krh8),
  (27, [(0, .inl 0), (1, .inr (false, [(0, 5)])), (2, .inr (false, [(39, 40)])), (3, .inr (false, [(39, 39)]))], [], krh8),
  (27, [(0, .inl 0), (1, .inr (false, [(0, 5)])), (2, .inr (false, [(40, 40)])), (3, .inr (false, [(40, 40)]))], [], krh8)] = true := by decide +kernel
theorem kro10 {Psi : List va_E → Prop} (hP : ∀ (h : List va_E) (a : Nat) (e : va_E), a ∉ ai_pc → Psi h → Psi (h.set a e)) : ak_ok Psi (sm_Ex 200 sm_ML sm_B 1) krc10 := ai_ok (d := 0) rfl rfl rfl hP ak_nil krk10
theorem kro11 {Psi : List va_E → Prop} (hP : ∀ (h : List va_E) (a : Nat) (e : va_E), a ∉ ai_pc → Psi h → Psi (h.set a e)) : ak_ok Psi (sm_Ex 200 sm_ML sm_B 1) krc11 := ai_ok (d := 0) rfl rfl rfl hP ak_nil krk11
theorem kro12 {Psi : List va_E → Prop} (hP : ∀ (h : List va_E) (a : Nat) (e : va_E), a ∉ ai_pc → Psi h → Psi (h.set a e)) : ak_ok Psi (sm_Ex 200 sm_ML sm_B 2) krc12 := ai_ok (d := 1) rfl rfl rfl hP (ak_cons (ak_ok_le 1 (by decide) (kro10 hP)) (ak_cons (ak_ok_le 1 (by decide) (kro11 hP)) ak_nil)) krk12
