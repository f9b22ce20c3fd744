/-! The class' row, its ends told apart by its arguments; printed by a program of mine. -/
/-- MiceRegisters.isNoText -/
def krc10 : ak_C := (12, [.inr (false, ar_t32)], [], [], [([[(-2147483648, -1), (4, 2147483647)]], some (.inr (false, [(1, 1)])), []), ([[(0, 3)]], some (.inr (false, [(0, 0)])), [])])
theorem krk10 : ai_chk [] krc10 (fun pc => sm_ch sm_t12 pc, sm_Kn 2 1 none, fun x => sm_lk sm_ca2 x, some .boolean) [] 1 1 [] [] 2000 [] = true := by decide +kernel
def krx0 : aw_A := .inl (2, [.inl 1, .inl 2, .inl 9, .inl 10, .inl 15, .inl 24, .inl 33, .inl 42, .inl 46, .inl 59, .inl 80, .inr (false, [(1, 5)]), .inr (false, ar_t32), .inr (true, ar_t64), .inr (true, ar_t64)])
def krh1 : aw_H := [(0, krx0), (80, .inr (.inl (0, 6, [], [])))]
/-- MiceRegisters.refuseBy -/
def krx2 : aw_A := .inl (2, [.inl 1, .inl 2, .inl 9, .inl 10, .inl 15, .inl 24, .inl 33, .inl 42, .inl 46, .inl 59, .inl 80, .inr (false, ar_t32), .inr (false, ar_t32), .inr (true, ar_t64), .inr (true, ar_t64)])
def krh3 : aw_H := [(0, krx2), (80, .inr (.inl (0, 6, [], [])))]
def krc11 : ak_C := (2, [.inl 0, .inr (false, [(1, 5)])], krh3, [0, 80], [([], some (.inr (false, [(-3, -3)])), krh1)])
theorem krk11 : ai_chk [] krc11 (fun pc => sm_ch sm_t2 pc, sm_Kn 2 2 none, fun x => sm_lk sm_ca2 x, some .int) [0, 80] 2 0 [] [] 2000 [] = true := by decide +kernel
def krx4 : aw_A := .inr (.inl (0, 4, [(0, 3, [(-1, 60)])], []))
def krh5 : aw_H := [(0, krx2), (9, krx4), (11, .inr (.inl (1, 60, [], []))), (12, .inr (.inl (1, 60, [], []))), (13, .inr (.inl (1, 60, [], []))), (14, .inr (.inl (1, 60, [], []))), (80, .inr (.inl (0, 6, [], [])))]
def krh6 : aw_H := [(0, krx0), (9, krx4), (11, .inr (.inl (1, 60, [], []))), (12, .inr (.inl (1, 60, [], []))), (13, .inr (.inl (1, 60, [], []))), (14, .inr (.inl (1, 60, [], []))), (80, .inr (.inl (0, 6, [], [])))]
/-- MiceRegisters.text -/
def krx7 : aw_A := .inr (.inr (.inl (3, [11, 12, 13, 14])))
def krh8 : aw_H := [(0, krx2), (9, krx4), (10, krx7), (11, .inr (.inl (1, 60, [], []))), (12, .inr (.inl (1, 60, [], []))), (13, .inr (.inl (1, 60, [], []))), (14, .inr (.inl (1, 60, [], []))), (80, .inr (.inl (0, 6, [], [])))]
def krc12 : ak_C := (11, [.inl 0, .inr (false, ar_t32), .inr (false, ar_t32)], krh8, [0, 9, 11, 12, 13, 14, 80], [([[], [(0, 3)], [(61, 2147483647)]], some (.inr (false, [(-1, -1)])), krh5), ([[], [(0, 3)], [(-2147483648, -1)]], some (.inr (false, [(-3, -3)])), krh6), ([[], [(-2147483648, -1), (4, 2147483647)], []], some (.inr (false, [(-1, -1)])), krh5), ([[], [(0, 3)], [(0, 0)]], some (.inr (false, [(0, 0)])), krh5), ([[], [(0, 3)], [(1, 1)]], some (.inr (false, [(1, 1)])), krh5), ([[], [(0, 3)], [(2, 2)]], some (.inr (false, [(2, 2)])), krh5), ([[], [(0, 3)], [(3, 3)]], some (.inr (false, [(3, 3)])), krh5), ([[], [(0, 3)], [(4, 4)]], some (.inr (false, [(4, 4)])), krh5), ([[], [(0, 3)], [(5, 5)]], some (.inr (false, [(5, 5)])), krh5), ([[], [(0, 3)], [(6, 6)]], some (.inr (false, [(6, 6)])), krh5), ([[], [(0, 3)], [(7, 7)]], some (.inr (false, [(7, 7)])), krh5), ([[], [(0, 3)], [(8, 8)]], some (.inr (false, [(8, 8)])), krh5), ([[], [(0, 3)], [(9, 9)]], some (.inr (false, [(9, 9)])), krh5), ([[], [(0, 3)], [(10, 10)]], some (.inr (false, [(10, 10)])), krh5), ([[], [(0, 3)], [(11, 11)]], some (.inr (false, [(11, 11)])), krh5), ([[], [(0, 3)], [(12, 12)]], some (.inr (false, [(12, 12)])), krh5), ([[], [(0, 3)], [(13, 13)]], some (.inr (false, [(13, 13)])), krh5), ([[], [(0, 3)], [(14, 14)]], some (.inr (false, [(14, 14)])), krh5), ([[], [(0, 3)], [(15, 15)]], some (.inr (false, [(15, 15)])), krh5), ([[], [(0, 3)], [(16, 16)]], some (.inr (false, [(16, 16)])), krh5), ([[], [(0, 3)], [(17, 17)]], some (.inr (false, [(17, 17)])), krh5), ([[], [(0, 3)], [(18, 18)]], some (.inr (false, [(18, 18)])), krh5), ([[], [(0, 3)], [(19, 19)]], some (.inr (false, [(19, 19)])), krh5), ([[], [(0, 3)], [(20, 20)]], some (.inr (false, [(20, 20)])), krh5), ([[], [(0, 3)], [(21, 21)]], some (.inr (false, [(21, 21)])), krh5), ([[], [(0, 3)], [(22, 22)]], some (.inr (false, [(22, 22)])), krh5), ([[], [(0, 3)], [(23, 23)]], some (.inr (false, [(23, 23)])), krh5), ([[], [(0, 3)], [(24, 24)]], some (.inr (false, [(24, 24)])), krh5), ([[], [(0, 3)], [(25, 25)]], some (.inr (false, [(25, 25)])), krh5), ([[], [(0, 3)], [(26, 26)]], some (.inr (false, [(26, 26)])), krh5), ([[], [(0, 3)], [(27, 27)]], some (.inr (false, [(27, 27)])), krh5), ([[], [(0, 3)], [(28, 28)]], some (.inr (false, [(28, 28)])), krh5), ([[], [(0, 3)], [(29, 29)]], some (.inr (false, [(29, 29)])), krh5), ([[], [(0, 3)], [(30, 30)]], some (.inr (false, [(30, 30)])), krh5), ([[], [(0, 3)], [(31, 31)]], some (.inr (false, [(31, 31)])), krh5), ([[], [(0, 3)], [(32, 32)]], some (.inr (false, [(32, 32)])), krh5), ([[], [(0, 3)], [(33, 33)]], some (.inr (false, [(33, 33)])), krh5), ([[], [(0, 3)], [(34, 34)]], some (.inr (false, [(34, 34)])), krh5), ([[], [(0, 3)], [(35, 35)]], some (.inr (false, [(35, 35)])), krh5), ([[], [(0, 3)], [(36, 36)]], some (.inr (false, [(36, 36)])), krh5), ([[], [(0, 3)], [(37, 37)]], some (.inr (false, [(37, 37)])), krh5), ([[], [(0, 3)], [(38, 38)]], some (.inr (false, [(38, 38)])), krh5), ([[], [(0, 3)], [(39, 39)]], some (.inr (false, [(39, 39)])), krh5), ([[], [(0, 3)], [(40, 40)]], some (.inr (false, [(40, 40)])), krh5), ([[], [(0, 3)], [(41, 41)]], some (.inr (false, [(41, 41)])), krh5), ([[], [(0, 3)], [(42, 42)]], some (.inr (false, [(42, 42)])), krh5), ([[], [(0, 3)], [(43, 43)]], some (.inr (false, [(43, 43)])), krh5), ([[], [(0, 3)], [(44, 44)]], some (.inr (false, [(44, 44)])), krh5), ([[], [(0, 3)], [(45, 45)]], some (.inr (false, [(45, 45)])), krh5), ([[], [(0, 3)], [(46, 46)]], some (.inr (false, [(46, 46)])), krh5), ([[], [(0, 3)], [(47, 47)]], some (.inr (false, [(47, 47)])), krh5), ([[], [(0, 3)], [(48, 48)]], some (.inr (false, [(48, 48)])), krh5), ([[], [(0, 3)], [(49, 49)]], some (.inr (false, [(49, 49)])), krh5), ([[], [(0, 3)], [(50, 50)]], some (.inr (false, [(50, 50)])), krh5), ([[], [(0, 3)], [(51, 51)]], some (.inr (false, [(51, 51)])), krh5), ([[], [(0, 3)], [(52, 52)]], some (.inr (false, [(52, 52)])), krh5), ([[], [(0, 3)], [(53, 53)]], some (.inr (false, [(53, 53)])), krh5), ([[], [(0, 3)], [(54, 54)]], some (.inr (false, [(54, 54)])), krh5), ([[], [(0, 3)], [(55, 55)]], some (.inr (false, [(55, 55)])), krh5), ([[], [(0, 3)], [(56, 56)]], some (.inr (false, [(56, 56)])), krh5), ([[], [(0, 3)], [(57, 57)]], some (.inr (false, [(57, 57)])), krh5), ([[], [(0, 3)], [(58, 58)]], some (.inr (false, [(58, 58)])), krh5), ([[], [(0, 3)], [(59, 59)]], some (.inr (false, [(59, 59)])), krh5), ([[], [(0, 3)], [(60, 60)]], some (.inr (false, [(60, 60)])), krh5)])
theorem krk12 : ai_chk [krc10, krc11] krc12 (fun pc => sm_ch sm_t11 pc, sm_Kn 2 4 none, fun x => sm_lk sm_ca2 x, some .int) [0, 9, 11, 12, 13, 14, 80] 4 3 [27] [] 2000 [(27, [(0, .inl 0), (1, .inr (false, [(0, 3)])), (2, .inr (false, [(0, 60)])), (3, .inr (false, [(0, 0)]))], [], krh8),
  (27, [(0, .inl 0), (1, .inr (false, [(0, 3)])), (2, .inr (false, [(1, 60)])), (3, .inr (false, [(1, 1)]))], [], krh8),
  (27, [(0, .inl 0), (1, .inr (false, [(0, 3)])), (2, .inr (false, [(2, 60)])), (3, .inr (false, [(2, 2)]))], [], krh8),
  (27, [(0, .inl 0), (1, .inr (false, [(0, 3)])), (2, .inr (false, [(3, 60)])), (3, .inr (false, [(3, 3)]))], [], krh8),
  (27, [(0, .inl 0), (1, .inr (false, [(0, 3)])), (2, .inr (false, [(4, 60)])), (3, .inr (false, [(4, 4)]))], [], krh8),
  (27, [(0, .inl 0), (1, .inr (false, [(0, 3)])), (2, .inr (false, [(5, 60)])), (3, .inr (false, [(5, 5)]))], [], krh8),
  (27, [(0, .inl 0), (1, .inr (false, [(0, 3)])), (2, .inr (false, [(6, 60)])), (3, .inr (false, [(6, 6)]))], [], krh8),
  (27, [(0, .inl 0), (1, .inr (false, [(0, 3)])), (2, .inr (false, [(7, 60)])), (3, .inr (false, [(7, 7)]))], [], krh8),
  (27, [(0, .inl 0), (1, .inr (false, [(0, 3)])), (2, .inr (false, [(8, 60)])), (3, .inr (false, [(8, 8)]))], [], krh8),
  (27, [(0, .inl 0), (1, .inr (false, [(0, 3)])), (2, .inr (false, [(9, 60)])), (3, .inr (false, [(9, 9)]))], [], krh8),
  (27, [(0, .inl 0), (1, .inr (false, [(0, 3)])), (2, .inr (false, [(10, 60)])), (3, .inr (false, [(10, 10)]))], [], krh8),
  (27, [(0, .inl 0), (1, .inr (false, [(0, 3)])), (2, .inr (false, [(11, 60)])), (3, .inr (false, [(11, 11)]))], [], krh8),
  (27, [(0, .inl 0), (1, .inr (false, [(0, 3)])), (2, .inr (false, [(12, 60)])), (3, .inr (false, [(12, 12)]))], [], krh8),
  (27, [(0, .inl 0), (1, .inr (false, [(0, 3)])), (2, .inr (false, [(13, 60)])), (3, .inr (false, [(13, 13)]))], [], krh8),
  (27, [(0, .inl 0), (1, .inr (false, [(0, 3)])), (2, .inr (false, [(14, 60)])), (3, .inr (false, [(14, 14)]))], [], krh8),
  (27, [(0, .inl 0), (1, .inr (false, [(0, 3)])), (2, .inr (false, [(15, 60)])), (3, .inr (false, [(15, 15)]))], [], krh8),
  (27, [(0, .inl 0), (1, .inr (false, [(0, 3)])), (2, .inr (false, [(16, 60)])), (3, .inr (false, [(16, 16)]))], [], krh8),
  (27, [(0, .inl 0), (1, .inr (false, [(0, 3)])), (2, .inr (false, [(17, 60)])), (3, .inr (false, [(17, 17)]))], [], krh8),
  (27, [(0, .inl 0), (1, .inr (false, [(0, 3)])), (2, .inr (false, [(18, 60)])), (3, .inr (false, [(18, 18)]))], [], krh8),
  (27, [(0, .inl 0), (1, .inr (false, [(0, 3)])), (2, .inr (false, [(19, 60)])), (3, .inr (false, [(19, 19)]))], [], krh8),
  (27, [(0, .inl 0), (1, .inr (false, [(0, 3)])), (2, .inr (false, [(20, 60)])), (3, .inr (false, [(20, 20)]))], [], krh8),
  (27, [(0, .inl 0), (1, .inr (false, [(0, 3)])), (2, .inr (false, [(21, 60)])), (3, .inr (false, [(21, 21)]))], [], krh8),
  (27, [(0, .inl 0), (1, .inr (false, [(0, 3)])), (2, .inr (false, [(22, 60)])), (3, .inr (false, [(22, 22)]))], [], krh8),
  (27, [(0, .inl 0), (1, .inr (false, [(0, 3)])), (2, .inr (false, [(23, 60)])), (3, .inr (false, [(23, 23)]))], [], krh8),
  (27, [(0, .inl 0), (1, .inr (false, [(0, 3)])), (2, .inr (false, [(24, 60)])), (3, .inr (false, [(24, 24)]))], [], krh8),
  (27, [(0, .inl 0), (1, .inr (false, [(0, 3)])), (2, .inr (false, [(25, 60)])), (3, .inr (false, [(25, 25)]))], [], krh8),
  (27, [(0, .inl 0), (1, .inr (false, [(0, 3)])), (2, .inr (false, [(26, 60)])), (3, .inr (false, [(26, 26)]))], [], krh8),
  (27, [(0, .inl 0), (1, .inr (false, [(0, 3)])), (2, .inr (false, [(27, 60)])), (3, .inr (false, [(27, 27)]))], [], krh8),
  (27, [(0, .inl 0), (1, .inr (false, [(0, 3)])), (2, .inr (false, [(28, 60)])), (3, .inr (false, [(28, 28)]))], [], krh8),
  (27, [(0, .inl 0), (1, .inr (false, [(0, 3)])), (2, .inr (false, [(29, 60)])), (3, .inr (false, [(29, 29)]))], [], krh8),
  (27, [(0, .inl 0), (1, .inr (false, [(0, 3)])), (2, .inr (false, [(30, 60)])), (3, .inr (false, [(30, 30)]))], [], krh8),
  (27, [(0, .inl 0), (1, .inr (false, [(0, 3)])), (2, .inr (false, [(31, 60)])), (3, .inr (false, [(31, 31)]))], [], krh8),
  (27, [(0, .inl 0), (1, .inr (false, [(0, 3)])), (2, .inr (false, [(32, 60)])), (3, .inr (false, [(32, 32)]))], [], krh8),
  (27, [(0, .inl 0), (1, .inr (false, [(0, 3)])), (2, .inr (false, [(33, 60)])), (3, .inr (false, [(33, 33)]))], [], krh8),
  (27, [(0, .inl 0), (1, .inr (false, [(0, 3)])), (2, .inr (false, [(34, 60)])), (3, .inr (false, [(34, 34)]))], [], krh8),
  (27, [(0, .inl 0), (1, .inr (false, [(0, 3)])), (2, .inr (false, [(35, 60)])), (3, .inr (false, [(35, 35)]))], [], krh8),
  (27, [(0, .inl 0), (1, .inr (false, [(0, 3)])), (2, .inr (false, [(36, 60)])), (3, .inr (false, [(36, 36)]))], [], krh8),
  (27, [(0, .inl 0), (1, .inr (false, [(0, 3)])), (2, .inr (false, [(37, 60)])), (3, .inr (false, [(37, 37)]))], [], krh8),
  (27, [(0, .inl 0), (1, .inr (false, [(0, 3)])), (2, .inr (false, [(38, 60)])), (3, .inr (false, [(38, 38)]))], [], krh8),
  (27, [(0, .inl 0), (1, .inr (false, [(0, 3)])), (2, .inr (false, [(39, 60)])), (3, .inr (false, [(39, 39)]))], [], krh8),
  (27, [(0, .inl 0), (1, .inr (false, [(0, 3)])), (2, .inr (false, [(40, 60)])), (3, .inr (false, [(40, 40)]))], [], krh8),
  (27, [(0, .inl 0), (1, .inr (false, [(0, 3)])), (2, .inr (false, [(41, 60)])), (3, .inr (false, [(41, 41)]))], [], krh8),
  (27, [(0, .inl 0), (1, .inr (false, [(0, 3)])), (2, .inr (false, [(42, 60)])), (3, .inr (false, [(42, 42)]))], [], krh8),
  (27, [(0, .inl 0), (1, .inr (false, [(0, 3)])), (2, .inr (false, [(43, 60)])), (3, .inr (false, [(43, 43)]))], [], krh8),
  (27, [(0, .inl 0), (1, .inr (false, [(0, 3)])), (2, .inr (false, [(44, 60)])), (3, .inr (false, [(44, 44)]))], [], krh8),
  (27, [(0, .inl 0), (1, .inr (false, [(0, 3)])), (2, .inr (false, [(45, 60)])), (3, .inr (false, [(45, 45)]))], [], krh8),
  (27, [(0, .inl 0), (1, .inr (false, [(0, 3)])), (2, .inr (false, [(46, 60)])), (3, .inr (false, [(46, 46)]))], [], krh8),
  (27, [(0, .inl 0), (1, .inr (false, [(0, 3)])), (2, .inr (false, [(47, 60)])), (3, .inr (false, [(47, 47)]))], [], krh8),
  (27, [(0, .inl 0), (1, .inr (false, [(0, 3)])), (2, .inr (false, [(48, 60)])), (3, .inr (false, [(48, 48)]))], [], krh8),
  (27, [(0, .inl 0), (1, .inr (false, [(0, 3)])), (2, .inr (false, [(49, 60)])), (3, .inr (false, [(49, 49)]))], [], krh8),
  (27, [(0, .inl 0), (1, .inr (false, [(0, 3)])), (2, .inr (false, [(50, 60)])), (3, .inr (false, [(50, 50)]))], [], krh8),
  (27, [(0, .inl 0), (1, .inr (false, [(0, 3)])), (2, .inr (false, [(51, 60)])), (3, .inr (false, [(51, 51)]))], [], krh8),
  (27, [(0, .inl 0), (1, .inr (false, [(0, 3)])), (2, .inr (false, [(52, 60)])), (3, .inr (false, [(52, 52)]))], [], krh8),
  (27, [(0, .inl 0), (1, .inr (false, [(0, 3)])), (2, .inr (false, [(53, 60)])), (3, .inr (false, [(53, 53)]))], [], krh8),
  (27, [(0, .inl 0), (1, .inr (false, [(0, 3)])), (2, .inr (false, [(54, 60)])), (3, .inr (false, [(54, 54)]))], [], krh8),
  (27, [(0, .inl 0), (1, .inr (false, [(0, 3)])), (2, .inr (false, [(55, 60)])), (3, .inr (false, [(55, 55)]))], [], krh8),
  (27, [(0, .inl 0), (1, .inr (false, [(0, 3)])), (2, .inr (false, [(56, 60)])), (3, .inr (false, [(56, 56)]))], [], krh8),
  (27, [(0, .inl 0), (1, .inr (false, [(0, 3)])), (2, .inr (false, [(57, 60)])), (3, .inr (false, [(57, 57)]))], [], krh8),
  (27, [(0, .inl 0), (1, .inr (false, [(0, 3)])), (2, .inr (false, [(58, 60)])), (3, .inr (false, [(58, 58)]))], [], krh8),
  (27, [(0, .inl 0), (1, .inr (false, [(0, 3)])), (2, .inr (false, [(59, 60)])), (3, .inr (false, [(59, 59)]))], [], krh8),
  (27, [(0, .inl 0), (1, .inr (false, [(0, 3)])), (2, .inr (false, [(60, 60)])), (3, .inr (false, [(60, 60)]))], [], krh8)] = true := by decide +kernel
theorem kro10 {Psi : List va_E → Prop} (hP : ∀ (h : List va_E) (a : Nat) (e : va_E), a ∉ ai_pc → Psi h → Psi (h.set a e)) : ak_ok Psi (sm_Ex 200 sm_ML sm_B 1) krc10 := ai_ok (d := 0) rfl rfl rfl hP ak_nil krk10
theorem kro11 {Psi : List va_E → Prop} (hP : ∀ (h : List va_E) (a : Nat) (e : va_E), a ∉ ai_pc → Psi h → Psi (h.set a e)) : ak_ok Psi (sm_Ex 200 sm_ML sm_B 1) krc11 := ai_ok (d := 0) rfl rfl rfl hP ak_nil krk11
theorem kro12 {Psi : List va_E → Prop} (hP : ∀ (h : List va_E) (a : Nat) (e : va_E), a ∉ ai_pc → Psi h → Psi (h.set a e)) : ak_ok Psi (sm_Ex 200 sm_ML sm_B 2) krc12 := ai_ok (d := 1) rfl rfl rfl hP (ak_cons (ak_ok_le 1 (by decide) (kro10 hP)) (ak_cons (ak_ok_le 1 (by decide) (kro11 hP)) ak_nil)) krk12
