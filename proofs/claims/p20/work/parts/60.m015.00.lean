/-! Contracts over ranges of the reference, and their checks; printed by a program of mine. -/
def mgx21405 : aw_A := .inr (.inl (0, 4, [(0, 3, [(0, 9)])], []))
def mgh21406 : aw_H := [(81, mgx2), (82, ms_r [(0, [(-1, 40)])]), (96, mgx21405), (97, .inr (.inl (0, 5, [], [])))]
/-- MiceRegistersModel.duel -/
def mgh21407 : aw_H := [(81, mgx2), (82, ms_r [(0, [(-1, 40)])]), (83, .inr (.inl (0, 8, [], []))), (85, .inr (.inl (0, 4, [], []))), (86, .inr (.inl (0, 4, [], []))), (96, mgx21405), (97, .inr (.inl (0, 5, [], [])))]
def mgc1 : ak_C := (180, [.inl 81, .inr (false, ar_t32), .inr (false, ar_t32), .inr (false, ar_t32)], mgh21407, [81, 82, 96, 97], [([], some (.inr (false, [(-1, -1)])), mgh21406), ([], some (.inr (false, [(1, 1)])), mgh21406)])
/-- MiceRegistersModel.asked -/
def mgc6396 : ak_C := (190, [.inl 81], mgh10, [], [([], some (.inr (false, ar_t32)), [])])
theorem mgk6396 : ai_chk [] mgc6396 (fun pc => sm_ch sm_t190 pc, sm_Kn 3 1 none, fun x => sm_lk sm_ca3 x, some .int) [] 1 0 [] [] 2000 [] = true := by decide +kernel
/-- MiceRegistersModel.upper -/
def mgc6397 : ak_C := (191, [.inl 81], mgh10, [], [([], some (.inr (true, ar_t64)), [])])
theorem mgk6397 : ai_chk [] mgc6397 (fun pc => sm_ch sm_t191 pc, sm_Kn 3 1 none, fun x => sm_lk sm_ca3 x, some .long) [] 1 0 [] [] 2000 [] = true := by decide +kernel
/-- MiceRegistersModel.lower -/
def mgc6398 : ak_C := (192, [.inl 81], mgh10, [], [([], some (.inr (true, ar_t64)), [])])
theorem mgk6398 : ai_chk [] mgc6398 (fun pc => sm_ch sm_t192 pc, sm_Kn 3 1 none, fun x => sm_lk sm_ca3 x, some .long) [] 1 0 [] [] 2000 [] = true := by decide +kernel
/-- MiceRegistersModel.in -/
def mgc6399 : ak_C := (105, [.inr (true, ar_t32), .inr (true, [(0, 0)]), .inr (true, [(13, 13)])], [], [], [([[(0, 13)], [], []], some (.inr (false, [(1, 1)])), []), ([[(-2147483648, -1), (14, 2147483647)], [], []], some (.inr (false, [(0, 0)])), [])])
theorem mgk6399 : ai_chk [] mgc6399 (fun pc => sm_ch sm_t105 pc, sm_Kn 3 6 none, fun x => sm_lk sm_ca3 x, some .boolean) [] 6 6 [] [] 2000 [] = true := by decide +kernel
/-- MiceRegistersModel.isOf -/
def mgc6400 : ak_C := (144, [.inl 81, .inr (false, [(0, 3)]), .inr (false, ar_t32)], mgh20450, [], [([], some (.inr (false, [(0, 0)])), []), ([], some (.inr (false, [(1, 1)])), [])])
theorem mgk6400 : ai_chk [] mgc6400 (fun pc => sm_ch sm_t144 pc, sm_Kn 3 4 none, fun x => sm_lk sm_ca3 x, some .boolean) [] 4 0 [] [] 2000 [] = true := by decide +kernel
/-- MiceRegistersModel.those -/
def mgc6401 : ak_C := (195, [.inl 81, .inr (false, ar_t32)], mgh20450, [], [([], some (.inr (false, [(0, 0)])), []), ([], some (.inr (false, [(0, 4)])), [])])
def mgh21408 : aw_H := [(81, mgx20414), (85, .inr (.inl (0, 4, [], [])))]
def mgh21409 : aw_H := [(81, mgx20416), (85, .inr (.inl (0, 4, [], [])))]
def mgh21410 : aw_H := [(81, mgx20418), (85, .inr (.inl (0, 4, [], [])))]
def mgh21411 : aw_H := [(81, mgx20420), (85, .inr (.inl (0, 4, [], [])))]
theorem mgk6401 : ai_chk [mgc6400] mgc6401 (fun pc => sm_ch sm_t195 pc, sm_Kn 3 4 none, fun x => sm_lk sm_ca3 x, some .int) [] 4 0 [4] [] 2000 [(4, [(0, .inl 81), (1, .inr (false, ar_t32)), (2, .inr (false, [(0, 0)])), (3, .inr (false, [(0, 0)]))], [], mgh20450),
  (4, [(0, .inl 81), (1, .inr (false, ar_t32)), (2, .inr (false, [(0, 1)])), (3, .inr (false, [(1, 1)]))], [], mgh21408),
  (4, [(0, .inl 81), (1, .inr (false, ar_t32)), (2, .inr (false, [(0, 2)])), (3, .inr (false, [(2, 2)]))], [], mgh21409),
  (4, [(0, .inl 81), (1, .inr (false, ar_t32)), (2, .inr (false, [(0, 3)])), (3, .inr (false, [(3, 3)]))], [], mgh21410),
  (4, [(0, .inl 81), (1, .inr (false, ar_t32)), (2, .inr (false, [(0, 4)])), (3, .inr (false, [(4, 4)]))], [], mgh21411)] = true := by decide +kernel
