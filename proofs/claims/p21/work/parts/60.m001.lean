/-! Contracts over ranges of the reference, and their checks; printed by a program of mine. -/
/-- MiceRegistersModel.in -/
def mgc17 : ak_C := (105, [.inr (true, ar_t32), .inr (true, [(0, 0)]), .inr (true, [(-2, 59)])], [], [], [([[(0, 59)], [], [(0, 59)]], some (.inr (false, [(1, 1)])), []), ([[], [], []], some (.inr (false, [(0, 0)])), [])])
theorem mgk17 : ai_chk [] mgc17 (fun pc => sm_ch sm_t105 pc, sm_Kn 3 6 none, fun x => sm_lk sm_ca3 x, some .boolean) [] 6 6 [] [] 2000 [] = true := by decide +kernel
def mgh497 : aw_H := [(81, mgx0), (90, .inr (.inl (0, 240, [], []))), (91, .inr (.inl (0, 6, [], [])))]
def mgh498 : aw_H := [(81, mgx2), (90, .inr (.inl (0, 240, [], []))), (91, .inr (.inl (0, 6, [], [])))]
/-- MiceRegistersModel.put -/
def mgc18 : ak_C := (118, [.inl 81, .inr (false, ar_t32), .inr (false, ar_t32), .inr (false, ar_t32)], mgh495, [81, 90, 91], [([[], [(0, 3)], [], []], some (.inr (false, [(-3, -3)])), mgh497), ([[], [(0, 3)], [(0, 59)], []], some (.inr (false, ar_t32)), mgh498), ([[], [(-2147483648, -1), (4, 2147483647)], [], []], some (.inr (false, [(-1, -1)])), mgh498)])
theorem mgk18 : ai_chk [mgc15, mgc4, mgc17] mgc18 (fun pc => sm_ch sm_t118 pc, sm_Kn 3 5 none, fun x => sm_lk sm_ca3 x, some .int) [81, 90, 91] 5 4 [] [] 2000 [] = true := by decide +kernel
