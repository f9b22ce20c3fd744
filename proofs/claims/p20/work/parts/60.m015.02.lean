theorem mgk6404 : ai_chk [] mgc6404 (fun pc => sm_ch sm_t168 pc, sm_Kn 3 4 none, fun x => sm_lk sm_ca3 x, some .int) [] 4 0 [4] [] 2000 [(4, [(0, .inl 81), (1, .inr (false, [(0, 0)])), (2, .inr (false, [(0, 0)])), (3, .inr (false, [(0, 0)]))], [], mgh20389),
  (4, [(0, .inl 81), (1, .inr (false, [(0, 0)])), (2, .inr (false, ar_t32)), (3, .inr (false, [(1, 1)]))], [], mgh20517),
  (4, [(0, .inl 81), (1, .inr (false, [(0, 0)])), (2, .inr (false, ar_t32)), (3, .inr (false, [(2, 2)]))], [], mgh20518),
  (4, [(0, .inl 81), (1, .inr (false, [(0, 0)])), (2, .inr (false, ar_t32)), (3, .inr (false, [(3, 3)]))], [], mgh20519),
  (4, [(0, .inl 81), (1, .inr (false, [(0, 0)])), (2, .inr (false, ar_t32)), (3, .inr (false, [(4, 4)]))], [], mgh20520),
  (4, [(0, .inl 81), (1, .inr (false, [(0, 0)])), (2, .inr (false, ar_t32)), (3, .inr (false, [(5, 5)]))], [], mgh20521),
  (4, [(0, .inl 81), (1, .inr (false, [(0, 0)])), (2, .inr (false, ar_t32)), (3, .inr (false, [(6, 6)]))], [], mgh20522),
  (4, [(0, .inl 81), (1, .inr (false, [(0, 0)])), (2, .inr (false, ar_t32)), (3, .inr (false, [(7, 7)]))], [], mgh20523),
  (4, [(0, .inl 81), (1, .inr (false, [(0, 0)])), (2, .inr (false, ar_t32)), (3, .inr (false, [(8, 8)]))], [], mgh20524)] = true := by decide +kernel
/-- MiceRegistersModel.thereOf -/
def mgh21420 : aw_H := [(81, mgx2), (82, ms_r [(0, [(-1, 40)])]), (87, mgx4), (89, mgx494)]
def mgc6405 : ak_C := (196, [.inl 81, .inr (false, [(11, 13)])], mgh21420, [], [([], some (.inr (false, [(0, 6)])), [])])
theorem mgk6405 : ai_chk [] mgc6405 (fun pc => sm_ch sm_t196 pc, sm_Kn 3 4 none, fun x => sm_lk sm_ca3 x, some .int) [] 4 0 [4] [] 2000 [(4, [(0, .inl 81), (1, .inr (false, [(11, 13)])), (2, .inr (false, [(0, 0)])), (3, .inr (false, [(0, 0)]))], [], mgh21420),
  (4, [(0, .inl 81), (1, .inr (false, [(11, 13)])), (2, .inr (false, [(0, 1)])), (3, .inr (false, [(1, 1)]))], [], mgh21420),
  (4, [(0, .inl 81), (1, .inr (false, [(11, 13)])), (2, .inr (false, [(0, 2)])), (3, .inr (false, [(2, 2)]))], [], mgh21420),
  (4, [(0, .inl 81), (1, .inr (false, [(11, 13)])), (2, .inr (false, [(0, 3)])), (3, .inr (false, [(3, 3)]))], [], mgh21420),
  (4, [(0, .inl 81), (1, .inr (false, [(11, 13)])), (2, .inr (false, [(0, 4)])), (3, .inr (false, [(4, 4)]))], [], mgh21420),
  (4, [(0, .inl 81), (1, .inr (false, [(11, 13)])), (2, .inr (false, [(0, 5)])), (3, .inr (false, [(5, 5)]))], [], mgh21420),
  (4, [(0, .inl 81), (1, .inr (false, [(11, 13)])), (2, .inr (false, [(0, 6)])), (3, .inr (false, [(6, 6)]))], [], mgh21420)] = true := by decide +kernel
/-- MiceRegistersModel.countOf -/
def mgh21421 : aw_H := [(81, mgx2), (82, ms_r [(0, [(-1, 40)])]), (85, .inr (.inl (0, 4, [], []))), (87, mgx4), (89, mgx494)]
def mgc6406 : ak_C := (194, [.inl 81, .inr (false, [(0, 13)])], mgh21421, [], [([[], []], some (.inr (false, ar_t32)), []), ([[], [(4, 5), (9, 10)]], some (.inr (false, [(0, 0)])), [])])
theorem mgk6406 : ai_chk [mgc6401, mgc6402, mgc6403, mgc6404, mgc6405] mgc6406 (fun pc => sm_ch sm_t194 pc, sm_Kn 3 2 none, fun x => sm_lk sm_ca3 x, some .int) [] 2 2 [] [] 2000 [] = true := by decide +kernel
/-- MiceRegistersModel.count -/
def mgc6407 : ak_C := (193, [.inl 81, .inr (false, ar_t32)], mgh21421, [], [([[], [(-2147483648, -1), (14, 2147483647)]], some (.inr (false, [(-1, -1)])), []), ([[], [(4, 5), (9, 10)]], some (.inr (false, [(0, 0)])), []), ([[], [(0, 13)]], some (.inr (false, ar_t32)), [])])
theorem mgk6407 : ai_chk [mgc6399, mgc6406] mgc6407 (fun pc => sm_ch sm_t193 pc, sm_Kn 3 2 none, fun x => sm_lk sm_ca3 x, some .int) [] 2 2 [] [] 2000 [] = true := by decide +kernel
/-- MiceRegistersModel.finding -/
def mgc6408 : ak_C := (197, [.inl 81], mgh10, [], [([], some (.inr (false, ar_t32)), [])])
theorem mgk6408 : ai_chk [] mgc6408 (fun pc => sm_ch sm_t197 pc, sm_Kn 3 1 none, fun x => sm_lk sm_ca3 x, some .int) [] 1 0 [] [] 2000 [] = true := by decide +kernel
/-- MiceRegistersModel.in -/
def mgc6409 : ak_C := (105, [.inr (true, ar_t32), .inr (true, [(1, 1)]), .inr (true, [(5, 5)])], [], [], [([[(1, 5)], [], []], some (.inr (false, [(1, 1)])), []), ([[(-2147483648, 0), (6, 2147483647)], [], []], some (.inr (false, [(0, 0)])), [])])
