/-! Contracts over ranges of the reference, and their checks; printed by a program of mine. -/
/-- MiceRegistersModel.moreLeft -/
def mgc6412 : ak_C := (181, [.inl 81, .inr (false, [(0, 7)]), .inr (false, [(0, 7)]), .inr (false, [(0, 0)])], mgh20424, [82], [([], some (.inr (false, ar_t32)), mgh20427)])
theorem mgk6412 : ai_chk [mgc6368, mgc6373] mgc6412 (fun pc => sm_ch sm_t181 pc, sm_Kn 3 5 none, fun x => sm_lk sm_ca3 x, some .int) [82] 5 0 [7] [] 2000 [(7, [(0, .inl 81), (1, .inr (false, [(0, 7)])), (2, .inr (false, [(0, 7)])), (3, .inr (false, [(0, 0)])), (4, .inr (false, [(0, 0)]))], [], mgh20424)] = true := by decide +kernel
/-- MiceRegistersModel.moreLeft -/
def mgh23321 : aw_H := [(81, mgx2), (82, ms_r [(0, [(-1, 40)])]), (83, .inr (.inl (0, 8, [], []))), (85, .inr (.inl (0, 4, [], []))), (86, .inr (.inl (0, 4, [], []))), (96, mgx21405)]
def mgc6413 : ak_C := (181, [.inl 81, .inr (false, [(0, 7)]), .inr (false, [(0, 7)]), .inr (false, [(2, 2)])], mgh23321, [82], [([], some (.inr (false, ar_t32)), mgh20427)])
def mgx23322 : aw_A := .inr (.inl (0, 4, [(0, 3, [(0, 9)])], [(0, [(0, 9)])]))
def mgh23323 : aw_H := [(81, mgx2), (82, ms_r [(0, [(-1, 40)])]), (83, .inr (.inl (0, 8, [], []))), (85, .inr (.inl (0, 4, [], []))), (86, .inr (.inl (0, 4, [], []))), (96, mgx23322)]
def mgx23324 : aw_A := .inr (.inl (0, 4, [(0, 3, [(0, 9)])], [(0, [(0, 9)]), (1, [(0, 9)])]))
def mgh23325 : aw_H := [(81, mgx2), (82, ms_r [(0, [(-1, 40)])]), (83, .inr (.inl (0, 8, [], []))), (85, .inr (.inl (0, 4, [], []))), (86, .inr (.inl (0, 4, [], []))), (96, mgx23324)]
theorem mgk6413 : ai_chk [mgc6368, mgc6373] mgc6413 (fun pc => sm_ch sm_t181 pc, sm_Kn 3 5 none, fun x => sm_lk sm_ca3 x, some .int) [82] 5 0 [7] [] 2000 [(7, [(0, .inl 81), (1, .inr (false, [(0, 7)])), (2, .inr (false, [(0, 7)])), (3, .inr (false, [(2, 2)])), (4, .inr (false, [(0, 0)]))], [], mgh23321),
  (7, [(0, .inl 81), (1, .inr (false, [(0, 7)])), (2, .inr (false, [(0, 7)])), (3, .inr (false, [(2, 2)])), (4, .inr (false, [(1, 1)]))], [], mgh23323),
  (7, [(0, .inl 81), (1, .inr (false, [(0, 7)])), (2, .inr (false, [(0, 7)])), (3, .inr (false, [(2, 2)])), (4, .inr (false, [(2, 2)]))], [], mgh23325)] = true := by decide +kernel
/-- MiceRegistersModel.moreLeft -/
def mgc6414 : ak_C := (181, [.inl 81, .inr (false, [(0, 7)]), .inr (false, [(0, 7)]), .inr (false, [(4, 4)])], mgh23321, [82], [([], some (.inr (false, ar_t32)), mgh20427)])
def mgx23326 : aw_A := .inr (.inl (0, 4, [(0, 3, [(0, 9)])], [(0, [(0, 9)]), (1, [(0, 9)]), (2, [(0, 9)])]))
def mgh23327 : aw_H := [(81, mgx2), (82, ms_r [(0, [(-1, 40)])]), (83, .inr (.inl (0, 8, [], []))), (85, .inr (.inl (0, 4, [], []))), (86, .inr (.inl (0, 4, [], []))), (96, mgx23326)]
def mgx23328 : aw_A := .inr (.inl (0, 4, [(0, 3, [(0, 9)])], [(0, [(0, 9)]), (1, [(0, 9)]), (2, [(0, 9)]), (3, [(0, 9)])]))
def mgh23329 : aw_H := [(81, mgx2), (82, ms_r [(0, [(-1, 40)])]), (83, .inr (.inl (0, 8, [], []))), (85, .inr (.inl (0, 4, [], []))), (86, .inr (.inl (0, 4, [], []))), (96, mgx23328)]
theorem mgk6414 : ai_chk [mgc6368, mgc6373] mgc6414 (fun pc => sm_ch sm_t181 pc, sm_Kn 3 5 none, fun x => sm_lk sm_ca3 x, some .int) [82] 5 0 [7] [] 2000 [(7, [(0, .inl 81), (1, .inr (false, [(0, 7)])), (2, .inr (false, [(0, 7)])), (3, .inr (false, [(4, 4)])), (4, .inr (false, [(0, 0)]))], [], mgh23321),
  (7, [(0, .inl 81), (1, .inr (false, [(0, 7)])), (2, .inr (false, [(0, 7)])), (3, .inr (false, [(4, 4)])), (4, .inr (false, [(1, 1)]))], [], mgh23323),
  (7, [(0, .inl 81), (1, .inr (false, [(0, 7)])), (2, .inr (false, [(0, 7)])), (3, .inr (false, [(4, 4)])), (4, .inr (false, [(2, 2)]))], [], mgh23325),
  (7, [(0, .inl 81), (1, .inr (false, [(0, 7)])), (2, .inr (false, [(0, 7)])), (3, .inr (false, [(4, 4)])), (4, .inr (false, [(3, 3)]))], [], mgh23327),
  (7, [(0, .inl 81), (1, .inr (false, [(0, 7)])), (2, .inr (false, [(0, 7)])), (3, .inr (false, [(4, 4)])), (4, .inr (false, [(4, 4)]))], [], mgh23329)] = true := by decide +kernel
