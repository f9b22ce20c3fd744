/-! Contracts over ranges of the reference, and their checks; printed by a program of mine. -/
def mgx21403 : aw_A := ms_o [(0, 8)] [(0, 4)] [(0, 255)] ar_t32 [(0, 180)] [(0, 60)] [(-1, 60)] [(0, 8)] [(0, 4)]
def mgh21404 : aw_H := [(81, mgx21403), (91, .inr (.inl (0, 6, [], [])))]
/-- MiceRegistersModel.sure -/
def mgc6395 : ak_C := (179, [.inl 81, .inr (false, ar_t32)], mgh20448, [81, 91], [([[], [(0, 320)]], some (.inr (false, [(-4, -4)])), mgh3), ([[], [(-2147483648, -1), (321, 2147483647)]], some (.inr (false, [(-1, -1)])), mgh3), ([[], [(0, 320)]], some (.inr (false, [(-3, -3)])), mgh1), ([[], [(0, 320)]], some (.inr (false, [(0, 255)])), mgh21404)])
def mgb6395 : sm_P := (fun pc => sm_ch sm_t179 pc, sm_Kn 3 8 none, fun x => sm_lk sm_ca3 x, some .int)
def czmg6395x0 : aw_A := ms_o [(0, 8)] [(0, 4)] ar_t32 ar_t32 [(0, 180)] [(0, 60)] [(-1, 60)] [(0, 8)] [(0, 4)]
def czmg6395h1 : aw_H := [(81, czmg6395x0), (82, ms_r [(0, [(-1, 40)])]), (91, .inr (.inl (0, 6, [], [])))]
set_option maxRecDepth 100000 in
theorem mgk6395 : ai_ch2 [mgc6392, mgc6393, mgc4] mgc6395 mgb6395 [81, 91] 8 2 [33] [] 2000 [.inr (7, false, [((33, [(0, .inl 81), (1, .inr (false, [(0, 320)])), (2, .inr (false, [(0, 0)])), (3, .inr (false, [(0, 255)])), (4, .inr (false, [(0, 255)])), (5, .inr (false, ar_t32)), (6, .inr (false, [(0, 1)])), (7, .inr (false, [(0, 256)]))], [], czmg6395h1), none)])] = true := by decide +kernel

