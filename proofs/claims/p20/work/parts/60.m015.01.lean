/-- MiceRegistersModel.cheeses -/
def mgc6402 : ak_C := (147, [.inl 81], mgh20389, [], [([], some (.inr (false, ar_t32)), [])])
theorem mgk6402 : ai_chk [] mgc6402 (fun pc => sm_ch sm_t147 pc, sm_Kn 3 3 none, fun x => sm_lk sm_ca3 x, some .int) [] 3 0 [4] [] 2000 [(4, [(0, .inl 81), (1, .inr (false, [(0, 0)])), (2, .inr (false, [(0, 0)]))], [], mgh20389),
  (4, [(0, .inl 81), (1, .inr (false, ar_t32)), (2, .inr (false, [(1, 1)]))], [], mgh20389),
  (4, [(0, .inl 81), (1, .inr (false, ar_t32)), (2, .inr (false, [(2, 2)]))], [], mgh20389),
  (4, [(0, .inl 81), (1, .inr (false, ar_t32)), (2, .inr (false, [(3, 3)]))], [], mgh20389),
  (4, [(0, .inl 81), (1, .inr (false, ar_t32)), (2, .inr (false, [(4, 4)]))], [], mgh20389),
  (4, [(0, .inl 81), (1, .inr (false, ar_t32)), (2, .inr (false, [(5, 5)]))], [], mgh20389),
  (4, [(0, .inl 81), (1, .inr (false, ar_t32)), (2, .inr (false, [(6, 6)]))], [], mgh20389),
  (4, [(0, .inl 81), (1, .inr (false, ar_t32)), (2, .inr (false, [(7, 7)]))], [], mgh20389),
  (4, [(0, .inl 81), (1, .inr (false, ar_t32)), (2, .inr (false, [(8, 8)]))], [], mgh20389)] = true := by decide +kernel
/-- MiceRegistersModel.eatenAt -/
def mgc6403 : ak_C := (163, [.inl 81, .inr (false, [(0, 0)])], mgh20389, [], [([], some (.inr (false, [(0, 0)])), []), ([], some (.inr (false, ar_t32)), [])])
def mgh21412 : aw_H := [(81, mgx20391), (82, ms_r [(0, [(-1, 40)]), (4, ar_t32)])]
def mgh21413 : aw_H := [(81, mgx20393), (82, mgx20394)]
def mgh21414 : aw_H := [(81, mgx20396), (82, mgx20397)]
def mgh21415 : aw_H := [(81, mgx20399), (82, mgx20400)]
def mgh21416 : aw_H := [(81, mgx20402), (82, mgx20403)]
def mgh21417 : aw_H := [(81, mgx20405), (82, mgx20406)]
def mgh21418 : aw_H := [(81, mgx20408), (82, mgx20409)]
def mgh21419 : aw_H := [(81, mgx20411), (82, mgx20412)]
theorem mgk6403 : ai_chk [] mgc6403 (fun pc => sm_ch sm_t163 pc, sm_Kn 3 4 none, fun x => sm_lk sm_ca3 x, some .int) [] 4 0 [4] [] 2000 [(4, [(0, .inl 81), (1, .inr (false, [(0, 0)])), (2, .inr (false, [(0, 0)])), (3, .inr (false, [(0, 0)]))], [], mgh20389),
  (4, [(0, .inl 81), (1, .inr (false, [(0, 0)])), (2, .inr (false, [(0, 1)])), (3, .inr (false, [(1, 1)]))], [], mgh21412),
  (4, [(0, .inl 81), (1, .inr (false, [(0, 0)])), (2, .inr (false, ar_t32)), (3, .inr (false, [(2, 2)]))], [], mgh21413),
  (4, [(0, .inl 81), (1, .inr (false, [(0, 0)])), (2, .inr (false, ar_t32)), (3, .inr (false, [(3, 3)]))], [], mgh21414),
  (4, [(0, .inl 81), (1, .inr (false, [(0, 0)])), (2, .inr (false, ar_t32)), (3, .inr (false, [(4, 4)]))], [], mgh21415),
  (4, [(0, .inl 81), (1, .inr (false, [(0, 0)])), (2, .inr (false, ar_t32)), (3, .inr (false, [(5, 5)]))], [], mgh21416),
  (4, [(0, .inl 81), (1, .inr (false, [(0, 0)])), (2, .inr (false, ar_t32)), (3, .inr (false, [(6, 6)]))], [], mgh21417),
  (4, [(0, .inl 81), (1, .inr (false, [(0, 0)])), (2, .inr (false, ar_t32)), (3, .inr (false, [(7, 7)]))], [], mgh21418),
  (4, [(0, .inl 81), (1, .inr (false, [(0, 0)])), (2, .inr (false, ar_t32)), (3, .inr (false, [(8, 8)]))], [], mgh21419)] = true := by decide +kernel
/-- MiceRegistersModel.leftIn -/
def mgc6404 : ak_C := (168, [.inl 81, .inr (false, [(0, 0)])], mgh20389, [], [([], some (.inr (false, [(0, 0)])), []), ([], some (.inr (false, ar_t32)), [])])
