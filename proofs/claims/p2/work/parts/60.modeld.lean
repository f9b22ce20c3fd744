/-! Contracts over ranges of the reference, and their checks; printed by a program of mine. -/
def mgh15238 : aw_H := [(81, mgx14934), (92, .inr (.inl (0, 8, [], []))), (93, .inr (.inl (0, 8, [], [])))]
def mgx15239 : aw_A := ms_o [(0, 8)] [(0, 4)] ar_t32 ar_t32 [(0, 180)] [(37, 37)] [(37, 60)] [(1, 8)] [(0, 0)]
def mgh15240 : aw_H := [(81, mgx15239), (92, .inr (.inl (0, 8, [], []))), (93, .inr (.inl (0, 8, [], [])))]
def mgx15241 : aw_A := ms_o [(0, 8)] [(0, 4)] ar_t32 ar_t32 [(0, 180)] [(33, 33)] [(34, 60)] [(8, 8)] [(0, 0)]
def mgh15242 : aw_H := [(81, mgx15241), (92, .inr (.inl (0, 8, [], []))), (93, .inr (.inl (0, 8, [], [])))]
/-- MiceRegistersModel.readsLine -/
def mgx15243 : aw_A := ms_o [(0, 8)] [(0, 4)] ar_t32 ar_t32 [(0, 180)] [(33, 33)] [(34, 60)] [(0, 8)] [(0, 0)]
def mgh15244 : aw_H := [(81, mgx15243), (90, .inr (.inl (0, 240, [], []))), (92, .inr (.inl (0, 8, [], []))), (93, .inr (.inl (0, 8, [], [])))]
def mgc767 : ak_C := (124, [.inl 81], mgh15244, [81, 92, 93], [([], some (.inr (false, [(0, 0)])), mgh15238), ([], some (.inr (false, [(1, 1)])), mgh15240), ([], some (.inr (false, [(0, 0)])), mgh14937), ([], some (.inr (false, [(0, 0)])), mgh14626), ([], some (.inr (false, [(0, 0)])), mgh15242)])
theorem mgk767 : ai_chk [mgc715, mgc766] mgc767 (fun pc => sm_ch sm_t124 pc, sm_Kn 3 3 none, fun x => sm_lk sm_ca3 x, some .boolean) [81, 92, 93] 3 0 [] [] 2000 [] = true := by decide +kernel
def mgh15245 : aw_H := [(81, mgx15239)]
def mgx15246 : aw_A := ms_o [(0, 8)] [(0, 4)] ar_t32 ar_t32 [(0, 180)] [(38, 38)] [(37, 60)] [(1, 8)] [(0, 0)]
def mgh15247 : aw_H := [(81, mgx15246)]
def mgx15248 : aw_A := ms_o [(0, 8)] [(0, 4)] ar_t32 ar_t32 [(0, 180)] [(39, 39)] [(37, 60)] [(1, 8)] [(0, 0)]
def mgh15249 : aw_H := [(81, mgx15248)]
def mgx15250 : aw_A := ms_o [(0, 8)] [(0, 4)] ar_t32 ar_t32 [(0, 180)] [(40, 40)] [(37, 60)] [(1, 8)] [(0, 0)]
def mgh15251 : aw_H := [(81, mgx15250)]
def mgx15252 : aw_A := ms_o [(0, 8)] [(0, 4)] ar_t32 ar_t32 [(0, 180)] [(41, 41)] [(37, 60)] [(1, 8)] [(0, 0)]
def mgh15253 : aw_H := [(81, mgx15252)]
def mgx15254 : aw_A := ms_o [(0, 8)] [(0, 4)] ar_t32 ar_t32 [(0, 180)] [(42, 42)] [(37, 60)] [(1, 8)] [(0, 0)]
def mgh15255 : aw_H := [(81, mgx15254)]
def mgx15256 : aw_A := ms_o [(0, 8)] [(0, 4)] ar_t32 ar_t32 [(0, 180)] [(43, 43)] [(37, 60)] [(1, 8)] [(0, 0)]
def mgh15257 : aw_H := [(81, mgx15256)]
def mgx15258 : aw_A := ms_o [(0, 8)] [(0, 4)] ar_t32 ar_t32 [(0, 180)] [(44, 44)] [(37, 60)] [(1, 8)] [(0, 0)]
def mgh15259 : aw_H := [(81, mgx15258)]
def mgx15260 : aw_A := ms_o [(0, 8)] [(0, 4)] ar_t32 ar_t32 [(0, 180)] [(45, 45)] [(37, 60)] [(1, 8)] [(0, 0)]
def mgh15261 : aw_H := [(81, mgx15260)]
def mgx15262 : aw_A := ms_o [(0, 8)] [(0, 4)] ar_t32 ar_t32 [(0, 180)] [(46, 46)] [(37, 60)] [(1, 8)] [(0, 0)]
def mgh15263 : aw_H := [(81, mgx15262)]
def mgx15264 : aw_A := ms_o [(0, 8)] [(0, 4)] ar_t32 ar_t32 [(0, 180)] [(47, 47)] [(37, 60)] [(1, 8)] [(0, 0)]
def mgh15265 : aw_H := [(81, mgx15264)]
def mgx15266 : aw_A := ms_o [(0, 8)] [(0, 4)] ar_t32 ar_t32 [(0, 180)] [(48, 48)] [(37, 60)] [(1, 8)] [(0, 0)]
def mgh15267 : aw_H := [(81, mgx15266)]
def mgx15268 : aw_A := ms_o [(0, 8)] [(0, 4)] ar_t32 ar_t32 [(0, 180)] [(49, 49)] [(37, 60)] [(1, 8)] [(0, 0)]
def mgh15269 : aw_H := [(81, mgx15268)]
def mgx15270 : aw_A := ms_o [(0, 8)] [(0, 4)] ar_t32 ar_t32 [(0, 180)] [(50, 50)] [(37, 60)] [(1, 8)] [(0, 0)]
def mgh15271 : aw_H := [(81, mgx15270)]
def mgx15272 : aw_A := ms_o [(0, 8)] [(0, 4)] ar_t32 ar_t32 [(0, 180)] [(51, 51)] [(37, 60)] [(1, 8)] [(0, 0)]
def mgh15273 : aw_H := [(81, mgx15272)]
def mgx15274 : aw_A := ms_o [(0, 8)] [(0, 4)] ar_t32 ar_t32 [(0, 180)] [(52, 52)] [(37, 60)] [(1, 8)] [(0, 0)]
def mgh15275 : aw_H := [(81, mgx15274)]
def mgx15276 : aw_A := ms_o [(0, 8)] [(0, 4)] ar_t32 ar_t32 [(0, 180)] [(53, 53)] [(37, 60)] [(1, 8)] [(0, 0)]
def mgh15277 : aw_H := [(81, mgx15276)]
def mgx15278 : aw_A := ms_o [(0, 8)] [(0, 4)] ar_t32 ar_t32 [(0, 180)] [(54, 54)] [(37, 60)] [(1, 8)] [(0, 0)]
def mgh15279 : aw_H := [(81, mgx15278)]
def mgx15280 : aw_A := ms_o [(0, 8)] [(0, 4)] ar_t32 ar_t32 [(0, 180)] [(55, 55)] [(37, 60)] [(1, 8)] [(0, 0)]
def mgh15281 : aw_H := [(81, mgx15280)]
def mgx15282 : aw_A := ms_o [(0, 8)] [(0, 4)] ar_t32 ar_t32 [(0, 180)] [(56, 56)] [(37, 60)] [(1, 8)] [(0, 0)]
def mgh15283 : aw_H := [(81, mgx15282)]
def mgx15284 : aw_A := ms_o [(0, 8)] [(0, 4)] ar_t32 ar_t32 [(0, 180)] [(57, 57)] [(37, 60)] [(1, 8)] [(0, 0)]
def mgh15285 : aw_H := [(81, mgx15284)]
def mgx15286 : aw_A := ms_o [(0, 8)] [(0, 4)] ar_t32 ar_t32 [(0, 180)] [(58, 58)] [(37, 60)] [(1, 8)] [(0, 0)]
def mgh15287 : aw_H := [(81, mgx15286)]
def mgx15288 : aw_A := ms_o [(0, 8)] [(0, 4)] ar_t32 ar_t32 [(0, 180)] [(59, 59)] [(37, 60)] [(1, 8)] [(0, 0)]
def mgh15289 : aw_H := [(81, mgx15288)]
def mgx15290 : aw_A := ms_o [(0, 8)] [(0, 4)] ar_t32 ar_t32 [(0, 180)] [(60, 60)] [(37, 60)] [(1, 8)] [(0, 0)]
def mgh15291 : aw_H := [(81, mgx15290)]
/-- MiceRegistersModel.skip -/
def mgh15292 : aw_H := [(81, mgx15239), (90, .inr (.inl (0, 240, [], [])))]
def mgc768 : ak_C := (122, [.inl 81], mgh15292, [81], [([], none, mgh15245), ([], none, mgh15247), ([], none, mgh15249), ([], none, mgh15251), ([], none, mgh15253), ([], none, mgh15255), ([], none, mgh15257), ([], none, mgh15259), ([], none, mgh15261), ([], none, mgh15263), ([], none, mgh15265), ([], none, mgh15267), ([], none, mgh15269), ([], none, mgh15271), ([], none, mgh15273), ([], none, mgh15275), ([], none, mgh15277), ([], none, mgh15279), ([], none, mgh15281), ([], none, mgh15283), ([], none, mgh15285), ([], none, mgh15287), ([], none, mgh15289), ([], none, mgh15291)])
/-- MiceRegistersModel.figure -/
def mgc769 : ak_C := (125, [.inl 81, .inr (false, [(0, 0)]), .inr (false, [(0, 7)])], mgh14362, [81], [([], some (.inr (false, [(-9, -9)])), mgh14309), ([], some (.inr (false, [(0, 7)])), mgh14631)])
/-- MiceRegistersModel.figure -/
def mgc770 : ak_C := (125, [.inl 81, .inr (false, [(1, 1)]), .inr (false, [(9, 9)])], mgh14682, [81], [([], some (.inr (false, [(-9, -9)])), mgh14631), ([], some (.inr (false, [(1, 9)])), mgh14942)])
def mgh15293 : aw_H := [(81, mgx15243), (94, mgx5049)]
def mgx15294 : aw_A := ms_o [(0, 8)] [(0, 4)] ar_t32 ar_t32 [(0, 180)] [(36, 36)] [(36, 60)] [(1, 8)] [(1, 1)]
def mgh15295 : aw_H := [(81, mgx15294), (94, mgx5052)]
def mgh15296 : aw_H := [(81, mgx14627), (94, mgx5049)]
def mgh15297 : aw_H := [(81, mgx14305), (94, mgx5049)]
/-- MiceRegistersModel.readsMouse -/
def mgh15298 : aw_H := [(81, mgx15243), (90, .inr (.inl (0, 240, [], []))), (94, mgx5049)]
def mgc771 : ak_C := (127, [.inl 81], mgh15298, [81, 94], [([], some (.inr (false, [(0, 0)])), mgh15293), ([], some (.inr (false, [(1, 1)])), mgh15295), ([], some (.inr (false, [(0, 0)])), mgh15296), ([], some (.inr (false, [(0, 0)])), mgh15297)])
theorem mgk771 : ai_chk [mgc46, mgc148, mgc769, mgc770] mgc771 (fun pc => sm_ch sm_t127 pc, sm_Kn 3 5 none, fun x => sm_lk sm_ca3 x, some .boolean) [81, 94] 5 0 [] [] 2000 [] = true := by decide +kernel
def mgh15299 : aw_H := [(81, mgx15294)]
def mgx15300 : aw_A := ms_o [(0, 8)] [(0, 4)] ar_t32 ar_t32 [(0, 180)] [(37, 37)] [(36, 60)] [(1, 8)] [(1, 1)]
def mgh15301 : aw_H := [(81, mgx15300)]
def mgx15302 : aw_A := ms_o [(0, 8)] [(0, 4)] ar_t32 ar_t32 [(0, 180)] [(38, 38)] [(36, 60)] [(1, 8)] [(1, 1)]
def mgh15303 : aw_H := [(81, mgx15302)]
def mgx15304 : aw_A := ms_o [(0, 8)] [(0, 4)] ar_t32 ar_t32 [(0, 180)] [(39, 39)] [(36, 60)] [(1, 8)] [(1, 1)]
def mgh15305 : aw_H := [(81, mgx15304)]
def mgx15306 : aw_A := ms_o [(0, 8)] [(0, 4)] ar_t32 ar_t32 [(0, 180)] [(40, 40)] [(36, 60)] [(1, 8)] [(1, 1)]
def mgh15307 : aw_H := [(81, mgx15306)]
def mgx15308 : aw_A := ms_o [(0, 8)] [(0, 4)] ar_t32 ar_t32 [(0, 180)] [(41, 41)] [(36, 60)] [(1, 8)] [(1, 1)]
def mgh15309 : aw_H := [(81, mgx15308)]
def mgx15310 : aw_A := ms_o [(0, 8)] [(0, 4)] ar_t32 ar_t32 [(0, 180)] [(42, 42)] [(36, 60)] [(1, 8)] [(1, 1)]
def mgh15311 : aw_H := [(81, mgx15310)]
def mgx15312 : aw_A := ms_o [(0, 8)] [(0, 4)] ar_t32 ar_t32 [(0, 180)] [(43, 43)] [(36, 60)] [(1, 8)] [(1, 1)]
def mgh15313 : aw_H := [(81, mgx15312)]
def mgx15314 : aw_A := ms_o [(0, 8)] [(0, 4)] ar_t32 ar_t32 [(0, 180)] [(44, 44)] [(36, 60)] [(1, 8)] [(1, 1)]
def mgh15315 : aw_H := [(81, mgx15314)]
def mgx15316 : aw_A := ms_o [(0, 8)] [(0, 4)] ar_t32 ar_t32 [(0, 180)] [(45, 45)] [(36, 60)] [(1, 8)] [(1, 1)]
def mgh15317 : aw_H := [(81, mgx15316)]
def mgx15318 : aw_A := ms_o [(0, 8)] [(0, 4)] ar_t32 ar_t32 [(0, 180)] [(46, 46)] [(36, 60)] [(1, 8)] [(1, 1)]
def mgh15319 : aw_H := [(81, mgx15318)]
def mgx15320 : aw_A := ms_o [(0, 8)] [(0, 4)] ar_t32 ar_t32 [(0, 180)] [(47, 47)] [(36, 60)] [(1, 8)] [(1, 1)]
def mgh15321 : aw_H := [(81, mgx15320)]
def mgx15322 : aw_A := ms_o [(0, 8)] [(0, 4)] ar_t32 ar_t32 [(0, 180)] [(48, 48)] [(36, 60)] [(1, 8)] [(1, 1)]
def mgh15323 : aw_H := [(81, mgx15322)]
def mgx15324 : aw_A := ms_o [(0, 8)] [(0, 4)] ar_t32 ar_t32 [(0, 180)] [(49, 49)] [(36, 60)] [(1, 8)] [(1, 1)]
def mgh15325 : aw_H := [(81, mgx15324)]
def mgx15326 : aw_A := ms_o [(0, 8)] [(0, 4)] ar_t32 ar_t32 [(0, 180)] [(50, 50)] [(36, 60)] [(1, 8)] [(1, 1)]
def mgh15327 : aw_H := [(81, mgx15326)]
def mgx15328 : aw_A := ms_o [(0, 8)] [(0, 4)] ar_t32 ar_t32 [(0, 180)] [(51, 51)] [(36, 60)] [(1, 8)] [(1, 1)]
def mgh15329 : aw_H := [(81, mgx15328)]
def mgx15330 : aw_A := ms_o [(0, 8)] [(0, 4)] ar_t32 ar_t32 [(0, 180)] [(52, 52)] [(36, 60)] [(1, 8)] [(1, 1)]
def mgh15331 : aw_H := [(81, mgx15330)]
def mgx15332 : aw_A := ms_o [(0, 8)] [(0, 4)] ar_t32 ar_t32 [(0, 180)] [(53, 53)] [(36, 60)] [(1, 8)] [(1, 1)]
def mgh15333 : aw_H := [(81, mgx15332)]
def mgx15334 : aw_A := ms_o [(0, 8)] [(0, 4)] ar_t32 ar_t32 [(0, 180)] [(54, 54)] [(36, 60)] [(1, 8)] [(1, 1)]
def mgh15335 : aw_H := [(81, mgx15334)]
def mgx15336 : aw_A := ms_o [(0, 8)] [(0, 4)] ar_t32 ar_t32 [(0, 180)] [(55, 55)] [(36, 60)] [(1, 8)] [(1, 1)]
def mgh15337 : aw_H := [(81, mgx15336)]
def mgx15338 : aw_A := ms_o [(0, 8)] [(0, 4)] ar_t32 ar_t32 [(0, 180)] [(56, 56)] [(36, 60)] [(1, 8)] [(1, 1)]
def mgh15339 : aw_H := [(81, mgx15338)]
def mgx15340 : aw_A := ms_o [(0, 8)] [(0, 4)] ar_t32 ar_t32 [(0, 180)] [(57, 57)] [(36, 60)] [(1, 8)] [(1, 1)]
def mgh15341 : aw_H := [(81, mgx15340)]
def mgx15342 : aw_A := ms_o [(0, 8)] [(0, 4)] ar_t32 ar_t32 [(0, 180)] [(58, 58)] [(36, 60)] [(1, 8)] [(1, 1)]
def mgh15343 : aw_H := [(81, mgx15342)]
def mgx15344 : aw_A := ms_o [(0, 8)] [(0, 4)] ar_t32 ar_t32 [(0, 180)] [(59, 59)] [(36, 60)] [(1, 8)] [(1, 1)]
def mgh15345 : aw_H := [(81, mgx15344)]
def mgx15346 : aw_A := ms_o [(0, 8)] [(0, 4)] ar_t32 ar_t32 [(0, 180)] [(60, 60)] [(36, 60)] [(1, 8)] [(1, 1)]
def mgh15347 : aw_H := [(81, mgx15346)]
/-- MiceRegistersModel.skip -/
def mgh15348 : aw_H := [(81, mgx15294), (90, .inr (.inl (0, 240, [], [])))]
def mgc772 : ak_C := (122, [.inl 81], mgh15348, [81], [([], none, mgh15299), ([], none, mgh15301), ([], none, mgh15303), ([], none, mgh15305), ([], none, mgh15307), ([], none, mgh15309), ([], none, mgh15311), ([], none, mgh15313), ([], none, mgh15315), ([], none, mgh15317), ([], none, mgh15319), ([], none, mgh15321), ([], none, mgh15323), ([], none, mgh15325), ([], none, mgh15327), ([], none, mgh15329), ([], none, mgh15331), ([], none, mgh15333), ([], none, mgh15335), ([], none, mgh15337), ([], none, mgh15339), ([], none, mgh15341), ([], none, mgh15343), ([], none, mgh15345), ([], none, mgh15347)])
/-- MiceRegistersModel.readsLine -/
def mgx15349 : aw_A := ms_o [(0, 8)] [(0, 4)] ar_t32 ar_t32 [(0, 180)] [(33, 33)] [(34, 60)] [(1, 7)] [(1, 1)]
def mgh15350 : aw_H := [(81, mgx15349)]
def mgc773 : ak_C := (124, [.inl 81], mgh15350, [], [([], some (.inr (false, [(0, 0)])), [])])
theorem mgk773 : ai_chk [] mgc773 (fun pc => sm_ch sm_t124 pc, sm_Kn 3 3 none, fun x => sm_lk sm_ca3 x, some .boolean) [] 3 0 [] [] 2000 [] = true := by decide +kernel
/-- MiceRegistersModel.figure -/
def mgc774 : ak_C := (125, [.inl 81, .inr (false, [(0, 0)]), .inr (false, [(0, 6)])], mgh14744, [81], [([], some (.inr (false, [(-9, -9)])), mgh14691), ([], some (.inr (false, [(0, 6)])), mgh15000)])
def mgx15351 : aw_A := ms_o [(0, 8)] [(0, 4)] ar_t32 ar_t32 [(0, 180)] [(36, 36)] [(36, 60)] [(1, 7)] [(1, 1)]
def mgh15352 : aw_H := [(81, mgx15351)]
/-- MiceRegistersModel.figure -/
def mgc775 : ak_C := (125, [.inl 81, .inr (false, [(1, 1)]), .inr (false, [(9, 9)])], mgh15051, [81], [([], some (.inr (false, [(-9, -9)])), mgh15000), ([], some (.inr (false, [(1, 9)])), mgh15352)])
def mgh15353 : aw_H := [(81, mgx15349), (94, mgx5052)]
def mgx15354 : aw_A := ms_o [(0, 8)] [(0, 4)] ar_t32 ar_t32 [(0, 180)] [(36, 36)] [(36, 60)] [(1, 7)] [(2, 2)]
def mgh15355 : aw_H := [(81, mgx15354), (94, mgx5820)]
/-- MiceRegistersModel.readsMouse -/
def mgh15356 : aw_H := [(81, mgx15349), (90, .inr (.inl (0, 240, [], []))), (94, mgx5052)]
def mgc776 : ak_C := (127, [.inl 81], mgh15356, [81, 94], [([], some (.inr (false, [(0, 0)])), mgh15353), ([], some (.inr (false, [(1, 1)])), mgh15355), ([], some (.inr (false, [(0, 0)])), mgh14997), ([], some (.inr (false, [(0, 0)])), mgh14688)])
theorem mgk776 : ai_chk [mgc46, mgc148, mgc774, mgc775] mgc776 (fun pc => sm_ch sm_t127 pc, sm_Kn 3 5 none, fun x => sm_lk sm_ca3 x, some .boolean) [81, 94] 5 0 [] [] 2000 [] = true := by decide +kernel
def mgh15357 : aw_H := [(81, mgx15354)]
def mgx15358 : aw_A := ms_o [(0, 8)] [(0, 4)] ar_t32 ar_t32 [(0, 180)] [(37, 37)] [(36, 60)] [(1, 7)] [(2, 2)]
def mgh15359 : aw_H := [(81, mgx15358)]
def mgx15360 : aw_A := ms_o [(0, 8)] [(0, 4)] ar_t32 ar_t32 [(0, 180)] [(38, 38)] [(36, 60)] [(1, 7)] [(2, 2)]
def mgh15361 : aw_H := [(81, mgx15360)]
def mgx15362 : aw_A := ms_o [(0, 8)] [(0, 4)] ar_t32 ar_t32 [(0, 180)] [(39, 39)] [(36, 60)] [(1, 7)] [(2, 2)]
def mgh15363 : aw_H := [(81, mgx15362)]
def mgx15364 : aw_A := ms_o [(0, 8)] [(0, 4)] ar_t32 ar_t32 [(0, 180)] [(40, 40)] [(36, 60)] [(1, 7)] [(2, 2)]
def mgh15365 : aw_H := [(81, mgx15364)]
def mgx15366 : aw_A := ms_o [(0, 8)] [(0, 4)] ar_t32 ar_t32 [(0, 180)] [(41, 41)] [(36, 60)] [(1, 7)] [(2, 2)]
def mgh15367 : aw_H := [(81, mgx15366)]
def mgx15368 : aw_A := ms_o [(0, 8)] [(0, 4)] ar_t32 ar_t32 [(0, 180)] [(42, 42)] [(36, 60)] [(1, 7)] [(2, 2)]
def mgh15369 : aw_H := [(81, mgx15368)]
def mgx15370 : aw_A := ms_o [(0, 8)] [(0, 4)] ar_t32 ar_t32 [(0, 180)] [(43, 43)] [(36, 60)] [(1, 7)] [(2, 2)]
def mgh15371 : aw_H := [(81, mgx15370)]
def mgx15372 : aw_A := ms_o [(0, 8)] [(0, 4)] ar_t32 ar_t32 [(0, 180)] [(44, 44)] [(36, 60)] [(1, 7)] [(2, 2)]
def mgh15373 : aw_H := [(81, mgx15372)]
def mgx15374 : aw_A := ms_o [(0, 8)] [(0, 4)] ar_t32 ar_t32 [(0, 180)] [(45, 45)] [(36, 60)] [(1, 7)] [(2, 2)]
def mgh15375 : aw_H := [(81, mgx15374)]
def mgx15376 : aw_A := ms_o [(0, 8)] [(0, 4)] ar_t32 ar_t32 [(0, 180)] [(46, 46)] [(36, 60)] [(1, 7)] [(2, 2)]
def mgh15377 : aw_H := [(81, mgx15376)]
def mgx15378 : aw_A := ms_o [(0, 8)] [(0, 4)] ar_t32 ar_t32 [(0, 180)] [(47, 47)] [(36, 60)] [(1, 7)] [(2, 2)]
def mgh15379 : aw_H := [(81, mgx15378)]
def mgx15380 : aw_A := ms_o [(0, 8)] [(0, 4)] ar_t32 ar_t32 [(0, 180)] [(48, 48)] [(36, 60)] [(1, 7)] [(2, 2)]
def mgh15381 : aw_H := [(81, mgx15380)]
def mgx15382 : aw_A := ms_o [(0, 8)] [(0, 4)] ar_t32 ar_t32 [(0, 180)] [(49, 49)] [(36, 60)] [(1, 7)] [(2, 2)]
def mgh15383 : aw_H := [(81, mgx15382)]
def mgx15384 : aw_A := ms_o [(0, 8)] [(0, 4)] ar_t32 ar_t32 [(0, 180)] [(50, 50)] [(36, 60)] [(1, 7)] [(2, 2)]
def mgh15385 : aw_H := [(81, mgx15384)]
def mgx15386 : aw_A := ms_o [(0, 8)] [(0, 4)] ar_t32 ar_t32 [(0, 180)] [(51, 51)] [(36, 60)] [(1, 7)] [(2, 2)]
def mgh15387 : aw_H := [(81, mgx15386)]
def mgx15388 : aw_A := ms_o [(0, 8)] [(0, 4)] ar_t32 ar_t32 [(0, 180)] [(52, 52)] [(36, 60)] [(1, 7)] [(2, 2)]
def mgh15389 : aw_H := [(81, mgx15388)]
def mgx15390 : aw_A := ms_o [(0, 8)] [(0, 4)] ar_t32 ar_t32 [(0, 180)] [(53, 53)] [(36, 60)] [(1, 7)] [(2, 2)]
def mgh15391 : aw_H := [(81, mgx15390)]
def mgx15392 : aw_A := ms_o [(0, 8)] [(0, 4)] ar_t32 ar_t32 [(0, 180)] [(54, 54)] [(36, 60)] [(1, 7)] [(2, 2)]
def mgh15393 : aw_H := [(81, mgx15392)]
def mgx15394 : aw_A := ms_o [(0, 8)] [(0, 4)] ar_t32 ar_t32 [(0, 180)] [(55, 55)] [(36, 60)] [(1, 7)] [(2, 2)]
def mgh15395 : aw_H := [(81, mgx15394)]
def mgx15396 : aw_A := ms_o [(0, 8)] [(0, 4)] ar_t32 ar_t32 [(0, 180)] [(56, 56)] [(36, 60)] [(1, 7)] [(2, 2)]
def mgh15397 : aw_H := [(81, mgx15396)]
def mgx15398 : aw_A := ms_o [(0, 8)] [(0, 4)] ar_t32 ar_t32 [(0, 180)] [(57, 57)] [(36, 60)] [(1, 7)] [(2, 2)]
def mgh15399 : aw_H := [(81, mgx15398)]
def mgx15400 : aw_A := ms_o [(0, 8)] [(0, 4)] ar_t32 ar_t32 [(0, 180)] [(58, 58)] [(36, 60)] [(1, 7)] [(2, 2)]
def mgh15401 : aw_H := [(81, mgx15400)]
def mgx15402 : aw_A := ms_o [(0, 8)] [(0, 4)] ar_t32 ar_t32 [(0, 180)] [(59, 59)] [(36, 60)] [(1, 7)] [(2, 2)]
def mgh15403 : aw_H := [(81, mgx15402)]
def mgx15404 : aw_A := ms_o [(0, 8)] [(0, 4)] ar_t32 ar_t32 [(0, 180)] [(60, 60)] [(36, 60)] [(1, 7)] [(2, 2)]
def mgh15405 : aw_H := [(81, mgx15404)]
/-- MiceRegistersModel.skip -/
def mgh15406 : aw_H := [(81, mgx15354), (90, .inr (.inl (0, 240, [], [])))]
def mgc777 : ak_C := (122, [.inl 81], mgh15406, [81], [([], none, mgh15357), ([], none, mgh15359), ([], none, mgh15361), ([], none, mgh15363), ([], none, mgh15365), ([], none, mgh15367), ([], none, mgh15369), ([], none, mgh15371), ([], none, mgh15373), ([], none, mgh15375), ([], none, mgh15377), ([], none, mgh15379), ([], none, mgh15381), ([], none, mgh15383), ([], none, mgh15385), ([], none, mgh15387), ([], none, mgh15389), ([], none, mgh15391), ([], none, mgh15393), ([], none, mgh15395), ([], none, mgh15397), ([], none, mgh15399), ([], none, mgh15401), ([], none, mgh15403), ([], none, mgh15405)])
/-- MiceRegistersModel.readsLine -/
def mgx15407 : aw_A := ms_o [(0, 8)] [(0, 4)] ar_t32 ar_t32 [(0, 180)] [(33, 33)] [(34, 60)] [(1, 6)] [(2, 2)]
def mgh15408 : aw_H := [(81, mgx15407)]
def mgc778 : ak_C := (124, [.inl 81], mgh15408, [], [([], some (.inr (false, [(0, 0)])), [])])
theorem mgk778 : ai_chk [] mgc778 (fun pc => sm_ch sm_t124 pc, sm_Kn 3 3 none, fun x => sm_lk sm_ca3 x, some .boolean) [] 3 0 [] [] 2000 [] = true := by decide +kernel
/-- MiceRegistersModel.figure -/
def mgc779 : ak_C := (125, [.inl 81, .inr (false, [(0, 0)]), .inr (false, [(0, 5)])], mgh14808, [81], [([], some (.inr (false, [(-9, -9)])), mgh14755), ([], some (.inr (false, [(0, 5)])), mgh15113)])
def mgx15409 : aw_A := ms_o [(0, 8)] [(0, 4)] ar_t32 ar_t32 [(0, 180)] [(36, 36)] [(36, 60)] [(1, 6)] [(2, 2)]
def mgh15410 : aw_H := [(81, mgx15409)]
/-- MiceRegistersModel.figure -/
def mgh15411 : aw_H := [(81, mgx15112), (90, .inr (.inl (0, 240, [], [])))]
def mgc780 : ak_C := (125, [.inl 81, .inr (false, [(1, 1)]), .inr (false, [(9, 9)])], mgh15411, [81], [([], some (.inr (false, [(-9, -9)])), mgh15113), ([], some (.inr (false, [(1, 9)])), mgh15410)])
def mgh15412 : aw_H := [(81, mgx15407), (94, mgx5820)]
def mgx15413 : aw_A := ms_o [(0, 8)] [(0, 4)] ar_t32 ar_t32 [(0, 180)] [(36, 36)] [(36, 60)] [(1, 6)] [(3, 3)]
def mgh15414 : aw_H := [(81, mgx15413), (94, mgx6868)]
def mgh15415 : aw_H := [(81, mgx15112), (94, mgx5820)]
/-- MiceRegistersModel.readsMouse -/
def mgh15416 : aw_H := [(81, mgx15407), (90, .inr (.inl (0, 240, [], []))), (94, mgx5820)]
def mgc781 : ak_C := (127, [.inl 81], mgh15416, [81, 94], [([], some (.inr (false, [(0, 0)])), mgh15412), ([], some (.inr (false, [(1, 1)])), mgh15414), ([], some (.inr (false, [(0, 0)])), mgh15415), ([], some (.inr (false, [(0, 0)])), mgh14752)])
theorem mgk781 : ai_chk [mgc46, mgc148, mgc779, mgc780] mgc781 (fun pc => sm_ch sm_t127 pc, sm_Kn 3 5 none, fun x => sm_lk sm_ca3 x, some .boolean) [81, 94] 5 0 [] [] 2000 [] = true := by decide +kernel
def mgh15417 : aw_H := [(81, mgx15413)]
def mgx15418 : aw_A := ms_o [(0, 8)] [(0, 4)] ar_t32 ar_t32 [(0, 180)] [(37, 37)] [(36, 60)] [(1, 6)] [(3, 3)]
def mgh15419 : aw_H := [(81, mgx15418)]
def mgx15420 : aw_A := ms_o [(0, 8)] [(0, 4)] ar_t32 ar_t32 [(0, 180)] [(38, 38)] [(36, 60)] [(1, 6)] [(3, 3)]
def mgh15421 : aw_H := [(81, mgx15420)]
def mgx15422 : aw_A := ms_o [(0, 8)] [(0, 4)] ar_t32 ar_t32 [(0, 180)] [(39, 39)] [(36, 60)] [(1, 6)] [(3, 3)]
def mgh15423 : aw_H := [(81, mgx15422)]
def mgx15424 : aw_A := ms_o [(0, 8)] [(0, 4)] ar_t32 ar_t32 [(0, 180)] [(40, 40)] [(36, 60)] [(1, 6)] [(3, 3)]
def mgh15425 : aw_H := [(81, mgx15424)]
def mgx15426 : aw_A := ms_o [(0, 8)] [(0, 4)] ar_t32 ar_t32 [(0, 180)] [(41, 41)] [(36, 60)] [(1, 6)] [(3, 3)]
def mgh15427 : aw_H := [(81, mgx15426)]
def mgx15428 : aw_A := ms_o [(0, 8)] [(0, 4)] ar_t32 ar_t32 [(0, 180)] [(42, 42)] [(36, 60)] [(1, 6)] [(3, 3)]
def mgh15429 : aw_H := [(81, mgx15428)]
def mgx15430 : aw_A := ms_o [(0, 8)] [(0, 4)] ar_t32 ar_t32 [(0, 180)] [(43, 43)] [(36, 60)] [(1, 6)] [(3, 3)]
def mgh15431 : aw_H := [(81, mgx15430)]
def mgx15432 : aw_A := ms_o [(0, 8)] [(0, 4)] ar_t32 ar_t32 [(0, 180)] [(44, 44)] [(36, 60)] [(1, 6)] [(3, 3)]
def mgh15433 : aw_H := [(81, mgx15432)]
def mgx15434 : aw_A := ms_o [(0, 8)] [(0, 4)] ar_t32 ar_t32 [(0, 180)] [(45, 45)] [(36, 60)] [(1, 6)] [(3, 3)]
def mgh15435 : aw_H := [(81, mgx15434)]
def mgx15436 : aw_A := ms_o [(0, 8)] [(0, 4)] ar_t32 ar_t32 [(0, 180)] [(46, 46)] [(36, 60)] [(1, 6)] [(3, 3)]
def mgh15437 : aw_H := [(81, mgx15436)]
def mgx15438 : aw_A := ms_o [(0, 8)] [(0, 4)] ar_t32 ar_t32 [(0, 180)] [(47, 47)] [(36, 60)] [(1, 6)] [(3, 3)]
def mgh15439 : aw_H := [(81, mgx15438)]
def mgx15440 : aw_A := ms_o [(0, 8)] [(0, 4)] ar_t32 ar_t32 [(0, 180)] [(48, 48)] [(36, 60)] [(1, 6)] [(3, 3)]
def mgh15441 : aw_H := [(81, mgx15440)]
def mgx15442 : aw_A := ms_o [(0, 8)] [(0, 4)] ar_t32 ar_t32 [(0, 180)] [(49, 49)] [(36, 60)] [(1, 6)] [(3, 3)]
def mgh15443 : aw_H := [(81, mgx15442)]
def mgx15444 : aw_A := ms_o [(0, 8)] [(0, 4)] ar_t32 ar_t32 [(0, 180)] [(50, 50)] [(36, 60)] [(1, 6)] [(3, 3)]
def mgh15445 : aw_H := [(81, mgx15444)]
def mgx15446 : aw_A := ms_o [(0, 8)] [(0, 4)] ar_t32 ar_t32 [(0, 180)] [(51, 51)] [(36, 60)] [(1, 6)] [(3, 3)]
def mgh15447 : aw_H := [(81, mgx15446)]
def mgx15448 : aw_A := ms_o [(0, 8)] [(0, 4)] ar_t32 ar_t32 [(0, 180)] [(52, 52)] [(36, 60)] [(1, 6)] [(3, 3)]
def mgh15449 : aw_H := [(81, mgx15448)]
def mgx15450 : aw_A := ms_o [(0, 8)] [(0, 4)] ar_t32 ar_t32 [(0, 180)] [(53, 53)] [(36, 60)] [(1, 6)] [(3, 3)]
def mgh15451 : aw_H := [(81, mgx15450)]
def mgx15452 : aw_A := ms_o [(0, 8)] [(0, 4)] ar_t32 ar_t32 [(0, 180)] [(54, 54)] [(36, 60)] [(1, 6)] [(3, 3)]
def mgh15453 : aw_H := [(81, mgx15452)]
def mgx15454 : aw_A := ms_o [(0, 8)] [(0, 4)] ar_t32 ar_t32 [(0, 180)] [(55, 55)] [(36, 60)] [(1, 6)] [(3, 3)]
def mgh15455 : aw_H := [(81, mgx15454)]
def mgx15456 : aw_A := ms_o [(0, 8)] [(0, 4)] ar_t32 ar_t32 [(0, 180)] [(56, 56)] [(36, 60)] [(1, 6)] [(3, 3)]
def mgh15457 : aw_H := [(81, mgx15456)]
def mgx15458 : aw_A := ms_o [(0, 8)] [(0, 4)] ar_t32 ar_t32 [(0, 180)] [(57, 57)] [(36, 60)] [(1, 6)] [(3, 3)]
def mgh15459 : aw_H := [(81, mgx15458)]
def mgx15460 : aw_A := ms_o [(0, 8)] [(0, 4)] ar_t32 ar_t32 [(0, 180)] [(58, 58)] [(36, 60)] [(1, 6)] [(3, 3)]
def mgh15461 : aw_H := [(81, mgx15460)]
def mgx15462 : aw_A := ms_o [(0, 8)] [(0, 4)] ar_t32 ar_t32 [(0, 180)] [(59, 59)] [(36, 60)] [(1, 6)] [(3, 3)]
def mgh15463 : aw_H := [(81, mgx15462)]
def mgx15464 : aw_A := ms_o [(0, 8)] [(0, 4)] ar_t32 ar_t32 [(0, 180)] [(60, 60)] [(36, 60)] [(1, 6)] [(3, 3)]
def mgh15465 : aw_H := [(81, mgx15464)]
/-- MiceRegistersModel.skip -/
def mgh15466 : aw_H := [(81, mgx15413), (90, .inr (.inl (0, 240, [], [])))]
def mgc782 : ak_C := (122, [.inl 81], mgh15466, [81], [([], none, mgh15417), ([], none, mgh15419), ([], none, mgh15421), ([], none, mgh15423), ([], none, mgh15425), ([], none, mgh15427), ([], none, mgh15429), ([], none, mgh15431), ([], none, mgh15433), ([], none, mgh15435), ([], none, mgh15437), ([], none, mgh15439), ([], none, mgh15441), ([], none, mgh15443), ([], none, mgh15445), ([], none, mgh15447), ([], none, mgh15449), ([], none, mgh15451), ([], none, mgh15453), ([], none, mgh15455), ([], none, mgh15457), ([], none, mgh15459), ([], none, mgh15461), ([], none, mgh15463), ([], none, mgh15465)])
/-- MiceRegistersModel.readsLine -/
def mgx15467 : aw_A := ms_o [(0, 8)] [(0, 4)] ar_t32 ar_t32 [(0, 180)] [(33, 33)] [(34, 60)] [(1, 5)] [(3, 3)]
def mgh15468 : aw_H := [(81, mgx15467)]
def mgc783 : ak_C := (124, [.inl 81], mgh15468, [], [([], some (.inr (false, [(0, 0)])), [])])
theorem mgk783 : ai_chk [] mgc783 (fun pc => sm_ch sm_t124 pc, sm_Kn 3 3 none, fun x => sm_lk sm_ca3 x, some .boolean) [] 3 0 [] [] 2000 [] = true := by decide +kernel
/-- MiceRegistersModel.figure -/
def mgc784 : ak_C := (125, [.inl 81, .inr (false, [(0, 0)]), .inr (false, [(0, 4)])], mgh15174, [81], [([], some (.inr (false, [(-9, -9)])), mgh14872), ([], some (.inr (false, [(0, 4)])), mgh15173)])
def mgx15469 : aw_A := ms_o [(0, 8)] [(0, 4)] ar_t32 ar_t32 [(0, 180)] [(36, 36)] [(36, 60)] [(1, 5)] [(3, 3)]
def mgh15470 : aw_H := [(81, mgx15469)]
/-- MiceRegistersModel.figure -/
def mgh15471 : aw_H := [(81, mgx15172), (90, .inr (.inl (0, 240, [], [])))]
def mgc785 : ak_C := (125, [.inl 81, .inr (false, [(1, 1)]), .inr (false, [(9, 9)])], mgh15471, [81], [([], some (.inr (false, [(-9, -9)])), mgh15173), ([], some (.inr (false, [(1, 9)])), mgh15470)])
def mgh15472 : aw_H := [(81, mgx15467), (94, mgx6868)]
def mgx15473 : aw_A := ms_o [(0, 8)] [(0, 4)] ar_t32 ar_t32 [(0, 180)] [(36, 36)] [(36, 60)] [(1, 5)] [(4, 4)]
def mgh15474 : aw_H := [(81, mgx15473), (94, mgx8150)]
def mgh15475 : aw_H := [(81, mgx15172), (94, mgx6868)]
/-- MiceRegistersModel.readsMouse -/
def mgh15476 : aw_H := [(81, mgx15467), (90, .inr (.inl (0, 240, [], []))), (94, mgx6868)]
def mgc786 : ak_C := (127, [.inl 81], mgh15476, [81, 94], [([], some (.inr (false, [(0, 0)])), mgh15472), ([], some (.inr (false, [(1, 1)])), mgh15474), ([], some (.inr (false, [(0, 0)])), mgh15475), ([], some (.inr (false, [(0, 0)])), mgh15178)])
theorem mgk786 : ai_chk [mgc46, mgc148, mgc784, mgc785] mgc786 (fun pc => sm_ch sm_t127 pc, sm_Kn 3 5 none, fun x => sm_lk sm_ca3 x, some .boolean) [81, 94] 5 0 [] [] 2000 [] = true := by decide +kernel
def mgh15477 : aw_H := [(81, mgx15473)]
def mgx15478 : aw_A := ms_o [(0, 8)] [(0, 4)] ar_t32 ar_t32 [(0, 180)] [(37, 37)] [(36, 60)] [(1, 5)] [(4, 4)]
def mgh15479 : aw_H := [(81, mgx15478)]
def mgx15480 : aw_A := ms_o [(0, 8)] [(0, 4)] ar_t32 ar_t32 [(0, 180)] [(38, 38)] [(36, 60)] [(1, 5)] [(4, 4)]
def mgh15481 : aw_H := [(81, mgx15480)]
def mgx15482 : aw_A := ms_o [(0, 8)] [(0, 4)] ar_t32 ar_t32 [(0, 180)] [(39, 39)] [(36, 60)] [(1, 5)] [(4, 4)]
def mgh15483 : aw_H := [(81, mgx15482)]
def mgx15484 : aw_A := ms_o [(0, 8)] [(0, 4)] ar_t32 ar_t32 [(0, 180)] [(40, 40)] [(36, 60)] [(1, 5)] [(4, 4)]
def mgh15485 : aw_H := [(81, mgx15484)]
def mgx15486 : aw_A := ms_o [(0, 8)] [(0, 4)] ar_t32 ar_t32 [(0, 180)] [(41, 41)] [(36, 60)] [(1, 5)] [(4, 4)]
def mgh15487 : aw_H := [(81, mgx15486)]
def mgx15488 : aw_A := ms_o [(0, 8)] [(0, 4)] ar_t32 ar_t32 [(0, 180)] [(42, 42)] [(36, 60)] [(1, 5)] [(4, 4)]
def mgh15489 : aw_H := [(81, mgx15488)]
def mgx15490 : aw_A := ms_o [(0, 8)] [(0, 4)] ar_t32 ar_t32 [(0, 180)] [(43, 43)] [(36, 60)] [(1, 5)] [(4, 4)]
def mgh15491 : aw_H := [(81, mgx15490)]
def mgx15492 : aw_A := ms_o [(0, 8)] [(0, 4)] ar_t32 ar_t32 [(0, 180)] [(44, 44)] [(36, 60)] [(1, 5)] [(4, 4)]
def mgh15493 : aw_H := [(81, mgx15492)]
def mgx15494 : aw_A := ms_o [(0, 8)] [(0, 4)] ar_t32 ar_t32 [(0, 180)] [(45, 45)] [(36, 60)] [(1, 5)] [(4, 4)]
def mgh15495 : aw_H := [(81, mgx15494)]
def mgx15496 : aw_A := ms_o [(0, 8)] [(0, 4)] ar_t32 ar_t32 [(0, 180)] [(46, 46)] [(36, 60)] [(1, 5)] [(4, 4)]
def mgh15497 : aw_H := [(81, mgx15496)]
def mgx15498 : aw_A := ms_o [(0, 8)] [(0, 4)] ar_t32 ar_t32 [(0, 180)] [(47, 47)] [(36, 60)] [(1, 5)] [(4, 4)]
def mgh15499 : aw_H := [(81, mgx15498)]
def mgx15500 : aw_A := ms_o [(0, 8)] [(0, 4)] ar_t32 ar_t32 [(0, 180)] [(48, 48)] [(36, 60)] [(1, 5)] [(4, 4)]
def mgh15501 : aw_H := [(81, mgx15500)]
def mgx15502 : aw_A := ms_o [(0, 8)] [(0, 4)] ar_t32 ar_t32 [(0, 180)] [(49, 49)] [(36, 60)] [(1, 5)] [(4, 4)]
def mgh15503 : aw_H := [(81, mgx15502)]
def mgx15504 : aw_A := ms_o [(0, 8)] [(0, 4)] ar_t32 ar_t32 [(0, 180)] [(50, 50)] [(36, 60)] [(1, 5)] [(4, 4)]
def mgh15505 : aw_H := [(81, mgx15504)]
def mgx15506 : aw_A := ms_o [(0, 8)] [(0, 4)] ar_t32 ar_t32 [(0, 180)] [(51, 51)] [(36, 60)] [(1, 5)] [(4, 4)]
def mgh15507 : aw_H := [(81, mgx15506)]
def mgx15508 : aw_A := ms_o [(0, 8)] [(0, 4)] ar_t32 ar_t32 [(0, 180)] [(52, 52)] [(36, 60)] [(1, 5)] [(4, 4)]
def mgh15509 : aw_H := [(81, mgx15508)]
def mgx15510 : aw_A := ms_o [(0, 8)] [(0, 4)] ar_t32 ar_t32 [(0, 180)] [(53, 53)] [(36, 60)] [(1, 5)] [(4, 4)]
def mgh15511 : aw_H := [(81, mgx15510)]
def mgx15512 : aw_A := ms_o [(0, 8)] [(0, 4)] ar_t32 ar_t32 [(0, 180)] [(54, 54)] [(36, 60)] [(1, 5)] [(4, 4)]
def mgh15513 : aw_H := [(81, mgx15512)]
def mgx15514 : aw_A := ms_o [(0, 8)] [(0, 4)] ar_t32 ar_t32 [(0, 180)] [(55, 55)] [(36, 60)] [(1, 5)] [(4, 4)]
def mgh15515 : aw_H := [(81, mgx15514)]
def mgx15516 : aw_A := ms_o [(0, 8)] [(0, 4)] ar_t32 ar_t32 [(0, 180)] [(56, 56)] [(36, 60)] [(1, 5)] [(4, 4)]
def mgh15517 : aw_H := [(81, mgx15516)]
def mgx15518 : aw_A := ms_o [(0, 8)] [(0, 4)] ar_t32 ar_t32 [(0, 180)] [(57, 57)] [(36, 60)] [(1, 5)] [(4, 4)]
def mgh15519 : aw_H := [(81, mgx15518)]
def mgx15520 : aw_A := ms_o [(0, 8)] [(0, 4)] ar_t32 ar_t32 [(0, 180)] [(58, 58)] [(36, 60)] [(1, 5)] [(4, 4)]
def mgh15521 : aw_H := [(81, mgx15520)]
def mgx15522 : aw_A := ms_o [(0, 8)] [(0, 4)] ar_t32 ar_t32 [(0, 180)] [(59, 59)] [(36, 60)] [(1, 5)] [(4, 4)]
def mgh15523 : aw_H := [(81, mgx15522)]
def mgx15524 : aw_A := ms_o [(0, 8)] [(0, 4)] ar_t32 ar_t32 [(0, 180)] [(60, 60)] [(36, 60)] [(1, 5)] [(4, 4)]
def mgh15525 : aw_H := [(81, mgx15524)]
/-- MiceRegistersModel.skip -/
def mgh15526 : aw_H := [(81, mgx15473), (90, .inr (.inl (0, 240, [], [])))]
def mgc787 : ak_C := (122, [.inl 81], mgh15526, [81], [([], none, mgh15477), ([], none, mgh15479), ([], none, mgh15481), ([], none, mgh15483), ([], none, mgh15485), ([], none, mgh15487), ([], none, mgh15489), ([], none, mgh15491), ([], none, mgh15493), ([], none, mgh15495), ([], none, mgh15497), ([], none, mgh15499), ([], none, mgh15501), ([], none, mgh15503), ([], none, mgh15505), ([], none, mgh15507), ([], none, mgh15509), ([], none, mgh15511), ([], none, mgh15513), ([], none, mgh15515), ([], none, mgh15517), ([], none, mgh15519), ([], none, mgh15521), ([], none, mgh15523), ([], none, mgh15525)])
/-- MiceRegistersModel.readsLine -/
def mgx15527 : aw_A := ms_o [(0, 8)] [(0, 4)] ar_t32 ar_t32 [(0, 180)] [(33, 33)] [(34, 60)] [(1, 5)] [(4, 4)]
def mgh15528 : aw_H := [(81, mgx15527)]
def mgc788 : ak_C := (124, [.inl 81], mgh15528, [], [([], some (.inr (false, [(0, 0)])), [])])
theorem mgk788 : ai_chk [] mgc788 (fun pc => sm_ch sm_t124 pc, sm_Kn 3 3 none, fun x => sm_lk sm_ca3 x, some .boolean) [] 3 0 [] [] 2000 [] = true := by decide +kernel
/-- MiceRegistersModel.readsMouse -/
def mgh15529 : aw_H := [(81, mgx15527), (90, .inr (.inl (0, 240, [], [])))]
def mgc789 : ak_C := (127, [.inl 81], mgh15529, [], [([], some (.inr (false, [(0, 0)])), [])])
theorem mgk789 : ai_chk [mgc46, mgc148] mgc789 (fun pc => sm_ch sm_t127 pc, sm_Kn 3 5 none, fun x => sm_lk sm_ca3 x, some .boolean) [] 5 0 [] [] 2000 [] = true := by decide +kernel
def mgx15530 : aw_A := ms_o [(0, 8)] [(0, 4)] ar_t32 ar_t32 [(0, 180)] [(38, 38)] [(38, 60)] [(0, 7)] [(0, 0)]
def mgh15531 : aw_H := [(81, mgx15530)]
/-- MiceRegistersModel.figure -/
def mgh15532 : aw_H := [(81, mgx15235), (90, .inr (.inl (0, 240, [], [])))]
def mgc790 : ak_C := (125, [.inl 81, .inr (false, [(0, 0)]), .inr (false, [(9, 9)])], mgh15532, [81], [([], some (.inr (false, [(-9, -9)])), mgh15236), ([], some (.inr (false, [(0, 9)])), mgh15531)])
/-- MiceRegistersModel.twoFigures -/
def mgc791 : ak_C := (126, [.inl 81, .inr (false, [(1, 1)]), .inr (false, [(40, 40)])], mgh15237, [81], [([], some (.inr (false, [(-9, -9)])), mgh14935), ([], some (.inr (false, [(0, 99)])), mgh15531), ([], some (.inr (false, [(-9, -9)])), mgh15236)])
theorem mgk791 : ai_chk [mgc765, mgc790, mgc144] mgc791 (fun pc => sm_ch sm_t126 pc, sm_Kn 3 6 none, fun x => sm_lk sm_ca3 x, some .int) [81] 6 0 [] [] 2000 [] = true := by decide +kernel
def mgh15533 : aw_H := [(81, mgx15235), (92, .inr (.inl (0, 8, [], []))), (93, .inr (.inl (0, 8, [], [])))]
def mgx15534 : aw_A := ms_o [(0, 8)] [(0, 4)] ar_t32 ar_t32 [(0, 180)] [(38, 38)] [(38, 60)] [(1, 8)] [(0, 0)]
def mgh15535 : aw_H := [(81, mgx15534), (92, .inr (.inl (0, 8, [], []))), (93, .inr (.inl (0, 8, [], [])))]
def mgx15536 : aw_A := ms_o [(0, 8)] [(0, 4)] ar_t32 ar_t32 [(0, 180)] [(34, 34)] [(35, 60)] [(8, 8)] [(0, 0)]
def mgh15537 : aw_H := [(81, mgx15536), (92, .inr (.inl (0, 8, [], []))), (93, .inr (.inl (0, 8, [], [])))]
/-- MiceRegistersModel.readsLine -/
def mgx15538 : aw_A := ms_o [(0, 8)] [(0, 4)] ar_t32 ar_t32 [(0, 180)] [(34, 34)] [(35, 60)] [(0, 8)] [(0, 0)]
def mgh15539 : aw_H := [(81, mgx15538), (90, .inr (.inl (0, 240, [], []))), (92, .inr (.inl (0, 8, [], []))), (93, .inr (.inl (0, 8, [], [])))]
def mgc792 : ak_C := (124, [.inl 81], mgh15539, [81, 92, 93], [([], some (.inr (false, [(0, 0)])), mgh15533), ([], some (.inr (false, [(1, 1)])), mgh15535), ([], some (.inr (false, [(0, 0)])), mgh15238), ([], some (.inr (false, [(0, 0)])), mgh14937), ([], some (.inr (false, [(0, 0)])), mgh15537)])
theorem mgk792 : ai_chk [mgc740, mgc791] mgc792 (fun pc => sm_ch sm_t124 pc, sm_Kn 3 3 none, fun x => sm_lk sm_ca3 x, some .boolean) [81, 92, 93] 3 0 [] [] 2000 [] = true := by decide +kernel
def mgh15540 : aw_H := [(81, mgx15534)]
def mgx15541 : aw_A := ms_o [(0, 8)] [(0, 4)] ar_t32 ar_t32 [(0, 180)] [(39, 39)] [(38, 60)] [(1, 8)] [(0, 0)]
def mgh15542 : aw_H := [(81, mgx15541)]
def mgx15543 : aw_A := ms_o [(0, 8)] [(0, 4)] ar_t32 ar_t32 [(0, 180)] [(40, 40)] [(38, 60)] [(1, 8)] [(0, 0)]
def mgh15544 : aw_H := [(81, mgx15543)]
def mgx15545 : aw_A := ms_o [(0, 8)] [(0, 4)] ar_t32 ar_t32 [(0, 180)] [(41, 41)] [(38, 60)] [(1, 8)] [(0, 0)]
def mgh15546 : aw_H := [(81, mgx15545)]
def mgx15547 : aw_A := ms_o [(0, 8)] [(0, 4)] ar_t32 ar_t32 [(0, 180)] [(42, 42)] [(38, 60)] [(1, 8)] [(0, 0)]
def mgh15548 : aw_H := [(81, mgx15547)]
def mgx15549 : aw_A := ms_o [(0, 8)] [(0, 4)] ar_t32 ar_t32 [(0, 180)] [(43, 43)] [(38, 60)] [(1, 8)] [(0, 0)]
def mgh15550 : aw_H := [(81, mgx15549)]
def mgx15551 : aw_A := ms_o [(0, 8)] [(0, 4)] ar_t32 ar_t32 [(0, 180)] [(44, 44)] [(38, 60)] [(1, 8)] [(0, 0)]
def mgh15552 : aw_H := [(81, mgx15551)]
def mgx15553 : aw_A := ms_o [(0, 8)] [(0, 4)] ar_t32 ar_t32 [(0, 180)] [(45, 45)] [(38, 60)] [(1, 8)] [(0, 0)]
def mgh15554 : aw_H := [(81, mgx15553)]
def mgx15555 : aw_A := ms_o [(0, 8)] [(0, 4)] ar_t32 ar_t32 [(0, 180)] [(46, 46)] [(38, 60)] [(1, 8)] [(0, 0)]
def mgh15556 : aw_H := [(81, mgx15555)]
def mgx15557 : aw_A := ms_o [(0, 8)] [(0, 4)] ar_t32 ar_t32 [(0, 180)] [(47, 47)] [(38, 60)] [(1, 8)] [(0, 0)]
def mgh15558 : aw_H := [(81, mgx15557)]
def mgx15559 : aw_A := ms_o [(0, 8)] [(0, 4)] ar_t32 ar_t32 [(0, 180)] [(48, 48)] [(38, 60)] [(1, 8)] [(0, 0)]
def mgh15560 : aw_H := [(81, mgx15559)]
def mgx15561 : aw_A := ms_o [(0, 8)] [(0, 4)] ar_t32 ar_t32 [(0, 180)] [(49, 49)] [(38, 60)] [(1, 8)] [(0, 0)]
def mgh15562 : aw_H := [(81, mgx15561)]
def mgx15563 : aw_A := ms_o [(0, 8)] [(0, 4)] ar_t32 ar_t32 [(0, 180)] [(50, 50)] [(38, 60)] [(1, 8)] [(0, 0)]
def mgh15564 : aw_H := [(81, mgx15563)]
def mgx15565 : aw_A := ms_o [(0, 8)] [(0, 4)] ar_t32 ar_t32 [(0, 180)] [(51, 51)] [(38, 60)] [(1, 8)] [(0, 0)]
def mgh15566 : aw_H := [(81, mgx15565)]
def mgx15567 : aw_A := ms_o [(0, 8)] [(0, 4)] ar_t32 ar_t32 [(0, 180)] [(52, 52)] [(38, 60)] [(1, 8)] [(0, 0)]
def mgh15568 : aw_H := [(81, mgx15567)]
def mgx15569 : aw_A := ms_o [(0, 8)] [(0, 4)] ar_t32 ar_t32 [(0, 180)] [(53, 53)] [(38, 60)] [(1, 8)] [(0, 0)]
def mgh15570 : aw_H := [(81, mgx15569)]
def mgx15571 : aw_A := ms_o [(0, 8)] [(0, 4)] ar_t32 ar_t32 [(0, 180)] [(54, 54)] [(38, 60)] [(1, 8)] [(0, 0)]
def mgh15572 : aw_H := [(81, mgx15571)]
def mgx15573 : aw_A := ms_o [(0, 8)] [(0, 4)] ar_t32 ar_t32 [(0, 180)] [(55, 55)] [(38, 60)] [(1, 8)] [(0, 0)]
def mgh15574 : aw_H := [(81, mgx15573)]
def mgx15575 : aw_A := ms_o [(0, 8)] [(0, 4)] ar_t32 ar_t32 [(0, 180)] [(56, 56)] [(38, 60)] [(1, 8)] [(0, 0)]
def mgh15576 : aw_H := [(81, mgx15575)]
def mgx15577 : aw_A := ms_o [(0, 8)] [(0, 4)] ar_t32 ar_t32 [(0, 180)] [(57, 57)] [(38, 60)] [(1, 8)] [(0, 0)]
def mgh15578 : aw_H := [(81, mgx15577)]
def mgx15579 : aw_A := ms_o [(0, 8)] [(0, 4)] ar_t32 ar_t32 [(0, 180)] [(58, 58)] [(38, 60)] [(1, 8)] [(0, 0)]
def mgh15580 : aw_H := [(81, mgx15579)]
def mgx15581 : aw_A := ms_o [(0, 8)] [(0, 4)] ar_t32 ar_t32 [(0, 180)] [(59, 59)] [(38, 60)] [(1, 8)] [(0, 0)]
def mgh15582 : aw_H := [(81, mgx15581)]
def mgx15583 : aw_A := ms_o [(0, 8)] [(0, 4)] ar_t32 ar_t32 [(0, 180)] [(60, 60)] [(38, 60)] [(1, 8)] [(0, 0)]
def mgh15584 : aw_H := [(81, mgx15583)]
/-- MiceRegistersModel.skip -/
def mgh15585 : aw_H := [(81, mgx15534), (90, .inr (.inl (0, 240, [], [])))]
def mgc793 : ak_C := (122, [.inl 81], mgh15585, [81], [([], none, mgh15540), ([], none, mgh15542), ([], none, mgh15544), ([], none, mgh15546), ([], none, mgh15548), ([], none, mgh15550), ([], none, mgh15552), ([], none, mgh15554), ([], none, mgh15556), ([], none, mgh15558), ([], none, mgh15560), ([], none, mgh15562), ([], none, mgh15564), ([], none, mgh15566), ([], none, mgh15568), ([], none, mgh15570), ([], none, mgh15572), ([], none, mgh15574), ([], none, mgh15576), ([], none, mgh15578), ([], none, mgh15580), ([], none, mgh15582), ([], none, mgh15584)])
/-- MiceRegistersModel.figure -/
def mgc794 : ak_C := (125, [.inl 81, .inr (false, [(0, 0)]), .inr (false, [(0, 7)])], mgh14682, [81], [([], some (.inr (false, [(-9, -9)])), mgh14631), ([], some (.inr (false, [(0, 7)])), mgh14942)])
/-- MiceRegistersModel.figure -/
def mgc795 : ak_C := (125, [.inl 81, .inr (false, [(1, 1)]), .inr (false, [(9, 9)])], mgh14991, [81], [([], some (.inr (false, [(-9, -9)])), mgh14942), ([], some (.inr (false, [(1, 9)])), mgh15245)])
def mgh15586 : aw_H := [(81, mgx15538), (94, mgx5049)]
def mgx15587 : aw_A := ms_o [(0, 8)] [(0, 4)] ar_t32 ar_t32 [(0, 180)] [(37, 37)] [(37, 60)] [(1, 8)] [(1, 1)]
def mgh15588 : aw_H := [(81, mgx15587), (94, mgx5052)]
def mgh15589 : aw_H := [(81, mgx14938), (94, mgx5049)]
/-- MiceRegistersModel.readsMouse -/
def mgh15590 : aw_H := [(81, mgx15538), (90, .inr (.inl (0, 240, [], []))), (94, mgx5049)]
def mgc796 : ak_C := (127, [.inl 81], mgh15590, [81, 94], [([], some (.inr (false, [(0, 0)])), mgh15586), ([], some (.inr (false, [(1, 1)])), mgh15588), ([], some (.inr (false, [(0, 0)])), mgh15589), ([], some (.inr (false, [(0, 0)])), mgh15296)])
theorem mgk796 : ai_chk [mgc45, mgc148, mgc794, mgc795] mgc796 (fun pc => sm_ch sm_t127 pc, sm_Kn 3 5 none, fun x => sm_lk sm_ca3 x, some .boolean) [81, 94] 5 0 [] [] 2000 [] = true := by decide +kernel
def mgh15591 : aw_H := [(81, mgx15587)]
def mgx15592 : aw_A := ms_o [(0, 8)] [(0, 4)] ar_t32 ar_t32 [(0, 180)] [(38, 38)] [(37, 60)] [(1, 8)] [(1, 1)]
def mgh15593 : aw_H := [(81, mgx15592)]
def mgx15594 : aw_A := ms_o [(0, 8)] [(0, 4)] ar_t32 ar_t32 [(0, 180)] [(39, 39)] [(37, 60)] [(1, 8)] [(1, 1)]
def mgh15595 : aw_H := [(81, mgx15594)]
def mgx15596 : aw_A := ms_o [(0, 8)] [(0, 4)] ar_t32 ar_t32 [(0, 180)] [(40, 40)] [(37, 60)] [(1, 8)] [(1, 1)]
def mgh15597 : aw_H := [(81, mgx15596)]
def mgx15598 : aw_A := ms_o [(0, 8)] [(0, 4)] ar_t32 ar_t32 [(0, 180)] [(41, 41)] [(37, 60)] [(1, 8)] [(1, 1)]
def mgh15599 : aw_H := [(81, mgx15598)]
def mgx15600 : aw_A := ms_o [(0, 8)] [(0, 4)] ar_t32 ar_t32 [(0, 180)] [(42, 42)] [(37, 60)] [(1, 8)] [(1, 1)]
def mgh15601 : aw_H := [(81, mgx15600)]
def mgx15602 : aw_A := ms_o [(0, 8)] [(0, 4)] ar_t32 ar_t32 [(0, 180)] [(43, 43)] [(37, 60)] [(1, 8)] [(1, 1)]
def mgh15603 : aw_H := [(81, mgx15602)]
def mgx15604 : aw_A := ms_o [(0, 8)] [(0, 4)] ar_t32 ar_t32 [(0, 180)] [(44, 44)] [(37, 60)] [(1, 8)] [(1, 1)]
def mgh15605 : aw_H := [(81, mgx15604)]
def mgx15606 : aw_A := ms_o [(0, 8)] [(0, 4)] ar_t32 ar_t32 [(0, 180)] [(45, 45)] [(37, 60)] [(1, 8)] [(1, 1)]
def mgh15607 : aw_H := [(81, mgx15606)]
def mgx15608 : aw_A := ms_o [(0, 8)] [(0, 4)] ar_t32 ar_t32 [(0, 180)] [(46, 46)] [(37, 60)] [(1, 8)] [(1, 1)]
def mgh15609 : aw_H := [(81, mgx15608)]
def mgx15610 : aw_A := ms_o [(0, 8)] [(0, 4)] ar_t32 ar_t32 [(0, 180)] [(47, 47)] [(37, 60)] [(1, 8)] [(1, 1)]
def mgh15611 : aw_H := [(81, mgx15610)]
def mgx15612 : aw_A := ms_o [(0, 8)] [(0, 4)] ar_t32 ar_t32 [(0, 180)] [(48, 48)] [(37, 60)] [(1, 8)] [(1, 1)]
def mgh15613 : aw_H := [(81, mgx15612)]
def mgx15614 : aw_A := ms_o [(0, 8)] [(0, 4)] ar_t32 ar_t32 [(0, 180)] [(49, 49)] [(37, 60)] [(1, 8)] [(1, 1)]
def mgh15615 : aw_H := [(81, mgx15614)]
def mgx15616 : aw_A := ms_o [(0, 8)] [(0, 4)] ar_t32 ar_t32 [(0, 180)] [(50, 50)] [(37, 60)] [(1, 8)] [(1, 1)]
def mgh15617 : aw_H := [(81, mgx15616)]
def mgx15618 : aw_A := ms_o [(0, 8)] [(0, 4)] ar_t32 ar_t32 [(0, 180)] [(51, 51)] [(37, 60)] [(1, 8)] [(1, 1)]
def mgh15619 : aw_H := [(81, mgx15618)]
def mgx15620 : aw_A := ms_o [(0, 8)] [(0, 4)] ar_t32 ar_t32 [(0, 180)] [(52, 52)] [(37, 60)] [(1, 8)] [(1, 1)]
def mgh15621 : aw_H := [(81, mgx15620)]
def mgx15622 : aw_A := ms_o [(0, 8)] [(0, 4)] ar_t32 ar_t32 [(0, 180)] [(53, 53)] [(37, 60)] [(1, 8)] [(1, 1)]
def mgh15623 : aw_H := [(81, mgx15622)]
def mgx15624 : aw_A := ms_o [(0, 8)] [(0, 4)] ar_t32 ar_t32 [(0, 180)] [(54, 54)] [(37, 60)] [(1, 8)] [(1, 1)]
def mgh15625 : aw_H := [(81, mgx15624)]
def mgx15626 : aw_A := ms_o [(0, 8)] [(0, 4)] ar_t32 ar_t32 [(0, 180)] [(55, 55)] [(37, 60)] [(1, 8)] [(1, 1)]
def mgh15627 : aw_H := [(81, mgx15626)]
def mgx15628 : aw_A := ms_o [(0, 8)] [(0, 4)] ar_t32 ar_t32 [(0, 180)] [(56, 56)] [(37, 60)] [(1, 8)] [(1, 1)]
def mgh15629 : aw_H := [(81, mgx15628)]
def mgx15630 : aw_A := ms_o [(0, 8)] [(0, 4)] ar_t32 ar_t32 [(0, 180)] [(57, 57)] [(37, 60)] [(1, 8)] [(1, 1)]
def mgh15631 : aw_H := [(81, mgx15630)]
def mgx15632 : aw_A := ms_o [(0, 8)] [(0, 4)] ar_t32 ar_t32 [(0, 180)] [(58, 58)] [(37, 60)] [(1, 8)] [(1, 1)]
def mgh15633 : aw_H := [(81, mgx15632)]
def mgx15634 : aw_A := ms_o [(0, 8)] [(0, 4)] ar_t32 ar_t32 [(0, 180)] [(59, 59)] [(37, 60)] [(1, 8)] [(1, 1)]
def mgh15635 : aw_H := [(81, mgx15634)]
def mgx15636 : aw_A := ms_o [(0, 8)] [(0, 4)] ar_t32 ar_t32 [(0, 180)] [(60, 60)] [(37, 60)] [(1, 8)] [(1, 1)]
def mgh15637 : aw_H := [(81, mgx15636)]
/-- MiceRegistersModel.skip -/
def mgh15638 : aw_H := [(81, mgx15587), (90, .inr (.inl (0, 240, [], [])))]
def mgc797 : ak_C := (122, [.inl 81], mgh15638, [81], [([], none, mgh15591), ([], none, mgh15593), ([], none, mgh15595), ([], none, mgh15597), ([], none, mgh15599), ([], none, mgh15601), ([], none, mgh15603), ([], none, mgh15605), ([], none, mgh15607), ([], none, mgh15609), ([], none, mgh15611), ([], none, mgh15613), ([], none, mgh15615), ([], none, mgh15617), ([], none, mgh15619), ([], none, mgh15621), ([], none, mgh15623), ([], none, mgh15625), ([], none, mgh15627), ([], none, mgh15629), ([], none, mgh15631), ([], none, mgh15633), ([], none, mgh15635), ([], none, mgh15637)])
/-- MiceRegistersModel.readsLine -/
def mgx15639 : aw_A := ms_o [(0, 8)] [(0, 4)] ar_t32 ar_t32 [(0, 180)] [(34, 34)] [(35, 60)] [(1, 7)] [(1, 1)]
def mgh15640 : aw_H := [(81, mgx15639)]
def mgc798 : ak_C := (124, [.inl 81], mgh15640, [], [([], some (.inr (false, [(0, 0)])), [])])
theorem mgk798 : ai_chk [] mgc798 (fun pc => sm_ch sm_t124 pc, sm_Kn 3 3 none, fun x => sm_lk sm_ca3 x, some .boolean) [] 3 0 [] [] 2000 [] = true := by decide +kernel
/-- MiceRegistersModel.figure -/
def mgc799 : ak_C := (125, [.inl 81, .inr (false, [(0, 0)]), .inr (false, [(0, 6)])], mgh15051, [81], [([], some (.inr (false, [(-9, -9)])), mgh15000), ([], some (.inr (false, [(0, 6)])), mgh15352)])
def mgx15641 : aw_A := ms_o [(0, 8)] [(0, 4)] ar_t32 ar_t32 [(0, 180)] [(37, 37)] [(37, 60)] [(1, 7)] [(1, 1)]
def mgh15642 : aw_H := [(81, mgx15641)]
/-- MiceRegistersModel.figure -/
def mgh15643 : aw_H := [(81, mgx15351), (90, .inr (.inl (0, 240, [], [])))]
def mgc800 : ak_C := (125, [.inl 81, .inr (false, [(1, 1)]), .inr (false, [(9, 9)])], mgh15643, [81], [([], some (.inr (false, [(-9, -9)])), mgh15352), ([], some (.inr (false, [(1, 9)])), mgh15642)])
def mgh15644 : aw_H := [(81, mgx15639), (94, mgx5052)]
def mgx15645 : aw_A := ms_o [(0, 8)] [(0, 4)] ar_t32 ar_t32 [(0, 180)] [(37, 37)] [(37, 60)] [(1, 7)] [(2, 2)]
def mgh15646 : aw_H := [(81, mgx15645), (94, mgx5820)]
def mgh15647 : aw_H := [(81, mgx15351), (94, mgx5052)]
/-- MiceRegistersModel.readsMouse -/
def mgh15648 : aw_H := [(81, mgx15639), (90, .inr (.inl (0, 240, [], []))), (94, mgx5052)]
def mgc801 : ak_C := (127, [.inl 81], mgh15648, [81, 94], [([], some (.inr (false, [(0, 0)])), mgh15644), ([], some (.inr (false, [(1, 1)])), mgh15646), ([], some (.inr (false, [(0, 0)])), mgh15647), ([], some (.inr (false, [(0, 0)])), mgh14997)])
theorem mgk801 : ai_chk [mgc45, mgc148, mgc799, mgc800] mgc801 (fun pc => sm_ch sm_t127 pc, sm_Kn 3 5 none, fun x => sm_lk sm_ca3 x, some .boolean) [81, 94] 5 0 [] [] 2000 [] = true := by decide +kernel
def mgh15649 : aw_H := [(81, mgx15645)]
def mgx15650 : aw_A := ms_o [(0, 8)] [(0, 4)] ar_t32 ar_t32 [(0, 180)] [(38, 38)] [(37, 60)] [(1, 7)] [(2, 2)]
def mgh15651 : aw_H := [(81, mgx15650)]
def mgx15652 : aw_A := ms_o [(0, 8)] [(0, 4)] ar_t32 ar_t32 [(0, 180)] [(39, 39)] [(37, 60)] [(1, 7)] [(2, 2)]
def mgh15653 : aw_H := [(81, mgx15652)]
def mgx15654 : aw_A := ms_o [(0, 8)] [(0, 4)] ar_t32 ar_t32 [(0, 180)] [(40, 40)] [(37, 60)] [(1, 7)] [(2, 2)]
def mgh15655 : aw_H := [(81, mgx15654)]
def mgx15656 : aw_A := ms_o [(0, 8)] [(0, 4)] ar_t32 ar_t32 [(0, 180)] [(41, 41)] [(37, 60)] [(1, 7)] [(2, 2)]
def mgh15657 : aw_H := [(81, mgx15656)]
def mgx15658 : aw_A := ms_o [(0, 8)] [(0, 4)] ar_t32 ar_t32 [(0, 180)] [(42, 42)] [(37, 60)] [(1, 7)] [(2, 2)]
def mgh15659 : aw_H := [(81, mgx15658)]
def mgx15660 : aw_A := ms_o [(0, 8)] [(0, 4)] ar_t32 ar_t32 [(0, 180)] [(43, 43)] [(37, 60)] [(1, 7)] [(2, 2)]
def mgh15661 : aw_H := [(81, mgx15660)]
def mgx15662 : aw_A := ms_o [(0, 8)] [(0, 4)] ar_t32 ar_t32 [(0, 180)] [(44, 44)] [(37, 60)] [(1, 7)] [(2, 2)]
def mgh15663 : aw_H := [(81, mgx15662)]
def mgx15664 : aw_A := ms_o [(0, 8)] [(0, 4)] ar_t32 ar_t32 [(0, 180)] [(45, 45)] [(37, 60)] [(1, 7)] [(2, 2)]
def mgh15665 : aw_H := [(81, mgx15664)]
def mgx15666 : aw_A := ms_o [(0, 8)] [(0, 4)] ar_t32 ar_t32 [(0, 180)] [(46, 46)] [(37, 60)] [(1, 7)] [(2, 2)]
def mgh15667 : aw_H := [(81, mgx15666)]
def mgx15668 : aw_A := ms_o [(0, 8)] [(0, 4)] ar_t32 ar_t32 [(0, 180)] [(47, 47)] [(37, 60)] [(1, 7)] [(2, 2)]
def mgh15669 : aw_H := [(81, mgx15668)]
def mgx15670 : aw_A := ms_o [(0, 8)] [(0, 4)] ar_t32 ar_t32 [(0, 180)] [(48, 48)] [(37, 60)] [(1, 7)] [(2, 2)]
def mgh15671 : aw_H := [(81, mgx15670)]
def mgx15672 : aw_A := ms_o [(0, 8)] [(0, 4)] ar_t32 ar_t32 [(0, 180)] [(49, 49)] [(37, 60)] [(1, 7)] [(2, 2)]
def mgh15673 : aw_H := [(81, mgx15672)]
def mgx15674 : aw_A := ms_o [(0, 8)] [(0, 4)] ar_t32 ar_t32 [(0, 180)] [(50, 50)] [(37, 60)] [(1, 7)] [(2, 2)]
def mgh15675 : aw_H := [(81, mgx15674)]
def mgx15676 : aw_A := ms_o [(0, 8)] [(0, 4)] ar_t32 ar_t32 [(0, 180)] [(51, 51)] [(37, 60)] [(1, 7)] [(2, 2)]
def mgh15677 : aw_H := [(81, mgx15676)]
def mgx15678 : aw_A := ms_o [(0, 8)] [(0, 4)] ar_t32 ar_t32 [(0, 180)] [(52, 52)] [(37, 60)] [(1, 7)] [(2, 2)]
def mgh15679 : aw_H := [(81, mgx15678)]
def mgx15680 : aw_A := ms_o [(0, 8)] [(0, 4)] ar_t32 ar_t32 [(0, 180)] [(53, 53)] [(37, 60)] [(1, 7)] [(2, 2)]
def mgh15681 : aw_H := [(81, mgx15680)]
def mgx15682 : aw_A := ms_o [(0, 8)] [(0, 4)] ar_t32 ar_t32 [(0, 180)] [(54, 54)] [(37, 60)] [(1, 7)] [(2, 2)]
def mgh15683 : aw_H := [(81, mgx15682)]
def mgx15684 : aw_A := ms_o [(0, 8)] [(0, 4)] ar_t32 ar_t32 [(0, 180)] [(55, 55)] [(37, 60)] [(1, 7)] [(2, 2)]
def mgh15685 : aw_H := [(81, mgx15684)]
def mgx15686 : aw_A := ms_o [(0, 8)] [(0, 4)] ar_t32 ar_t32 [(0, 180)] [(56, 56)] [(37, 60)] [(1, 7)] [(2, 2)]
def mgh15687 : aw_H := [(81, mgx15686)]
def mgx15688 : aw_A := ms_o [(0, 8)] [(0, 4)] ar_t32 ar_t32 [(0, 180)] [(57, 57)] [(37, 60)] [(1, 7)] [(2, 2)]
def mgh15689 : aw_H := [(81, mgx15688)]
def mgx15690 : aw_A := ms_o [(0, 8)] [(0, 4)] ar_t32 ar_t32 [(0, 180)] [(58, 58)] [(37, 60)] [(1, 7)] [(2, 2)]
def mgh15691 : aw_H := [(81, mgx15690)]
def mgx15692 : aw_A := ms_o [(0, 8)] [(0, 4)] ar_t32 ar_t32 [(0, 180)] [(59, 59)] [(37, 60)] [(1, 7)] [(2, 2)]
def mgh15693 : aw_H := [(81, mgx15692)]
def mgx15694 : aw_A := ms_o [(0, 8)] [(0, 4)] ar_t32 ar_t32 [(0, 180)] [(60, 60)] [(37, 60)] [(1, 7)] [(2, 2)]
def mgh15695 : aw_H := [(81, mgx15694)]
/-- MiceRegistersModel.skip -/
def mgh15696 : aw_H := [(81, mgx15645), (90, .inr (.inl (0, 240, [], [])))]
def mgc802 : ak_C := (122, [.inl 81], mgh15696, [81], [([], none, mgh15649), ([], none, mgh15651), ([], none, mgh15653), ([], none, mgh15655), ([], none, mgh15657), ([], none, mgh15659), ([], none, mgh15661), ([], none, mgh15663), ([], none, mgh15665), ([], none, mgh15667), ([], none, mgh15669), ([], none, mgh15671), ([], none, mgh15673), ([], none, mgh15675), ([], none, mgh15677), ([], none, mgh15679), ([], none, mgh15681), ([], none, mgh15683), ([], none, mgh15685), ([], none, mgh15687), ([], none, mgh15689), ([], none, mgh15691), ([], none, mgh15693), ([], none, mgh15695)])
/-- MiceRegistersModel.readsLine -/
def mgx15697 : aw_A := ms_o [(0, 8)] [(0, 4)] ar_t32 ar_t32 [(0, 180)] [(34, 34)] [(35, 60)] [(1, 6)] [(2, 2)]
def mgh15698 : aw_H := [(81, mgx15697)]
def mgc803 : ak_C := (124, [.inl 81], mgh15698, [], [([], some (.inr (false, [(0, 0)])), [])])
theorem mgk803 : ai_chk [] mgc803 (fun pc => sm_ch sm_t124 pc, sm_Kn 3 3 none, fun x => sm_lk sm_ca3 x, some .boolean) [] 3 0 [] [] 2000 [] = true := by decide +kernel
/-- MiceRegistersModel.figure -/
def mgc804 : ak_C := (125, [.inl 81, .inr (false, [(0, 0)]), .inr (false, [(0, 5)])], mgh15411, [81], [([], some (.inr (false, [(-9, -9)])), mgh15113), ([], some (.inr (false, [(0, 5)])), mgh15410)])
def mgx15699 : aw_A := ms_o [(0, 8)] [(0, 4)] ar_t32 ar_t32 [(0, 180)] [(37, 37)] [(37, 60)] [(1, 6)] [(2, 2)]
def mgh15700 : aw_H := [(81, mgx15699)]
/-- MiceRegistersModel.figure -/
def mgh15701 : aw_H := [(81, mgx15409), (90, .inr (.inl (0, 240, [], [])))]
def mgc805 : ak_C := (125, [.inl 81, .inr (false, [(1, 1)]), .inr (false, [(9, 9)])], mgh15701, [81], [([], some (.inr (false, [(-9, -9)])), mgh15410), ([], some (.inr (false, [(1, 9)])), mgh15700)])
def mgh15702 : aw_H := [(81, mgx15697), (94, mgx5820)]
def mgx15703 : aw_A := ms_o [(0, 8)] [(0, 4)] ar_t32 ar_t32 [(0, 180)] [(37, 37)] [(37, 60)] [(1, 6)] [(3, 3)]
def mgh15704 : aw_H := [(81, mgx15703), (94, mgx6868)]
def mgh15705 : aw_H := [(81, mgx15409), (94, mgx5820)]
/-- MiceRegistersModel.readsMouse -/
def mgh15706 : aw_H := [(81, mgx15697), (90, .inr (.inl (0, 240, [], []))), (94, mgx5820)]
def mgc806 : ak_C := (127, [.inl 81], mgh15706, [81, 94], [([], some (.inr (false, [(0, 0)])), mgh15702), ([], some (.inr (false, [(1, 1)])), mgh15704), ([], some (.inr (false, [(0, 0)])), mgh15705), ([], some (.inr (false, [(0, 0)])), mgh15415)])
theorem mgk806 : ai_chk [mgc45, mgc148, mgc804, mgc805] mgc806 (fun pc => sm_ch sm_t127 pc, sm_Kn 3 5 none, fun x => sm_lk sm_ca3 x, some .boolean) [81, 94] 5 0 [] [] 2000 [] = true := by decide +kernel
def mgh15707 : aw_H := [(81, mgx15703)]
def mgx15708 : aw_A := ms_o [(0, 8)] [(0, 4)] ar_t32 ar_t32 [(0, 180)] [(38, 38)] [(37, 60)] [(1, 6)] [(3, 3)]
def mgh15709 : aw_H := [(81, mgx15708)]
def mgx15710 : aw_A := ms_o [(0, 8)] [(0, 4)] ar_t32 ar_t32 [(0, 180)] [(39, 39)] [(37, 60)] [(1, 6)] [(3, 3)]
def mgh15711 : aw_H := [(81, mgx15710)]
def mgx15712 : aw_A := ms_o [(0, 8)] [(0, 4)] ar_t32 ar_t32 [(0, 180)] [(40, 40)] [(37, 60)] [(1, 6)] [(3, 3)]
def mgh15713 : aw_H := [(81, mgx15712)]
def mgx15714 : aw_A := ms_o [(0, 8)] [(0, 4)] ar_t32 ar_t32 [(0, 180)] [(41, 41)] [(37, 60)] [(1, 6)] [(3, 3)]
def mgh15715 : aw_H := [(81, mgx15714)]
def mgx15716 : aw_A := ms_o [(0, 8)] [(0, 4)] ar_t32 ar_t32 [(0, 180)] [(42, 42)] [(37, 60)] [(1, 6)] [(3, 3)]
def mgh15717 : aw_H := [(81, mgx15716)]
def mgx15718 : aw_A := ms_o [(0, 8)] [(0, 4)] ar_t32 ar_t32 [(0, 180)] [(43, 43)] [(37, 60)] [(1, 6)] [(3, 3)]
def mgh15719 : aw_H := [(81, mgx15718)]
def mgx15720 : aw_A := ms_o [(0, 8)] [(0, 4)] ar_t32 ar_t32 [(0, 180)] [(44, 44)] [(37, 60)] [(1, 6)] [(3, 3)]
def mgh15721 : aw_H := [(81, mgx15720)]
def mgx15722 : aw_A := ms_o [(0, 8)] [(0, 4)] ar_t32 ar_t32 [(0, 180)] [(45, 45)] [(37, 60)] [(1, 6)] [(3, 3)]
def mgh15723 : aw_H := [(81, mgx15722)]
def mgx15724 : aw_A := ms_o [(0, 8)] [(0, 4)] ar_t32 ar_t32 [(0, 180)] [(46, 46)] [(37, 60)] [(1, 6)] [(3, 3)]
def mgh15725 : aw_H := [(81, mgx15724)]
def mgx15726 : aw_A := ms_o [(0, 8)] [(0, 4)] ar_t32 ar_t32 [(0, 180)] [(47, 47)] [(37, 60)] [(1, 6)] [(3, 3)]
def mgh15727 : aw_H := [(81, mgx15726)]
def mgx15728 : aw_A := ms_o [(0, 8)] [(0, 4)] ar_t32 ar_t32 [(0, 180)] [(48, 48)] [(37, 60)] [(1, 6)] [(3, 3)]
def mgh15729 : aw_H := [(81, mgx15728)]
def mgx15730 : aw_A := ms_o [(0, 8)] [(0, 4)] ar_t32 ar_t32 [(0, 180)] [(49, 49)] [(37, 60)] [(1, 6)] [(3, 3)]
def mgh15731 : aw_H := [(81, mgx15730)]
def mgx15732 : aw_A := ms_o [(0, 8)] [(0, 4)] ar_t32 ar_t32 [(0, 180)] [(50, 50)] [(37, 60)] [(1, 6)] [(3, 3)]
def mgh15733 : aw_H := [(81, mgx15732)]
def mgx15734 : aw_A := ms_o [(0, 8)] [(0, 4)] ar_t32 ar_t32 [(0, 180)] [(51, 51)] [(37, 60)] [(1, 6)] [(3, 3)]
def mgh15735 : aw_H := [(81, mgx15734)]
def mgx15736 : aw_A := ms_o [(0, 8)] [(0, 4)] ar_t32 ar_t32 [(0, 180)] [(52, 52)] [(37, 60)] [(1, 6)] [(3, 3)]
def mgh15737 : aw_H := [(81, mgx15736)]
def mgx15738 : aw_A := ms_o [(0, 8)] [(0, 4)] ar_t32 ar_t32 [(0, 180)] [(53, 53)] [(37, 60)] [(1, 6)] [(3, 3)]
def mgh15739 : aw_H := [(81, mgx15738)]
def mgx15740 : aw_A := ms_o [(0, 8)] [(0, 4)] ar_t32 ar_t32 [(0, 180)] [(54, 54)] [(37, 60)] [(1, 6)] [(3, 3)]
def mgh15741 : aw_H := [(81, mgx15740)]
def mgx15742 : aw_A := ms_o [(0, 8)] [(0, 4)] ar_t32 ar_t32 [(0, 180)] [(55, 55)] [(37, 60)] [(1, 6)] [(3, 3)]
def mgh15743 : aw_H := [(81, mgx15742)]
def mgx15744 : aw_A := ms_o [(0, 8)] [(0, 4)] ar_t32 ar_t32 [(0, 180)] [(56, 56)] [(37, 60)] [(1, 6)] [(3, 3)]
def mgh15745 : aw_H := [(81, mgx15744)]
def mgx15746 : aw_A := ms_o [(0, 8)] [(0, 4)] ar_t32 ar_t32 [(0, 180)] [(57, 57)] [(37, 60)] [(1, 6)] [(3, 3)]
def mgh15747 : aw_H := [(81, mgx15746)]
def mgx15748 : aw_A := ms_o [(0, 8)] [(0, 4)] ar_t32 ar_t32 [(0, 180)] [(58, 58)] [(37, 60)] [(1, 6)] [(3, 3)]
def mgh15749 : aw_H := [(81, mgx15748)]
def mgx15750 : aw_A := ms_o [(0, 8)] [(0, 4)] ar_t32 ar_t32 [(0, 180)] [(59, 59)] [(37, 60)] [(1, 6)] [(3, 3)]
def mgh15751 : aw_H := [(81, mgx15750)]
def mgx15752 : aw_A := ms_o [(0, 8)] [(0, 4)] ar_t32 ar_t32 [(0, 180)] [(60, 60)] [(37, 60)] [(1, 6)] [(3, 3)]
def mgh15753 : aw_H := [(81, mgx15752)]
/-- MiceRegistersModel.skip -/
def mgh15754 : aw_H := [(81, mgx15703), (90, .inr (.inl (0, 240, [], [])))]
def mgc807 : ak_C := (122, [.inl 81], mgh15754, [81], [([], none, mgh15707), ([], none, mgh15709), ([], none, mgh15711), ([], none, mgh15713), ([], none, mgh15715), ([], none, mgh15717), ([], none, mgh15719), ([], none, mgh15721), ([], none, mgh15723), ([], none, mgh15725), ([], none, mgh15727), ([], none, mgh15729), ([], none, mgh15731), ([], none, mgh15733), ([], none, mgh15735), ([], none, mgh15737), ([], none, mgh15739), ([], none, mgh15741), ([], none, mgh15743), ([], none, mgh15745), ([], none, mgh15747), ([], none, mgh15749), ([], none, mgh15751), ([], none, mgh15753)])
/-- MiceRegistersModel.readsLine -/
def mgx15755 : aw_A := ms_o [(0, 8)] [(0, 4)] ar_t32 ar_t32 [(0, 180)] [(34, 34)] [(35, 60)] [(1, 6)] [(3, 3)]
def mgh15756 : aw_H := [(81, mgx15755)]
def mgc808 : ak_C := (124, [.inl 81], mgh15756, [], [([], some (.inr (false, [(0, 0)])), [])])
theorem mgk808 : ai_chk [] mgc808 (fun pc => sm_ch sm_t124 pc, sm_Kn 3 3 none, fun x => sm_lk sm_ca3 x, some .boolean) [] 3 0 [] [] 2000 [] = true := by decide +kernel
/-- MiceRegistersModel.figure -/
def mgc809 : ak_C := (125, [.inl 81, .inr (false, [(0, 0)]), .inr (false, [(0, 5)])], mgh15169, [81], [([], some (.inr (false, [(-9, -9)])), mgh15118), ([], some (.inr (false, [(0, 5)])), mgh15417)])
/-- MiceRegistersModel.figure -/
def mgc810 : ak_C := (125, [.inl 81, .inr (false, [(1, 1)]), .inr (false, [(9, 9)])], mgh15466, [81], [([], some (.inr (false, [(-9, -9)])), mgh15417), ([], some (.inr (false, [(1, 9)])), mgh15707)])
def mgh15757 : aw_H := [(81, mgx15755), (94, mgx6868)]
def mgx15758 : aw_A := ms_o [(0, 8)] [(0, 4)] ar_t32 ar_t32 [(0, 180)] [(37, 37)] [(37, 60)] [(1, 6)] [(4, 4)]
def mgh15759 : aw_H := [(81, mgx15758), (94, mgx8150)]
/-- MiceRegistersModel.readsMouse -/
def mgh15760 : aw_H := [(81, mgx15755), (90, .inr (.inl (0, 240, [], []))), (94, mgx6868)]
def mgc811 : ak_C := (127, [.inl 81], mgh15760, [81, 94], [([], some (.inr (false, [(0, 0)])), mgh15757), ([], some (.inr (false, [(1, 1)])), mgh15759), ([], some (.inr (false, [(0, 0)])), mgh15414), ([], some (.inr (false, [(0, 0)])), mgh15116)])
theorem mgk811 : ai_chk [mgc45, mgc148, mgc809, mgc810] mgc811 (fun pc => sm_ch sm_t127 pc, sm_Kn 3 5 none, fun x => sm_lk sm_ca3 x, some .boolean) [81, 94] 5 0 [] [] 2000 [] = true := by decide +kernel
def mgh15761 : aw_H := [(81, mgx15758)]
def mgx15762 : aw_A := ms_o [(0, 8)] [(0, 4)] ar_t32 ar_t32 [(0, 180)] [(38, 38)] [(37, 60)] [(1, 6)] [(4, 4)]
def mgh15763 : aw_H := [(81, mgx15762)]
def mgx15764 : aw_A := ms_o [(0, 8)] [(0, 4)] ar_t32 ar_t32 [(0, 180)] [(39, 39)] [(37, 60)] [(1, 6)] [(4, 4)]
def mgh15765 : aw_H := [(81, mgx15764)]
def mgx15766 : aw_A := ms_o [(0, 8)] [(0, 4)] ar_t32 ar_t32 [(0, 180)] [(40, 40)] [(37, 60)] [(1, 6)] [(4, 4)]
def mgh15767 : aw_H := [(81, mgx15766)]
def mgx15768 : aw_A := ms_o [(0, 8)] [(0, 4)] ar_t32 ar_t32 [(0, 180)] [(41, 41)] [(37, 60)] [(1, 6)] [(4, 4)]
def mgh15769 : aw_H := [(81, mgx15768)]
def mgx15770 : aw_A := ms_o [(0, 8)] [(0, 4)] ar_t32 ar_t32 [(0, 180)] [(42, 42)] [(37, 60)] [(1, 6)] [(4, 4)]
def mgh15771 : aw_H := [(81, mgx15770)]
def mgx15772 : aw_A := ms_o [(0, 8)] [(0, 4)] ar_t32 ar_t32 [(0, 180)] [(43, 43)] [(37, 60)] [(1, 6)] [(4, 4)]
def mgh15773 : aw_H := [(81, mgx15772)]
def mgx15774 : aw_A := ms_o [(0, 8)] [(0, 4)] ar_t32 ar_t32 [(0, 180)] [(44, 44)] [(37, 60)] [(1, 6)] [(4, 4)]
def mgh15775 : aw_H := [(81, mgx15774)]
def mgx15776 : aw_A := ms_o [(0, 8)] [(0, 4)] ar_t32 ar_t32 [(0, 180)] [(45, 45)] [(37, 60)] [(1, 6)] [(4, 4)]
def mgh15777 : aw_H := [(81, mgx15776)]
def mgx15778 : aw_A := ms_o [(0, 8)] [(0, 4)] ar_t32 ar_t32 [(0, 180)] [(46, 46)] [(37, 60)] [(1, 6)] [(4, 4)]
def mgh15779 : aw_H := [(81, mgx15778)]
def mgx15780 : aw_A := ms_o [(0, 8)] [(0, 4)] ar_t32 ar_t32 [(0, 180)] [(47, 47)] [(37, 60)] [(1, 6)] [(4, 4)]
def mgh15781 : aw_H := [(81, mgx15780)]
def mgx15782 : aw_A := ms_o [(0, 8)] [(0, 4)] ar_t32 ar_t32 [(0, 180)] [(48, 48)] [(37, 60)] [(1, 6)] [(4, 4)]
def mgh15783 : aw_H := [(81, mgx15782)]
def mgx15784 : aw_A := ms_o [(0, 8)] [(0, 4)] ar_t32 ar_t32 [(0, 180)] [(49, 49)] [(37, 60)] [(1, 6)] [(4, 4)]
def mgh15785 : aw_H := [(81, mgx15784)]
def mgx15786 : aw_A := ms_o [(0, 8)] [(0, 4)] ar_t32 ar_t32 [(0, 180)] [(50, 50)] [(37, 60)] [(1, 6)] [(4, 4)]
def mgh15787 : aw_H := [(81, mgx15786)]
def mgx15788 : aw_A := ms_o [(0, 8)] [(0, 4)] ar_t32 ar_t32 [(0, 180)] [(51, 51)] [(37, 60)] [(1, 6)] [(4, 4)]
def mgh15789 : aw_H := [(81, mgx15788)]
def mgx15790 : aw_A := ms_o [(0, 8)] [(0, 4)] ar_t32 ar_t32 [(0, 180)] [(52, 52)] [(37, 60)] [(1, 6)] [(4, 4)]
def mgh15791 : aw_H := [(81, mgx15790)]
def mgx15792 : aw_A := ms_o [(0, 8)] [(0, 4)] ar_t32 ar_t32 [(0, 180)] [(53, 53)] [(37, 60)] [(1, 6)] [(4, 4)]
def mgh15793 : aw_H := [(81, mgx15792)]
def mgx15794 : aw_A := ms_o [(0, 8)] [(0, 4)] ar_t32 ar_t32 [(0, 180)] [(54, 54)] [(37, 60)] [(1, 6)] [(4, 4)]
def mgh15795 : aw_H := [(81, mgx15794)]
def mgx15796 : aw_A := ms_o [(0, 8)] [(0, 4)] ar_t32 ar_t32 [(0, 180)] [(55, 55)] [(37, 60)] [(1, 6)] [(4, 4)]
def mgh15797 : aw_H := [(81, mgx15796)]
def mgx15798 : aw_A := ms_o [(0, 8)] [(0, 4)] ar_t32 ar_t32 [(0, 180)] [(56, 56)] [(37, 60)] [(1, 6)] [(4, 4)]
def mgh15799 : aw_H := [(81, mgx15798)]
def mgx15800 : aw_A := ms_o [(0, 8)] [(0, 4)] ar_t32 ar_t32 [(0, 180)] [(57, 57)] [(37, 60)] [(1, 6)] [(4, 4)]
def mgh15801 : aw_H := [(81, mgx15800)]
def mgx15802 : aw_A := ms_o [(0, 8)] [(0, 4)] ar_t32 ar_t32 [(0, 180)] [(58, 58)] [(37, 60)] [(1, 6)] [(4, 4)]
def mgh15803 : aw_H := [(81, mgx15802)]
def mgx15804 : aw_A := ms_o [(0, 8)] [(0, 4)] ar_t32 ar_t32 [(0, 180)] [(59, 59)] [(37, 60)] [(1, 6)] [(4, 4)]
def mgh15805 : aw_H := [(81, mgx15804)]
def mgx15806 : aw_A := ms_o [(0, 8)] [(0, 4)] ar_t32 ar_t32 [(0, 180)] [(60, 60)] [(37, 60)] [(1, 6)] [(4, 4)]
def mgh15807 : aw_H := [(81, mgx15806)]
/-- MiceRegistersModel.skip -/
def mgh15808 : aw_H := [(81, mgx15758), (90, .inr (.inl (0, 240, [], [])))]
def mgc812 : ak_C := (122, [.inl 81], mgh15808, [81], [([], none, mgh15761), ([], none, mgh15763), ([], none, mgh15765), ([], none, mgh15767), ([], none, mgh15769), ([], none, mgh15771), ([], none, mgh15773), ([], none, mgh15775), ([], none, mgh15777), ([], none, mgh15779), ([], none, mgh15781), ([], none, mgh15783), ([], none, mgh15785), ([], none, mgh15787), ([], none, mgh15789), ([], none, mgh15791), ([], none, mgh15793), ([], none, mgh15795), ([], none, mgh15797), ([], none, mgh15799), ([], none, mgh15801), ([], none, mgh15803), ([], none, mgh15805), ([], none, mgh15807)])
/-- MiceRegistersModel.readsLine -/
def mgx15809 : aw_A := ms_o [(0, 8)] [(0, 4)] ar_t32 ar_t32 [(0, 180)] [(34, 34)] [(35, 60)] [(1, 5)] [(4, 4)]
def mgh15810 : aw_H := [(81, mgx15809)]
def mgc813 : ak_C := (124, [.inl 81], mgh15810, [], [([], some (.inr (false, [(0, 0)])), [])])
theorem mgk813 : ai_chk [] mgc813 (fun pc => sm_ch sm_t124 pc, sm_Kn 3 3 none, fun x => sm_lk sm_ca3 x, some .boolean) [] 3 0 [] [] 2000 [] = true := by decide +kernel
/-- MiceRegistersModel.readsMouse -/
def mgh15811 : aw_H := [(81, mgx15809), (90, .inr (.inl (0, 240, [], [])))]
def mgc814 : ak_C := (127, [.inl 81], mgh15811, [], [([], some (.inr (false, [(0, 0)])), [])])
theorem mgk814 : ai_chk [mgc45, mgc148] mgc814 (fun pc => sm_ch sm_t127 pc, sm_Kn 3 5 none, fun x => sm_lk sm_ca3 x, some .boolean) [] 5 0 [] [] 2000 [] = true := by decide +kernel
def mgx15812 : aw_A := ms_o [(0, 8)] [(0, 4)] ar_t32 ar_t32 [(0, 180)] [(39, 39)] [(39, 60)] [(0, 7)] [(0, 0)]
def mgh15813 : aw_H := [(81, mgx15812)]
/-- MiceRegistersModel.figure -/
def mgh15814 : aw_H := [(81, mgx15530), (90, .inr (.inl (0, 240, [], [])))]
def mgc815 : ak_C := (125, [.inl 81, .inr (false, [(0, 0)]), .inr (false, [(9, 9)])], mgh15814, [81], [([], some (.inr (false, [(-9, -9)])), mgh15531), ([], some (.inr (false, [(0, 9)])), mgh15813)])
/-- MiceRegistersModel.twoFigures -/
def mgc816 : ak_C := (126, [.inl 81, .inr (false, [(1, 1)]), .inr (false, [(40, 40)])], mgh15532, [81], [([], some (.inr (false, [(-9, -9)])), mgh15236), ([], some (.inr (false, [(0, 99)])), mgh15813), ([], some (.inr (false, [(-9, -9)])), mgh15531)])
theorem mgk816 : ai_chk [mgc790, mgc815, mgc144] mgc816 (fun pc => sm_ch sm_t126 pc, sm_Kn 3 6 none, fun x => sm_lk sm_ca3 x, some .int) [81] 6 0 [] [] 2000 [] = true := by decide +kernel
def mgh15815 : aw_H := [(81, mgx15530), (92, .inr (.inl (0, 8, [], []))), (93, .inr (.inl (0, 8, [], [])))]
def mgx15816 : aw_A := ms_o [(0, 8)] [(0, 4)] ar_t32 ar_t32 [(0, 180)] [(39, 39)] [(39, 60)] [(1, 8)] [(0, 0)]
def mgh15817 : aw_H := [(81, mgx15816), (92, .inr (.inl (0, 8, [], []))), (93, .inr (.inl (0, 8, [], [])))]
def mgx15818 : aw_A := ms_o [(0, 8)] [(0, 4)] ar_t32 ar_t32 [(0, 180)] [(35, 35)] [(36, 60)] [(8, 8)] [(0, 0)]
def mgh15819 : aw_H := [(81, mgx15818), (92, .inr (.inl (0, 8, [], []))), (93, .inr (.inl (0, 8, [], [])))]
/-- MiceRegistersModel.readsLine -/
def mgx15820 : aw_A := ms_o [(0, 8)] [(0, 4)] ar_t32 ar_t32 [(0, 180)] [(35, 35)] [(36, 60)] [(0, 8)] [(0, 0)]
def mgh15821 : aw_H := [(81, mgx15820), (90, .inr (.inl (0, 240, [], []))), (92, .inr (.inl (0, 8, [], []))), (93, .inr (.inl (0, 8, [], [])))]
def mgc817 : ak_C := (124, [.inl 81], mgh15821, [81, 92, 93], [([], some (.inr (false, [(0, 0)])), mgh15815), ([], some (.inr (false, [(1, 1)])), mgh15817), ([], some (.inr (false, [(0, 0)])), mgh15533), ([], some (.inr (false, [(0, 0)])), mgh15238), ([], some (.inr (false, [(0, 0)])), mgh15819)])
theorem mgk817 : ai_chk [mgc765, mgc816] mgc817 (fun pc => sm_ch sm_t124 pc, sm_Kn 3 3 none, fun x => sm_lk sm_ca3 x, some .boolean) [81, 92, 93] 3 0 [] [] 2000 [] = true := by decide +kernel
def mgh15822 : aw_H := [(81, mgx15816)]
def mgx15823 : aw_A := ms_o [(0, 8)] [(0, 4)] ar_t32 ar_t32 [(0, 180)] [(40, 40)] [(39, 60)] [(1, 8)] [(0, 0)]
def mgh15824 : aw_H := [(81, mgx15823)]
def mgx15825 : aw_A := ms_o [(0, 8)] [(0, 4)] ar_t32 ar_t32 [(0, 180)] [(41, 41)] [(39, 60)] [(1, 8)] [(0, 0)]
def mgh15826 : aw_H := [(81, mgx15825)]
def mgx15827 : aw_A := ms_o [(0, 8)] [(0, 4)] ar_t32 ar_t32 [(0, 180)] [(42, 42)] [(39, 60)] [(1, 8)] [(0, 0)]
def mgh15828 : aw_H := [(81, mgx15827)]
def mgx15829 : aw_A := ms_o [(0, 8)] [(0, 4)] ar_t32 ar_t32 [(0, 180)] [(43, 43)] [(39, 60)] [(1, 8)] [(0, 0)]
def mgh15830 : aw_H := [(81, mgx15829)]
def mgx15831 : aw_A := ms_o [(0, 8)] [(0, 4)] ar_t32 ar_t32 [(0, 180)] [(44, 44)] [(39, 60)] [(1, 8)] [(0, 0)]
def mgh15832 : aw_H := [(81, mgx15831)]
def mgx15833 : aw_A := ms_o [(0, 8)] [(0, 4)] ar_t32 ar_t32 [(0, 180)] [(45, 45)] [(39, 60)] [(1, 8)] [(0, 0)]
def mgh15834 : aw_H := [(81, mgx15833)]
def mgx15835 : aw_A := ms_o [(0, 8)] [(0, 4)] ar_t32 ar_t32 [(0, 180)] [(46, 46)] [(39, 60)] [(1, 8)] [(0, 0)]
def mgh15836 : aw_H := [(81, mgx15835)]
def mgx15837 : aw_A := ms_o [(0, 8)] [(0, 4)] ar_t32 ar_t32 [(0, 180)] [(47, 47)] [(39, 60)] [(1, 8)] [(0, 0)]
def mgh15838 : aw_H := [(81, mgx15837)]
def mgx15839 : aw_A := ms_o [(0, 8)] [(0, 4)] ar_t32 ar_t32 [(0, 180)] [(48, 48)] [(39, 60)] [(1, 8)] [(0, 0)]
def mgh15840 : aw_H := [(81, mgx15839)]
def mgx15841 : aw_A := ms_o [(0, 8)] [(0, 4)] ar_t32 ar_t32 [(0, 180)] [(49, 49)] [(39, 60)] [(1, 8)] [(0, 0)]
def mgh15842 : aw_H := [(81, mgx15841)]
def mgx15843 : aw_A := ms_o [(0, 8)] [(0, 4)] ar_t32 ar_t32 [(0, 180)] [(50, 50)] [(39, 60)] [(1, 8)] [(0, 0)]
def mgh15844 : aw_H := [(81, mgx15843)]
def mgx15845 : aw_A := ms_o [(0, 8)] [(0, 4)] ar_t32 ar_t32 [(0, 180)] [(51, 51)] [(39, 60)] [(1, 8)] [(0, 0)]
def mgh15846 : aw_H := [(81, mgx15845)]
def mgx15847 : aw_A := ms_o [(0, 8)] [(0, 4)] ar_t32 ar_t32 [(0, 180)] [(52, 52)] [(39, 60)] [(1, 8)] [(0, 0)]
def mgh15848 : aw_H := [(81, mgx15847)]
def mgx15849 : aw_A := ms_o [(0, 8)] [(0, 4)] ar_t32 ar_t32 [(0, 180)] [(53, 53)] [(39, 60)] [(1, 8)] [(0, 0)]
def mgh15850 : aw_H := [(81, mgx15849)]
def mgx15851 : aw_A := ms_o [(0, 8)] [(0, 4)] ar_t32 ar_t32 [(0, 180)] [(54, 54)] [(39, 60)] [(1, 8)] [(0, 0)]
def mgh15852 : aw_H := [(81, mgx15851)]
def mgx15853 : aw_A := ms_o [(0, 8)] [(0, 4)] ar_t32 ar_t32 [(0, 180)] [(55, 55)] [(39, 60)] [(1, 8)] [(0, 0)]
def mgh15854 : aw_H := [(81, mgx15853)]
def mgx15855 : aw_A := ms_o [(0, 8)] [(0, 4)] ar_t32 ar_t32 [(0, 180)] [(56, 56)] [(39, 60)] [(1, 8)] [(0, 0)]
def mgh15856 : aw_H := [(81, mgx15855)]
def mgx15857 : aw_A := ms_o [(0, 8)] [(0, 4)] ar_t32 ar_t32 [(0, 180)] [(57, 57)] [(39, 60)] [(1, 8)] [(0, 0)]
def mgh15858 : aw_H := [(81, mgx15857)]
def mgx15859 : aw_A := ms_o [(0, 8)] [(0, 4)] ar_t32 ar_t32 [(0, 180)] [(58, 58)] [(39, 60)] [(1, 8)] [(0, 0)]
def mgh15860 : aw_H := [(81, mgx15859)]
def mgx15861 : aw_A := ms_o [(0, 8)] [(0, 4)] ar_t32 ar_t32 [(0, 180)] [(59, 59)] [(39, 60)] [(1, 8)] [(0, 0)]
def mgh15862 : aw_H := [(81, mgx15861)]
def mgx15863 : aw_A := ms_o [(0, 8)] [(0, 4)] ar_t32 ar_t32 [(0, 180)] [(60, 60)] [(39, 60)] [(1, 8)] [(0, 0)]
def mgh15864 : aw_H := [(81, mgx15863)]
/-- MiceRegistersModel.skip -/
def mgh15865 : aw_H := [(81, mgx15816), (90, .inr (.inl (0, 240, [], [])))]
def mgc818 : ak_C := (122, [.inl 81], mgh15865, [81], [([], none, mgh15822), ([], none, mgh15824), ([], none, mgh15826), ([], none, mgh15828), ([], none, mgh15830), ([], none, mgh15832), ([], none, mgh15834), ([], none, mgh15836), ([], none, mgh15838), ([], none, mgh15840), ([], none, mgh15842), ([], none, mgh15844), ([], none, mgh15846), ([], none, mgh15848), ([], none, mgh15850), ([], none, mgh15852), ([], none, mgh15854), ([], none, mgh15856), ([], none, mgh15858), ([], none, mgh15860), ([], none, mgh15862), ([], none, mgh15864)])
/-- MiceRegistersModel.figure -/
def mgc819 : ak_C := (125, [.inl 81, .inr (false, [(0, 0)]), .inr (false, [(0, 7)])], mgh14991, [81], [([], some (.inr (false, [(-9, -9)])), mgh14942), ([], some (.inr (false, [(0, 7)])), mgh15245)])
/-- MiceRegistersModel.figure -/
def mgc820 : ak_C := (125, [.inl 81, .inr (false, [(1, 1)]), .inr (false, [(9, 9)])], mgh15292, [81], [([], some (.inr (false, [(-9, -9)])), mgh15245), ([], some (.inr (false, [(1, 9)])), mgh15540)])
def mgh15866 : aw_H := [(81, mgx15820), (94, mgx5049)]
def mgx15867 : aw_A := ms_o [(0, 8)] [(0, 4)] ar_t32 ar_t32 [(0, 180)] [(38, 38)] [(38, 60)] [(1, 8)] [(1, 1)]
def mgh15868 : aw_H := [(81, mgx15867), (94, mgx5052)]
def mgh15869 : aw_H := [(81, mgx15239), (94, mgx5049)]
/-- MiceRegistersModel.readsMouse -/
def mgh15870 : aw_H := [(81, mgx15820), (90, .inr (.inl (0, 240, [], []))), (94, mgx5049)]
def mgc821 : ak_C := (127, [.inl 81], mgh15870, [81, 94], [([], some (.inr (false, [(0, 0)])), mgh15866), ([], some (.inr (false, [(1, 1)])), mgh15868), ([], some (.inr (false, [(0, 0)])), mgh15869), ([], some (.inr (false, [(0, 0)])), mgh15589)])
theorem mgk821 : ai_chk [mgc44, mgc148, mgc819, mgc820] mgc821 (fun pc => sm_ch sm_t127 pc, sm_Kn 3 5 none, fun x => sm_lk sm_ca3 x, some .boolean) [81, 94] 5 0 [] [] 2000 [] = true := by decide +kernel
def mgh15871 : aw_H := [(81, mgx15867)]
def mgx15872 : aw_A := ms_o [(0, 8)] [(0, 4)] ar_t32 ar_t32 [(0, 180)] [(39, 39)] [(38, 60)] [(1, 8)] [(1, 1)]
def mgh15873 : aw_H := [(81, mgx15872)]
def mgx15874 : aw_A := ms_o [(0, 8)] [(0, 4)] ar_t32 ar_t32 [(0, 180)] [(40, 40)] [(38, 60)] [(1, 8)] [(1, 1)]
def mgh15875 : aw_H := [(81, mgx15874)]
def mgx15876 : aw_A := ms_o [(0, 8)] [(0, 4)] ar_t32 ar_t32 [(0, 180)] [(41, 41)] [(38, 60)] [(1, 8)] [(1, 1)]
def mgh15877 : aw_H := [(81, mgx15876)]
def mgx15878 : aw_A := ms_o [(0, 8)] [(0, 4)] ar_t32 ar_t32 [(0, 180)] [(42, 42)] [(38, 60)] [(1, 8)] [(1, 1)]
def mgh15879 : aw_H := [(81, mgx15878)]
def mgx15880 : aw_A := ms_o [(0, 8)] [(0, 4)] ar_t32 ar_t32 [(0, 180)] [(43, 43)] [(38, 60)] [(1, 8)] [(1, 1)]
def mgh15881 : aw_H := [(81, mgx15880)]
def mgx15882 : aw_A := ms_o [(0, 8)] [(0, 4)] ar_t32 ar_t32 [(0, 180)] [(44, 44)] [(38, 60)] [(1, 8)] [(1, 1)]
def mgh15883 : aw_H := [(81, mgx15882)]
def mgx15884 : aw_A := ms_o [(0, 8)] [(0, 4)] ar_t32 ar_t32 [(0, 180)] [(45, 45)] [(38, 60)] [(1, 8)] [(1, 1)]
def mgh15885 : aw_H := [(81, mgx15884)]
def mgx15886 : aw_A := ms_o [(0, 8)] [(0, 4)] ar_t32 ar_t32 [(0, 180)] [(46, 46)] [(38, 60)] [(1, 8)] [(1, 1)]
def mgh15887 : aw_H := [(81, mgx15886)]
def mgx15888 : aw_A := ms_o [(0, 8)] [(0, 4)] ar_t32 ar_t32 [(0, 180)] [(47, 47)] [(38, 60)] [(1, 8)] [(1, 1)]
def mgh15889 : aw_H := [(81, mgx15888)]
def mgx15890 : aw_A := ms_o [(0, 8)] [(0, 4)] ar_t32 ar_t32 [(0, 180)] [(48, 48)] [(38, 60)] [(1, 8)] [(1, 1)]
def mgh15891 : aw_H := [(81, mgx15890)]
def mgx15892 : aw_A := ms_o [(0, 8)] [(0, 4)] ar_t32 ar_t32 [(0, 180)] [(49, 49)] [(38, 60)] [(1, 8)] [(1, 1)]
def mgh15893 : aw_H := [(81, mgx15892)]
def mgx15894 : aw_A := ms_o [(0, 8)] [(0, 4)] ar_t32 ar_t32 [(0, 180)] [(50, 50)] [(38, 60)] [(1, 8)] [(1, 1)]
def mgh15895 : aw_H := [(81, mgx15894)]
def mgx15896 : aw_A := ms_o [(0, 8)] [(0, 4)] ar_t32 ar_t32 [(0, 180)] [(51, 51)] [(38, 60)] [(1, 8)] [(1, 1)]
def mgh15897 : aw_H := [(81, mgx15896)]
def mgx15898 : aw_A := ms_o [(0, 8)] [(0, 4)] ar_t32 ar_t32 [(0, 180)] [(52, 52)] [(38, 60)] [(1, 8)] [(1, 1)]
def mgh15899 : aw_H := [(81, mgx15898)]
def mgx15900 : aw_A := ms_o [(0, 8)] [(0, 4)] ar_t32 ar_t32 [(0, 180)] [(53, 53)] [(38, 60)] [(1, 8)] [(1, 1)]
def mgh15901 : aw_H := [(81, mgx15900)]
def mgx15902 : aw_A := ms_o [(0, 8)] [(0, 4)] ar_t32 ar_t32 [(0, 180)] [(54, 54)] [(38, 60)] [(1, 8)] [(1, 1)]
def mgh15903 : aw_H := [(81, mgx15902)]
def mgx15904 : aw_A := ms_o [(0, 8)] [(0, 4)] ar_t32 ar_t32 [(0, 180)] [(55, 55)] [(38, 60)] [(1, 8)] [(1, 1)]
def mgh15905 : aw_H := [(81, mgx15904)]
def mgx15906 : aw_A := ms_o [(0, 8)] [(0, 4)] ar_t32 ar_t32 [(0, 180)] [(56, 56)] [(38, 60)] [(1, 8)] [(1, 1)]
def mgh15907 : aw_H := [(81, mgx15906)]
def mgx15908 : aw_A := ms_o [(0, 8)] [(0, 4)] ar_t32 ar_t32 [(0, 180)] [(57, 57)] [(38, 60)] [(1, 8)] [(1, 1)]
def mgh15909 : aw_H := [(81, mgx15908)]
def mgx15910 : aw_A := ms_o [(0, 8)] [(0, 4)] ar_t32 ar_t32 [(0, 180)] [(58, 58)] [(38, 60)] [(1, 8)] [(1, 1)]
def mgh15911 : aw_H := [(81, mgx15910)]
def mgx15912 : aw_A := ms_o [(0, 8)] [(0, 4)] ar_t32 ar_t32 [(0, 180)] [(59, 59)] [(38, 60)] [(1, 8)] [(1, 1)]
def mgh15913 : aw_H := [(81, mgx15912)]
def mgx15914 : aw_A := ms_o [(0, 8)] [(0, 4)] ar_t32 ar_t32 [(0, 180)] [(60, 60)] [(38, 60)] [(1, 8)] [(1, 1)]
def mgh15915 : aw_H := [(81, mgx15914)]
/-- MiceRegistersModel.skip -/
def mgh15916 : aw_H := [(81, mgx15867), (90, .inr (.inl (0, 240, [], [])))]
def mgc822 : ak_C := (122, [.inl 81], mgh15916, [81], [([], none, mgh15871), ([], none, mgh15873), ([], none, mgh15875), ([], none, mgh15877), ([], none, mgh15879), ([], none, mgh15881), ([], none, mgh15883), ([], none, mgh15885), ([], none, mgh15887), ([], none, mgh15889), ([], none, mgh15891), ([], none, mgh15893), ([], none, mgh15895), ([], none, mgh15897), ([], none, mgh15899), ([], none, mgh15901), ([], none, mgh15903), ([], none, mgh15905), ([], none, mgh15907), ([], none, mgh15909), ([], none, mgh15911), ([], none, mgh15913), ([], none, mgh15915)])
/-- MiceRegistersModel.readsLine -/
def mgx15917 : aw_A := ms_o [(0, 8)] [(0, 4)] ar_t32 ar_t32 [(0, 180)] [(35, 35)] [(36, 60)] [(1, 7)] [(1, 1)]
def mgh15918 : aw_H := [(81, mgx15917)]
def mgc823 : ak_C := (124, [.inl 81], mgh15918, [], [([], some (.inr (false, [(0, 0)])), [])])
theorem mgk823 : ai_chk [] mgc823 (fun pc => sm_ch sm_t124 pc, sm_Kn 3 3 none, fun x => sm_lk sm_ca3 x, some .boolean) [] 3 0 [] [] 2000 [] = true := by decide +kernel
/-- MiceRegistersModel.figure -/
def mgc824 : ak_C := (125, [.inl 81, .inr (false, [(0, 0)]), .inr (false, [(0, 6)])], mgh15643, [81], [([], some (.inr (false, [(-9, -9)])), mgh15352), ([], some (.inr (false, [(0, 6)])), mgh15642)])
def mgx15919 : aw_A := ms_o [(0, 8)] [(0, 4)] ar_t32 ar_t32 [(0, 180)] [(38, 38)] [(38, 60)] [(1, 7)] [(1, 1)]
def mgh15920 : aw_H := [(81, mgx15919)]
/-- MiceRegistersModel.figure -/
def mgh15921 : aw_H := [(81, mgx15641), (90, .inr (.inl (0, 240, [], [])))]
def mgc825 : ak_C := (125, [.inl 81, .inr (false, [(1, 1)]), .inr (false, [(9, 9)])], mgh15921, [81], [([], some (.inr (false, [(-9, -9)])), mgh15642), ([], some (.inr (false, [(1, 9)])), mgh15920)])
def mgh15922 : aw_H := [(81, mgx15917), (94, mgx5052)]
def mgx15923 : aw_A := ms_o [(0, 8)] [(0, 4)] ar_t32 ar_t32 [(0, 180)] [(38, 38)] [(38, 60)] [(1, 7)] [(2, 2)]
def mgh15924 : aw_H := [(81, mgx15923), (94, mgx5820)]
def mgh15925 : aw_H := [(81, mgx15641), (94, mgx5052)]
/-- MiceRegistersModel.readsMouse -/
def mgh15926 : aw_H := [(81, mgx15917), (90, .inr (.inl (0, 240, [], []))), (94, mgx5052)]
def mgc826 : ak_C := (127, [.inl 81], mgh15926, [81, 94], [([], some (.inr (false, [(0, 0)])), mgh15922), ([], some (.inr (false, [(1, 1)])), mgh15924), ([], some (.inr (false, [(0, 0)])), mgh15925), ([], some (.inr (false, [(0, 0)])), mgh15647)])
theorem mgk826 : ai_chk [mgc44, mgc148, mgc824, mgc825] mgc826 (fun pc => sm_ch sm_t127 pc, sm_Kn 3 5 none, fun x => sm_lk sm_ca3 x, some .boolean) [81, 94] 5 0 [] [] 2000 [] = true := by decide +kernel
def mgh15927 : aw_H := [(81, mgx15923)]
def mgx15928 : aw_A := ms_o [(0, 8)] [(0, 4)] ar_t32 ar_t32 [(0, 180)] [(39, 39)] [(38, 60)] [(1, 7)] [(2, 2)]
def mgh15929 : aw_H := [(81, mgx15928)]
def mgx15930 : aw_A := ms_o [(0, 8)] [(0, 4)] ar_t32 ar_t32 [(0, 180)] [(40, 40)] [(38, 60)] [(1, 7)] [(2, 2)]
def mgh15931 : aw_H := [(81, mgx15930)]
def mgx15932 : aw_A := ms_o [(0, 8)] [(0, 4)] ar_t32 ar_t32 [(0, 180)] [(41, 41)] [(38, 60)] [(1, 7)] [(2, 2)]
def mgh15933 : aw_H := [(81, mgx15932)]
def mgx15934 : aw_A := ms_o [(0, 8)] [(0, 4)] ar_t32 ar_t32 [(0, 180)] [(42, 42)] [(38, 60)] [(1, 7)] [(2, 2)]
def mgh15935 : aw_H := [(81, mgx15934)]
def mgx15936 : aw_A := ms_o [(0, 8)] [(0, 4)] ar_t32 ar_t32 [(0, 180)] [(43, 43)] [(38, 60)] [(1, 7)] [(2, 2)]
def mgh15937 : aw_H := [(81, mgx15936)]
def mgx15938 : aw_A := ms_o [(0, 8)] [(0, 4)] ar_t32 ar_t32 [(0, 180)] [(44, 44)] [(38, 60)] [(1, 7)] [(2, 2)]
def mgh15939 : aw_H := [(81, mgx15938)]
def mgx15940 : aw_A := ms_o [(0, 8)] [(0, 4)] ar_t32 ar_t32 [(0, 180)] [(45, 45)] [(38, 60)] [(1, 7)] [(2, 2)]
def mgh15941 : aw_H := [(81, mgx15940)]
def mgx15942 : aw_A := ms_o [(0, 8)] [(0, 4)] ar_t32 ar_t32 [(0, 180)] [(46, 46)] [(38, 60)] [(1, 7)] [(2, 2)]
def mgh15943 : aw_H := [(81, mgx15942)]
def mgx15944 : aw_A := ms_o [(0, 8)] [(0, 4)] ar_t32 ar_t32 [(0, 180)] [(47, 47)] [(38, 60)] [(1, 7)] [(2, 2)]
def mgh15945 : aw_H := [(81, mgx15944)]
def mgx15946 : aw_A := ms_o [(0, 8)] [(0, 4)] ar_t32 ar_t32 [(0, 180)] [(48, 48)] [(38, 60)] [(1, 7)] [(2, 2)]
def mgh15947 : aw_H := [(81, mgx15946)]
def mgx15948 : aw_A := ms_o [(0, 8)] [(0, 4)] ar_t32 ar_t32 [(0, 180)] [(49, 49)] [(38, 60)] [(1, 7)] [(2, 2)]
def mgh15949 : aw_H := [(81, mgx15948)]
def mgx15950 : aw_A := ms_o [(0, 8)] [(0, 4)] ar_t32 ar_t32 [(0, 180)] [(50, 50)] [(38, 60)] [(1, 7)] [(2, 2)]
def mgh15951 : aw_H := [(81, mgx15950)]
def mgx15952 : aw_A := ms_o [(0, 8)] [(0, 4)] ar_t32 ar_t32 [(0, 180)] [(51, 51)] [(38, 60)] [(1, 7)] [(2, 2)]
def mgh15953 : aw_H := [(81, mgx15952)]
def mgx15954 : aw_A := ms_o [(0, 8)] [(0, 4)] ar_t32 ar_t32 [(0, 180)] [(52, 52)] [(38, 60)] [(1, 7)] [(2, 2)]
def mgh15955 : aw_H := [(81, mgx15954)]
def mgx15956 : aw_A := ms_o [(0, 8)] [(0, 4)] ar_t32 ar_t32 [(0, 180)] [(53, 53)] [(38, 60)] [(1, 7)] [(2, 2)]
def mgh15957 : aw_H := [(81, mgx15956)]
def mgx15958 : aw_A := ms_o [(0, 8)] [(0, 4)] ar_t32 ar_t32 [(0, 180)] [(54, 54)] [(38, 60)] [(1, 7)] [(2, 2)]
def mgh15959 : aw_H := [(81, mgx15958)]
def mgx15960 : aw_A := ms_o [(0, 8)] [(0, 4)] ar_t32 ar_t32 [(0, 180)] [(55, 55)] [(38, 60)] [(1, 7)] [(2, 2)]
def mgh15961 : aw_H := [(81, mgx15960)]
def mgx15962 : aw_A := ms_o [(0, 8)] [(0, 4)] ar_t32 ar_t32 [(0, 180)] [(56, 56)] [(38, 60)] [(1, 7)] [(2, 2)]
def mgh15963 : aw_H := [(81, mgx15962)]
def mgx15964 : aw_A := ms_o [(0, 8)] [(0, 4)] ar_t32 ar_t32 [(0, 180)] [(57, 57)] [(38, 60)] [(1, 7)] [(2, 2)]
def mgh15965 : aw_H := [(81, mgx15964)]
def mgx15966 : aw_A := ms_o [(0, 8)] [(0, 4)] ar_t32 ar_t32 [(0, 180)] [(58, 58)] [(38, 60)] [(1, 7)] [(2, 2)]
def mgh15967 : aw_H := [(81, mgx15966)]
def mgx15968 : aw_A := ms_o [(0, 8)] [(0, 4)] ar_t32 ar_t32 [(0, 180)] [(59, 59)] [(38, 60)] [(1, 7)] [(2, 2)]
def mgh15969 : aw_H := [(81, mgx15968)]
def mgx15970 : aw_A := ms_o [(0, 8)] [(0, 4)] ar_t32 ar_t32 [(0, 180)] [(60, 60)] [(38, 60)] [(1, 7)] [(2, 2)]
def mgh15971 : aw_H := [(81, mgx15970)]
/-- MiceRegistersModel.skip -/
def mgh15972 : aw_H := [(81, mgx15923), (90, .inr (.inl (0, 240, [], [])))]
def mgc827 : ak_C := (122, [.inl 81], mgh15972, [81], [([], none, mgh15927), ([], none, mgh15929), ([], none, mgh15931), ([], none, mgh15933), ([], none, mgh15935), ([], none, mgh15937), ([], none, mgh15939), ([], none, mgh15941), ([], none, mgh15943), ([], none, mgh15945), ([], none, mgh15947), ([], none, mgh15949), ([], none, mgh15951), ([], none, mgh15953), ([], none, mgh15955), ([], none, mgh15957), ([], none, mgh15959), ([], none, mgh15961), ([], none, mgh15963), ([], none, mgh15965), ([], none, mgh15967), ([], none, mgh15969), ([], none, mgh15971)])
/-- MiceRegistersModel.readsLine -/
def mgx15973 : aw_A := ms_o [(0, 8)] [(0, 4)] ar_t32 ar_t32 [(0, 180)] [(35, 35)] [(36, 60)] [(1, 7)] [(2, 2)]
def mgh15974 : aw_H := [(81, mgx15973)]
def mgc828 : ak_C := (124, [.inl 81], mgh15974, [], [([], some (.inr (false, [(0, 0)])), [])])
theorem mgk828 : ai_chk [] mgc828 (fun pc => sm_ch sm_t124 pc, sm_Kn 3 3 none, fun x => sm_lk sm_ca3 x, some .boolean) [] 3 0 [] [] 2000 [] = true := by decide +kernel
/-- MiceRegistersModel.figure -/
def mgc829 : ak_C := (125, [.inl 81, .inr (false, [(0, 0)]), .inr (false, [(0, 6)])], mgh15406, [81], [([], some (.inr (false, [(-9, -9)])), mgh15357), ([], some (.inr (false, [(0, 6)])), mgh15649)])
/-- MiceRegistersModel.figure -/
def mgc830 : ak_C := (125, [.inl 81, .inr (false, [(1, 1)]), .inr (false, [(9, 9)])], mgh15696, [81], [([], some (.inr (false, [(-9, -9)])), mgh15649), ([], some (.inr (false, [(1, 9)])), mgh15927)])
def mgh15975 : aw_H := [(81, mgx15973), (94, mgx5820)]
def mgx15976 : aw_A := ms_o [(0, 8)] [(0, 4)] ar_t32 ar_t32 [(0, 180)] [(38, 38)] [(38, 60)] [(1, 7)] [(3, 3)]
def mgh15977 : aw_H := [(81, mgx15976), (94, mgx6868)]
/-- MiceRegistersModel.readsMouse -/
def mgh15978 : aw_H := [(81, mgx15973), (90, .inr (.inl (0, 240, [], []))), (94, mgx5820)]
def mgc831 : ak_C := (127, [.inl 81], mgh15978, [81, 94], [([], some (.inr (false, [(0, 0)])), mgh15975), ([], some (.inr (false, [(1, 1)])), mgh15977), ([], some (.inr (false, [(0, 0)])), mgh15646), ([], some (.inr (false, [(0, 0)])), mgh15355)])
theorem mgk831 : ai_chk [mgc44, mgc148, mgc829, mgc830] mgc831 (fun pc => sm_ch sm_t127 pc, sm_Kn 3 5 none, fun x => sm_lk sm_ca3 x, some .boolean) [81, 94] 5 0 [] [] 2000 [] = true := by decide +kernel
def mgh15979 : aw_H := [(81, mgx15976)]
def mgx15980 : aw_A := ms_o [(0, 8)] [(0, 4)] ar_t32 ar_t32 [(0, 180)] [(39, 39)] [(38, 60)] [(1, 7)] [(3, 3)]
def mgh15981 : aw_H := [(81, mgx15980)]
def mgx15982 : aw_A := ms_o [(0, 8)] [(0, 4)] ar_t32 ar_t32 [(0, 180)] [(40, 40)] [(38, 60)] [(1, 7)] [(3, 3)]
def mgh15983 : aw_H := [(81, mgx15982)]
def mgx15984 : aw_A := ms_o [(0, 8)] [(0, 4)] ar_t32 ar_t32 [(0, 180)] [(41, 41)] [(38, 60)] [(1, 7)] [(3, 3)]
def mgh15985 : aw_H := [(81, mgx15984)]
def mgx15986 : aw_A := ms_o [(0, 8)] [(0, 4)] ar_t32 ar_t32 [(0, 180)] [(42, 42)] [(38, 60)] [(1, 7)] [(3, 3)]
def mgh15987 : aw_H := [(81, mgx15986)]
def mgx15988 : aw_A := ms_o [(0, 8)] [(0, 4)] ar_t32 ar_t32 [(0, 180)] [(43, 43)] [(38, 60)] [(1, 7)] [(3, 3)]
def mgh15989 : aw_H := [(81, mgx15988)]
def mgx15990 : aw_A := ms_o [(0, 8)] [(0, 4)] ar_t32 ar_t32 [(0, 180)] [(44, 44)] [(38, 60)] [(1, 7)] [(3, 3)]
def mgh15991 : aw_H := [(81, mgx15990)]
def mgx15992 : aw_A := ms_o [(0, 8)] [(0, 4)] ar_t32 ar_t32 [(0, 180)] [(45, 45)] [(38, 60)] [(1, 7)] [(3, 3)]
def mgh15993 : aw_H := [(81, mgx15992)]
def mgx15994 : aw_A := ms_o [(0, 8)] [(0, 4)] ar_t32 ar_t32 [(0, 180)] [(46, 46)] [(38, 60)] [(1, 7)] [(3, 3)]
def mgh15995 : aw_H := [(81, mgx15994)]
def mgx15996 : aw_A := ms_o [(0, 8)] [(0, 4)] ar_t32 ar_t32 [(0, 180)] [(47, 47)] [(38, 60)] [(1, 7)] [(3, 3)]
def mgh15997 : aw_H := [(81, mgx15996)]
def mgx15998 : aw_A := ms_o [(0, 8)] [(0, 4)] ar_t32 ar_t32 [(0, 180)] [(48, 48)] [(38, 60)] [(1, 7)] [(3, 3)]
def mgh15999 : aw_H := [(81, mgx15998)]
def mgx16000 : aw_A := ms_o [(0, 8)] [(0, 4)] ar_t32 ar_t32 [(0, 180)] [(49, 49)] [(38, 60)] [(1, 7)] [(3, 3)]
def mgh16001 : aw_H := [(81, mgx16000)]
def mgx16002 : aw_A := ms_o [(0, 8)] [(0, 4)] ar_t32 ar_t32 [(0, 180)] [(50, 50)] [(38, 60)] [(1, 7)] [(3, 3)]
def mgh16003 : aw_H := [(81, mgx16002)]
def mgx16004 : aw_A := ms_o [(0, 8)] [(0, 4)] ar_t32 ar_t32 [(0, 180)] [(51, 51)] [(38, 60)] [(1, 7)] [(3, 3)]
def mgh16005 : aw_H := [(81, mgx16004)]
def mgx16006 : aw_A := ms_o [(0, 8)] [(0, 4)] ar_t32 ar_t32 [(0, 180)] [(52, 52)] [(38, 60)] [(1, 7)] [(3, 3)]
def mgh16007 : aw_H := [(81, mgx16006)]
def mgx16008 : aw_A := ms_o [(0, 8)] [(0, 4)] ar_t32 ar_t32 [(0, 180)] [(53, 53)] [(38, 60)] [(1, 7)] [(3, 3)]
def mgh16009 : aw_H := [(81, mgx16008)]
def mgx16010 : aw_A := ms_o [(0, 8)] [(0, 4)] ar_t32 ar_t32 [(0, 180)] [(54, 54)] [(38, 60)] [(1, 7)] [(3, 3)]
def mgh16011 : aw_H := [(81, mgx16010)]
def mgx16012 : aw_A := ms_o [(0, 8)] [(0, 4)] ar_t32 ar_t32 [(0, 180)] [(55, 55)] [(38, 60)] [(1, 7)] [(3, 3)]
def mgh16013 : aw_H := [(81, mgx16012)]
def mgx16014 : aw_A := ms_o [(0, 8)] [(0, 4)] ar_t32 ar_t32 [(0, 180)] [(56, 56)] [(38, 60)] [(1, 7)] [(3, 3)]
def mgh16015 : aw_H := [(81, mgx16014)]
def mgx16016 : aw_A := ms_o [(0, 8)] [(0, 4)] ar_t32 ar_t32 [(0, 180)] [(57, 57)] [(38, 60)] [(1, 7)] [(3, 3)]
def mgh16017 : aw_H := [(81, mgx16016)]
def mgx16018 : aw_A := ms_o [(0, 8)] [(0, 4)] ar_t32 ar_t32 [(0, 180)] [(58, 58)] [(38, 60)] [(1, 7)] [(3, 3)]
def mgh16019 : aw_H := [(81, mgx16018)]
def mgx16020 : aw_A := ms_o [(0, 8)] [(0, 4)] ar_t32 ar_t32 [(0, 180)] [(59, 59)] [(38, 60)] [(1, 7)] [(3, 3)]
def mgh16021 : aw_H := [(81, mgx16020)]
def mgx16022 : aw_A := ms_o [(0, 8)] [(0, 4)] ar_t32 ar_t32 [(0, 180)] [(60, 60)] [(38, 60)] [(1, 7)] [(3, 3)]
def mgh16023 : aw_H := [(81, mgx16022)]
/-- MiceRegistersModel.skip -/
def mgh16024 : aw_H := [(81, mgx15976), (90, .inr (.inl (0, 240, [], [])))]
def mgc832 : ak_C := (122, [.inl 81], mgh16024, [81], [([], none, mgh15979), ([], none, mgh15981), ([], none, mgh15983), ([], none, mgh15985), ([], none, mgh15987), ([], none, mgh15989), ([], none, mgh15991), ([], none, mgh15993), ([], none, mgh15995), ([], none, mgh15997), ([], none, mgh15999), ([], none, mgh16001), ([], none, mgh16003), ([], none, mgh16005), ([], none, mgh16007), ([], none, mgh16009), ([], none, mgh16011), ([], none, mgh16013), ([], none, mgh16015), ([], none, mgh16017), ([], none, mgh16019), ([], none, mgh16021), ([], none, mgh16023)])
/-- MiceRegistersModel.readsLine -/
def mgx16025 : aw_A := ms_o [(0, 8)] [(0, 4)] ar_t32 ar_t32 [(0, 180)] [(35, 35)] [(36, 60)] [(1, 6)] [(3, 3)]
def mgh16026 : aw_H := [(81, mgx16025)]
def mgc833 : ak_C := (124, [.inl 81], mgh16026, [], [([], some (.inr (false, [(0, 0)])), [])])
theorem mgk833 : ai_chk [] mgc833 (fun pc => sm_ch sm_t124 pc, sm_Kn 3 3 none, fun x => sm_lk sm_ca3 x, some .boolean) [] 3 0 [] [] 2000 [] = true := by decide +kernel
/-- MiceRegistersModel.figure -/
def mgc834 : ak_C := (125, [.inl 81, .inr (false, [(0, 0)]), .inr (false, [(0, 5)])], mgh15466, [81], [([], some (.inr (false, [(-9, -9)])), mgh15417), ([], some (.inr (false, [(0, 5)])), mgh15707)])
def mgx16027 : aw_A := ms_o [(0, 8)] [(0, 4)] ar_t32 ar_t32 [(0, 180)] [(38, 38)] [(38, 60)] [(1, 6)] [(3, 3)]
def mgh16028 : aw_H := [(81, mgx16027)]
/-- MiceRegistersModel.figure -/
def mgc835 : ak_C := (125, [.inl 81, .inr (false, [(1, 1)]), .inr (false, [(9, 9)])], mgh15754, [81], [([], some (.inr (false, [(-9, -9)])), mgh15707), ([], some (.inr (false, [(1, 9)])), mgh16028)])
def mgh16029 : aw_H := [(81, mgx16025), (94, mgx6868)]
def mgx16030 : aw_A := ms_o [(0, 8)] [(0, 4)] ar_t32 ar_t32 [(0, 180)] [(38, 38)] [(38, 60)] [(1, 6)] [(4, 4)]
def mgh16031 : aw_H := [(81, mgx16030), (94, mgx8150)]
/-- MiceRegistersModel.readsMouse -/
def mgh16032 : aw_H := [(81, mgx16025), (90, .inr (.inl (0, 240, [], []))), (94, mgx6868)]
def mgc836 : ak_C := (127, [.inl 81], mgh16032, [81, 94], [([], some (.inr (false, [(0, 0)])), mgh16029), ([], some (.inr (false, [(1, 1)])), mgh16031), ([], some (.inr (false, [(0, 0)])), mgh15704), ([], some (.inr (false, [(0, 0)])), mgh15414)])
theorem mgk836 : ai_chk [mgc44, mgc148, mgc834, mgc835] mgc836 (fun pc => sm_ch sm_t127 pc, sm_Kn 3 5 none, fun x => sm_lk sm_ca3 x, some .boolean) [81, 94] 5 0 [] [] 2000 [] = true := by decide +kernel
def mgh16033 : aw_H := [(81, mgx16030)]
def mgx16034 : aw_A := ms_o [(0, 8)] [(0, 4)] ar_t32 ar_t32 [(0, 180)] [(39, 39)] [(38, 60)] [(1, 6)] [(4, 4)]
def mgh16035 : aw_H := [(81, mgx16034)]
def mgx16036 : aw_A := ms_o [(0, 8)] [(0, 4)] ar_t32 ar_t32 [(0, 180)] [(40, 40)] [(38, 60)] [(1, 6)] [(4, 4)]
def mgh16037 : aw_H := [(81, mgx16036)]
def mgx16038 : aw_A := ms_o [(0, 8)] [(0, 4)] ar_t32 ar_t32 [(0, 180)] [(41, 41)] [(38, 60)] [(1, 6)] [(4, 4)]
def mgh16039 : aw_H := [(81, mgx16038)]
def mgx16040 : aw_A := ms_o [(0, 8)] [(0, 4)] ar_t32 ar_t32 [(0, 180)] [(42, 42)] [(38, 60)] [(1, 6)] [(4, 4)]
def mgh16041 : aw_H := [(81, mgx16040)]
def mgx16042 : aw_A := ms_o [(0, 8)] [(0, 4)] ar_t32 ar_t32 [(0, 180)] [(43, 43)] [(38, 60)] [(1, 6)] [(4, 4)]
def mgh16043 : aw_H := [(81, mgx16042)]
def mgx16044 : aw_A := ms_o [(0, 8)] [(0, 4)] ar_t32 ar_t32 [(0, 180)] [(44, 44)] [(38, 60)] [(1, 6)] [(4, 4)]
def mgh16045 : aw_H := [(81, mgx16044)]
def mgx16046 : aw_A := ms_o [(0, 8)] [(0, 4)] ar_t32 ar_t32 [(0, 180)] [(45, 45)] [(38, 60)] [(1, 6)] [(4, 4)]
def mgh16047 : aw_H := [(81, mgx16046)]
def mgx16048 : aw_A := ms_o [(0, 8)] [(0, 4)] ar_t32 ar_t32 [(0, 180)] [(46, 46)] [(38, 60)] [(1, 6)] [(4, 4)]
def mgh16049 : aw_H := [(81, mgx16048)]
def mgx16050 : aw_A := ms_o [(0, 8)] [(0, 4)] ar_t32 ar_t32 [(0, 180)] [(47, 47)] [(38, 60)] [(1, 6)] [(4, 4)]
def mgh16051 : aw_H := [(81, mgx16050)]
def mgx16052 : aw_A := ms_o [(0, 8)] [(0, 4)] ar_t32 ar_t32 [(0, 180)] [(48, 48)] [(38, 60)] [(1, 6)] [(4, 4)]
def mgh16053 : aw_H := [(81, mgx16052)]
def mgx16054 : aw_A := ms_o [(0, 8)] [(0, 4)] ar_t32 ar_t32 [(0, 180)] [(49, 49)] [(38, 60)] [(1, 6)] [(4, 4)]
def mgh16055 : aw_H := [(81, mgx16054)]
def mgx16056 : aw_A := ms_o [(0, 8)] [(0, 4)] ar_t32 ar_t32 [(0, 180)] [(50, 50)] [(38, 60)] [(1, 6)] [(4, 4)]
def mgh16057 : aw_H := [(81, mgx16056)]
def mgx16058 : aw_A := ms_o [(0, 8)] [(0, 4)] ar_t32 ar_t32 [(0, 180)] [(51, 51)] [(38, 60)] [(1, 6)] [(4, 4)]
def mgh16059 : aw_H := [(81, mgx16058)]
def mgx16060 : aw_A := ms_o [(0, 8)] [(0, 4)] ar_t32 ar_t32 [(0, 180)] [(52, 52)] [(38, 60)] [(1, 6)] [(4, 4)]
def mgh16061 : aw_H := [(81, mgx16060)]
def mgx16062 : aw_A := ms_o [(0, 8)] [(0, 4)] ar_t32 ar_t32 [(0, 180)] [(53, 53)] [(38, 60)] [(1, 6)] [(4, 4)]
def mgh16063 : aw_H := [(81, mgx16062)]
def mgx16064 : aw_A := ms_o [(0, 8)] [(0, 4)] ar_t32 ar_t32 [(0, 180)] [(54, 54)] [(38, 60)] [(1, 6)] [(4, 4)]
def mgh16065 : aw_H := [(81, mgx16064)]
def mgx16066 : aw_A := ms_o [(0, 8)] [(0, 4)] ar_t32 ar_t32 [(0, 180)] [(55, 55)] [(38, 60)] [(1, 6)] [(4, 4)]
def mgh16067 : aw_H := [(81, mgx16066)]
def mgx16068 : aw_A := ms_o [(0, 8)] [(0, 4)] ar_t32 ar_t32 [(0, 180)] [(56, 56)] [(38, 60)] [(1, 6)] [(4, 4)]
def mgh16069 : aw_H := [(81, mgx16068)]
def mgx16070 : aw_A := ms_o [(0, 8)] [(0, 4)] ar_t32 ar_t32 [(0, 180)] [(57, 57)] [(38, 60)] [(1, 6)] [(4, 4)]
def mgh16071 : aw_H := [(81, mgx16070)]
def mgx16072 : aw_A := ms_o [(0, 8)] [(0, 4)] ar_t32 ar_t32 [(0, 180)] [(58, 58)] [(38, 60)] [(1, 6)] [(4, 4)]
def mgh16073 : aw_H := [(81, mgx16072)]
def mgx16074 : aw_A := ms_o [(0, 8)] [(0, 4)] ar_t32 ar_t32 [(0, 180)] [(59, 59)] [(38, 60)] [(1, 6)] [(4, 4)]
def mgh16075 : aw_H := [(81, mgx16074)]
def mgx16076 : aw_A := ms_o [(0, 8)] [(0, 4)] ar_t32 ar_t32 [(0, 180)] [(60, 60)] [(38, 60)] [(1, 6)] [(4, 4)]
def mgh16077 : aw_H := [(81, mgx16076)]
/-- MiceRegistersModel.skip -/
def mgh16078 : aw_H := [(81, mgx16030), (90, .inr (.inl (0, 240, [], [])))]
def mgc837 : ak_C := (122, [.inl 81], mgh16078, [81], [([], none, mgh16033), ([], none, mgh16035), ([], none, mgh16037), ([], none, mgh16039), ([], none, mgh16041), ([], none, mgh16043), ([], none, mgh16045), ([], none, mgh16047), ([], none, mgh16049), ([], none, mgh16051), ([], none, mgh16053), ([], none, mgh16055), ([], none, mgh16057), ([], none, mgh16059), ([], none, mgh16061), ([], none, mgh16063), ([], none, mgh16065), ([], none, mgh16067), ([], none, mgh16069), ([], none, mgh16071), ([], none, mgh16073), ([], none, mgh16075), ([], none, mgh16077)])
/-- MiceRegistersModel.readsLine -/
def mgx16079 : aw_A := ms_o [(0, 8)] [(0, 4)] ar_t32 ar_t32 [(0, 180)] [(35, 35)] [(36, 60)] [(1, 5)] [(4, 4)]
def mgh16080 : aw_H := [(81, mgx16079)]
def mgc838 : ak_C := (124, [.inl 81], mgh16080, [], [([], some (.inr (false, [(0, 0)])), [])])
theorem mgk838 : ai_chk [] mgc838 (fun pc => sm_ch sm_t124 pc, sm_Kn 3 3 none, fun x => sm_lk sm_ca3 x, some .boolean) [] 3 0 [] [] 2000 [] = true := by decide +kernel
/-- MiceRegistersModel.readsMouse -/
def mgh16081 : aw_H := [(81, mgx16079), (90, .inr (.inl (0, 240, [], [])))]
def mgc839 : ak_C := (127, [.inl 81], mgh16081, [], [([], some (.inr (false, [(0, 0)])), [])])
theorem mgk839 : ai_chk [mgc44, mgc148] mgc839 (fun pc => sm_ch sm_t127 pc, sm_Kn 3 5 none, fun x => sm_lk sm_ca3 x, some .boolean) [] 5 0 [] [] 2000 [] = true := by decide +kernel
def mgx16082 : aw_A := ms_o [(0, 8)] [(0, 4)] ar_t32 ar_t32 [(0, 180)] [(40, 40)] [(40, 60)] [(0, 7)] [(0, 0)]
def mgh16083 : aw_H := [(81, mgx16082)]
/-- MiceRegistersModel.figure -/
def mgh16084 : aw_H := [(81, mgx15812), (90, .inr (.inl (0, 240, [], [])))]
def mgc840 : ak_C := (125, [.inl 81, .inr (false, [(0, 0)]), .inr (false, [(9, 9)])], mgh16084, [81], [([], some (.inr (false, [(-9, -9)])), mgh15813), ([], some (.inr (false, [(0, 9)])), mgh16083)])
/-- MiceRegistersModel.twoFigures -/
def mgc841 : ak_C := (126, [.inl 81, .inr (false, [(1, 1)]), .inr (false, [(40, 40)])], mgh15814, [81], [([], some (.inr (false, [(-9, -9)])), mgh15531), ([], some (.inr (false, [(0, 99)])), mgh16083), ([], some (.inr (false, [(-9, -9)])), mgh15813)])
theorem mgk841 : ai_chk [mgc815, mgc840, mgc144] mgc841 (fun pc => sm_ch sm_t126 pc, sm_Kn 3 6 none, fun x => sm_lk sm_ca3 x, some .int) [81] 6 0 [] [] 2000 [] = true := by decide +kernel
def mgh16085 : aw_H := [(81, mgx15812), (92, .inr (.inl (0, 8, [], []))), (93, .inr (.inl (0, 8, [], [])))]
def mgx16086 : aw_A := ms_o [(0, 8)] [(0, 4)] ar_t32 ar_t32 [(0, 180)] [(40, 40)] [(40, 60)] [(1, 8)] [(0, 0)]
def mgh16087 : aw_H := [(81, mgx16086), (92, .inr (.inl (0, 8, [], []))), (93, .inr (.inl (0, 8, [], [])))]
def mgx16088 : aw_A := ms_o [(0, 8)] [(0, 4)] ar_t32 ar_t32 [(0, 180)] [(36, 36)] [(37, 60)] [(8, 8)] [(0, 0)]
def mgh16089 : aw_H := [(81, mgx16088), (92, .inr (.inl (0, 8, [], []))), (93, .inr (.inl (0, 8, [], [])))]
/-- MiceRegistersModel.readsLine -/
def mgx16090 : aw_A := ms_o [(0, 8)] [(0, 4)] ar_t32 ar_t32 [(0, 180)] [(36, 36)] [(37, 60)] [(0, 8)] [(0, 0)]
def mgh16091 : aw_H := [(81, mgx16090), (90, .inr (.inl (0, 240, [], []))), (92, .inr (.inl (0, 8, [], []))), (93, .inr (.inl (0, 8, [], [])))]
def mgc842 : ak_C := (124, [.inl 81], mgh16091, [81, 92, 93], [([], some (.inr (false, [(0, 0)])), mgh16085), ([], some (.inr (false, [(1, 1)])), mgh16087), ([], some (.inr (false, [(0, 0)])), mgh15815), ([], some (.inr (false, [(0, 0)])), mgh15533), ([], some (.inr (false, [(0, 0)])), mgh16089)])
theorem mgk842 : ai_chk [mgc790, mgc841] mgc842 (fun pc => sm_ch sm_t124 pc, sm_Kn 3 3 none, fun x => sm_lk sm_ca3 x, some .boolean) [81, 92, 93] 3 0 [] [] 2000 [] = true := by decide +kernel
def mgh16092 : aw_H := [(81, mgx16086)]
def mgx16093 : aw_A := ms_o [(0, 8)] [(0, 4)] ar_t32 ar_t32 [(0, 180)] [(41, 41)] [(40, 60)] [(1, 8)] [(0, 0)]
def mgh16094 : aw_H := [(81, mgx16093)]
def mgx16095 : aw_A := ms_o [(0, 8)] [(0, 4)] ar_t32 ar_t32 [(0, 180)] [(42, 42)] [(40, 60)] [(1, 8)] [(0, 0)]
def mgh16096 : aw_H := [(81, mgx16095)]
def mgx16097 : aw_A := ms_o [(0, 8)] [(0, 4)] ar_t32 ar_t32 [(0, 180)] [(43, 43)] [(40, 60)] [(1, 8)] [(0, 0)]
def mgh16098 : aw_H := [(81, mgx16097)]
def mgx16099 : aw_A := ms_o [(0, 8)] [(0, 4)] ar_t32 ar_t32 [(0, 180)] [(44, 44)] [(40, 60)] [(1, 8)] [(0, 0)]
def mgh16100 : aw_H := [(81, mgx16099)]
def mgx16101 : aw_A := ms_o [(0, 8)] [(0, 4)] ar_t32 ar_t32 [(0, 180)] [(45, 45)] [(40, 60)] [(1, 8)] [(0, 0)]
def mgh16102 : aw_H := [(81, mgx16101)]
def mgx16103 : aw_A := ms_o [(0, 8)] [(0, 4)] ar_t32 ar_t32 [(0, 180)] [(46, 46)] [(40, 60)] [(1, 8)] [(0, 0)]
def mgh16104 : aw_H := [(81, mgx16103)]
def mgx16105 : aw_A := ms_o [(0, 8)] [(0, 4)] ar_t32 ar_t32 [(0, 180)] [(47, 47)] [(40, 60)] [(1, 8)] [(0, 0)]
def mgh16106 : aw_H := [(81, mgx16105)]
def mgx16107 : aw_A := ms_o [(0, 8)] [(0, 4)] ar_t32 ar_t32 [(0, 180)] [(48, 48)] [(40, 60)] [(1, 8)] [(0, 0)]
def mgh16108 : aw_H := [(81, mgx16107)]
def mgx16109 : aw_A := ms_o [(0, 8)] [(0, 4)] ar_t32 ar_t32 [(0, 180)] [(49, 49)] [(40, 60)] [(1, 8)] [(0, 0)]
def mgh16110 : aw_H := [(81, mgx16109)]
def mgx16111 : aw_A := ms_o [(0, 8)] [(0, 4)] ar_t32 ar_t32 [(0, 180)] [(50, 50)] [(40, 60)] [(1, 8)] [(0, 0)]
def mgh16112 : aw_H := [(81, mgx16111)]
def mgx16113 : aw_A := ms_o [(0, 8)] [(0, 4)] ar_t32 ar_t32 [(0, 180)] [(51, 51)] [(40, 60)] [(1, 8)] [(0, 0)]
def mgh16114 : aw_H := [(81, mgx16113)]
def mgx16115 : aw_A := ms_o [(0, 8)] [(0, 4)] ar_t32 ar_t32 [(0, 180)] [(52, 52)] [(40, 60)] [(1, 8)] [(0, 0)]
def mgh16116 : aw_H := [(81, mgx16115)]
def mgx16117 : aw_A := ms_o [(0, 8)] [(0, 4)] ar_t32 ar_t32 [(0, 180)] [(53, 53)] [(40, 60)] [(1, 8)] [(0, 0)]
def mgh16118 : aw_H := [(81, mgx16117)]
def mgx16119 : aw_A := ms_o [(0, 8)] [(0, 4)] ar_t32 ar_t32 [(0, 180)] [(54, 54)] [(40, 60)] [(1, 8)] [(0, 0)]
def mgh16120 : aw_H := [(81, mgx16119)]
def mgx16121 : aw_A := ms_o [(0, 8)] [(0, 4)] ar_t32 ar_t32 [(0, 180)] [(55, 55)] [(40, 60)] [(1, 8)] [(0, 0)]
def mgh16122 : aw_H := [(81, mgx16121)]
def mgx16123 : aw_A := ms_o [(0, 8)] [(0, 4)] ar_t32 ar_t32 [(0, 180)] [(56, 56)] [(40, 60)] [(1, 8)] [(0, 0)]
def mgh16124 : aw_H := [(81, mgx16123)]
def mgx16125 : aw_A := ms_o [(0, 8)] [(0, 4)] ar_t32 ar_t32 [(0, 180)] [(57, 57)] [(40, 60)] [(1, 8)] [(0, 0)]
def mgh16126 : aw_H := [(81, mgx16125)]
def mgx16127 : aw_A := ms_o [(0, 8)] [(0, 4)] ar_t32 ar_t32 [(0, 180)] [(58, 58)] [(40, 60)] [(1, 8)] [(0, 0)]
def mgh16128 : aw_H := [(81, mgx16127)]
def mgx16129 : aw_A := ms_o [(0, 8)] [(0, 4)] ar_t32 ar_t32 [(0, 180)] [(59, 59)] [(40, 60)] [(1, 8)] [(0, 0)]
def mgh16130 : aw_H := [(81, mgx16129)]
def mgx16131 : aw_A := ms_o [(0, 8)] [(0, 4)] ar_t32 ar_t32 [(0, 180)] [(60, 60)] [(40, 60)] [(1, 8)] [(0, 0)]
def mgh16132 : aw_H := [(81, mgx16131)]
/-- MiceRegistersModel.skip -/
def mgh16133 : aw_H := [(81, mgx16086), (90, .inr (.inl (0, 240, [], [])))]
def mgc843 : ak_C := (122, [.inl 81], mgh16133, [81], [([], none, mgh16092), ([], none, mgh16094), ([], none, mgh16096), ([], none, mgh16098), ([], none, mgh16100), ([], none, mgh16102), ([], none, mgh16104), ([], none, mgh16106), ([], none, mgh16108), ([], none, mgh16110), ([], none, mgh16112), ([], none, mgh16114), ([], none, mgh16116), ([], none, mgh16118), ([], none, mgh16120), ([], none, mgh16122), ([], none, mgh16124), ([], none, mgh16126), ([], none, mgh16128), ([], none, mgh16130), ([], none, mgh16132)])
/-- MiceRegistersModel.figure -/
def mgc844 : ak_C := (125, [.inl 81, .inr (false, [(0, 0)]), .inr (false, [(0, 7)])], mgh15292, [81], [([], some (.inr (false, [(-9, -9)])), mgh15245), ([], some (.inr (false, [(0, 7)])), mgh15540)])
/-- MiceRegistersModel.figure -/
def mgc845 : ak_C := (125, [.inl 81, .inr (false, [(1, 1)]), .inr (false, [(9, 9)])], mgh15585, [81], [([], some (.inr (false, [(-9, -9)])), mgh15540), ([], some (.inr (false, [(1, 9)])), mgh15822)])
def mgh16134 : aw_H := [(81, mgx16090), (94, mgx5049)]
def mgx16135 : aw_A := ms_o [(0, 8)] [(0, 4)] ar_t32 ar_t32 [(0, 180)] [(39, 39)] [(39, 60)] [(1, 8)] [(1, 1)]
def mgh16136 : aw_H := [(81, mgx16135), (94, mgx5052)]
def mgh16137 : aw_H := [(81, mgx15534), (94, mgx5049)]
/-- MiceRegistersModel.readsMouse -/
def mgh16138 : aw_H := [(81, mgx16090), (90, .inr (.inl (0, 240, [], []))), (94, mgx5049)]
def mgc846 : ak_C := (127, [.inl 81], mgh16138, [81, 94], [([], some (.inr (false, [(0, 0)])), mgh16134), ([], some (.inr (false, [(1, 1)])), mgh16136), ([], some (.inr (false, [(0, 0)])), mgh16137), ([], some (.inr (false, [(0, 0)])), mgh15869)])
theorem mgk846 : ai_chk [mgc43, mgc148, mgc844, mgc845] mgc846 (fun pc => sm_ch sm_t127 pc, sm_Kn 3 5 none, fun x => sm_lk sm_ca3 x, some .boolean) [81, 94] 5 0 [] [] 2000 [] = true := by decide +kernel
def mgh16139 : aw_H := [(81, mgx16135)]
def mgx16140 : aw_A := ms_o [(0, 8)] [(0, 4)] ar_t32 ar_t32 [(0, 180)] [(40, 40)] [(39, 60)] [(1, 8)] [(1, 1)]
def mgh16141 : aw_H := [(81, mgx16140)]
def mgx16142 : aw_A := ms_o [(0, 8)] [(0, 4)] ar_t32 ar_t32 [(0, 180)] [(41, 41)] [(39, 60)] [(1, 8)] [(1, 1)]
def mgh16143 : aw_H := [(81, mgx16142)]
def mgx16144 : aw_A := ms_o [(0, 8)] [(0, 4)] ar_t32 ar_t32 [(0, 180)] [(42, 42)] [(39, 60)] [(1, 8)] [(1, 1)]
def mgh16145 : aw_H := [(81, mgx16144)]
def mgx16146 : aw_A := ms_o [(0, 8)] [(0, 4)] ar_t32 ar_t32 [(0, 180)] [(43, 43)] [(39, 60)] [(1, 8)] [(1, 1)]
def mgh16147 : aw_H := [(81, mgx16146)]
def mgx16148 : aw_A := ms_o [(0, 8)] [(0, 4)] ar_t32 ar_t32 [(0, 180)] [(44, 44)] [(39, 60)] [(1, 8)] [(1, 1)]
def mgh16149 : aw_H := [(81, mgx16148)]
def mgx16150 : aw_A := ms_o [(0, 8)] [(0, 4)] ar_t32 ar_t32 [(0, 180)] [(45, 45)] [(39, 60)] [(1, 8)] [(1, 1)]
def mgh16151 : aw_H := [(81, mgx16150)]
def mgx16152 : aw_A := ms_o [(0, 8)] [(0, 4)] ar_t32 ar_t32 [(0, 180)] [(46, 46)] [(39, 60)] [(1, 8)] [(1, 1)]
def mgh16153 : aw_H := [(81, mgx16152)]
def mgx16154 : aw_A := ms_o [(0, 8)] [(0, 4)] ar_t32 ar_t32 [(0, 180)] [(47, 47)] [(39, 60)] [(1, 8)] [(1, 1)]
def mgh16155 : aw_H := [(81, mgx16154)]
def mgx16156 : aw_A := ms_o [(0, 8)] [(0, 4)] ar_t32 ar_t32 [(0, 180)] [(48, 48)] [(39, 60)] [(1, 8)] [(1, 1)]
def mgh16157 : aw_H := [(81, mgx16156)]
def mgx16158 : aw_A := ms_o [(0, 8)] [(0, 4)] ar_t32 ar_t32 [(0, 180)] [(49, 49)] [(39, 60)] [(1, 8)] [(1, 1)]
def mgh16159 : aw_H := [(81, mgx16158)]
def mgx16160 : aw_A := ms_o [(0, 8)] [(0, 4)] ar_t32 ar_t32 [(0, 180)] [(50, 50)] [(39, 60)] [(1, 8)] [(1, 1)]
def mgh16161 : aw_H := [(81, mgx16160)]
def mgx16162 : aw_A := ms_o [(0, 8)] [(0, 4)] ar_t32 ar_t32 [(0, 180)] [(51, 51)] [(39, 60)] [(1, 8)] [(1, 1)]
def mgh16163 : aw_H := [(81, mgx16162)]
def mgx16164 : aw_A := ms_o [(0, 8)] [(0, 4)] ar_t32 ar_t32 [(0, 180)] [(52, 52)] [(39, 60)] [(1, 8)] [(1, 1)]
def mgh16165 : aw_H := [(81, mgx16164)]
def mgx16166 : aw_A := ms_o [(0, 8)] [(0, 4)] ar_t32 ar_t32 [(0, 180)] [(53, 53)] [(39, 60)] [(1, 8)] [(1, 1)]
def mgh16167 : aw_H := [(81, mgx16166)]
def mgx16168 : aw_A := ms_o [(0, 8)] [(0, 4)] ar_t32 ar_t32 [(0, 180)] [(54, 54)] [(39, 60)] [(1, 8)] [(1, 1)]
def mgh16169 : aw_H := [(81, mgx16168)]
def mgx16170 : aw_A := ms_o [(0, 8)] [(0, 4)] ar_t32 ar_t32 [(0, 180)] [(55, 55)] [(39, 60)] [(1, 8)] [(1, 1)]
def mgh16171 : aw_H := [(81, mgx16170)]
def mgx16172 : aw_A := ms_o [(0, 8)] [(0, 4)] ar_t32 ar_t32 [(0, 180)] [(56, 56)] [(39, 60)] [(1, 8)] [(1, 1)]
def mgh16173 : aw_H := [(81, mgx16172)]
def mgx16174 : aw_A := ms_o [(0, 8)] [(0, 4)] ar_t32 ar_t32 [(0, 180)] [(57, 57)] [(39, 60)] [(1, 8)] [(1, 1)]
def mgh16175 : aw_H := [(81, mgx16174)]
def mgx16176 : aw_A := ms_o [(0, 8)] [(0, 4)] ar_t32 ar_t32 [(0, 180)] [(58, 58)] [(39, 60)] [(1, 8)] [(1, 1)]
def mgh16177 : aw_H := [(81, mgx16176)]
def mgx16178 : aw_A := ms_o [(0, 8)] [(0, 4)] ar_t32 ar_t32 [(0, 180)] [(59, 59)] [(39, 60)] [(1, 8)] [(1, 1)]
def mgh16179 : aw_H := [(81, mgx16178)]
def mgx16180 : aw_A := ms_o [(0, 8)] [(0, 4)] ar_t32 ar_t32 [(0, 180)] [(60, 60)] [(39, 60)] [(1, 8)] [(1, 1)]
def mgh16181 : aw_H := [(81, mgx16180)]
/-- MiceRegistersModel.skip -/
def mgh16182 : aw_H := [(81, mgx16135), (90, .inr (.inl (0, 240, [], [])))]
def mgc847 : ak_C := (122, [.inl 81], mgh16182, [81], [([], none, mgh16139), ([], none, mgh16141), ([], none, mgh16143), ([], none, mgh16145), ([], none, mgh16147), ([], none, mgh16149), ([], none, mgh16151), ([], none, mgh16153), ([], none, mgh16155), ([], none, mgh16157), ([], none, mgh16159), ([], none, mgh16161), ([], none, mgh16163), ([], none, mgh16165), ([], none, mgh16167), ([], none, mgh16169), ([], none, mgh16171), ([], none, mgh16173), ([], none, mgh16175), ([], none, mgh16177), ([], none, mgh16179), ([], none, mgh16181)])
/-- MiceRegistersModel.readsLine -/
def mgx16183 : aw_A := ms_o [(0, 8)] [(0, 4)] ar_t32 ar_t32 [(0, 180)] [(36, 36)] [(37, 60)] [(1, 8)] [(1, 1)]
def mgh16184 : aw_H := [(81, mgx16183)]
def mgc848 : ak_C := (124, [.inl 81], mgh16184, [], [([], some (.inr (false, [(0, 0)])), [])])
theorem mgk848 : ai_chk [] mgc848 (fun pc => sm_ch sm_t124 pc, sm_Kn 3 3 none, fun x => sm_lk sm_ca3 x, some .boolean) [] 3 0 [] [] 2000 [] = true := by decide +kernel
/-- MiceRegistersModel.figure -/
def mgc849 : ak_C := (125, [.inl 81, .inr (false, [(0, 0)]), .inr (false, [(0, 7)])], mgh15638, [81], [([], some (.inr (false, [(-9, -9)])), mgh15591), ([], some (.inr (false, [(0, 7)])), mgh15871)])
/-- MiceRegistersModel.figure -/
def mgc850 : ak_C := (125, [.inl 81, .inr (false, [(1, 1)]), .inr (false, [(9, 9)])], mgh15916, [81], [([], some (.inr (false, [(-9, -9)])), mgh15871), ([], some (.inr (false, [(1, 9)])), mgh16139)])
def mgh16185 : aw_H := [(81, mgx16183), (94, mgx5052)]
def mgx16186 : aw_A := ms_o [(0, 8)] [(0, 4)] ar_t32 ar_t32 [(0, 180)] [(39, 39)] [(39, 60)] [(1, 8)] [(2, 2)]
def mgh16187 : aw_H := [(81, mgx16186), (94, mgx5820)]
/-- MiceRegistersModel.readsMouse -/
def mgh16188 : aw_H := [(81, mgx16183), (90, .inr (.inl (0, 240, [], []))), (94, mgx5052)]
def mgc851 : ak_C := (127, [.inl 81], mgh16188, [81, 94], [([], some (.inr (false, [(0, 0)])), mgh16185), ([], some (.inr (false, [(1, 1)])), mgh16187), ([], some (.inr (false, [(0, 0)])), mgh15868), ([], some (.inr (false, [(0, 0)])), mgh15588)])
theorem mgk851 : ai_chk [mgc43, mgc148, mgc849, mgc850] mgc851 (fun pc => sm_ch sm_t127 pc, sm_Kn 3 5 none, fun x => sm_lk sm_ca3 x, some .boolean) [81, 94] 5 0 [] [] 2000 [] = true := by decide +kernel
def mgh16189 : aw_H := [(81, mgx16186)]
def mgx16190 : aw_A := ms_o [(0, 8)] [(0, 4)] ar_t32 ar_t32 [(0, 180)] [(40, 40)] [(39, 60)] [(1, 8)] [(2, 2)]
def mgh16191 : aw_H := [(81, mgx16190)]
def mgx16192 : aw_A := ms_o [(0, 8)] [(0, 4)] ar_t32 ar_t32 [(0, 180)] [(41, 41)] [(39, 60)] [(1, 8)] [(2, 2)]
def mgh16193 : aw_H := [(81, mgx16192)]
def mgx16194 : aw_A := ms_o [(0, 8)] [(0, 4)] ar_t32 ar_t32 [(0, 180)] [(42, 42)] [(39, 60)] [(1, 8)] [(2, 2)]
def mgh16195 : aw_H := [(81, mgx16194)]
def mgx16196 : aw_A := ms_o [(0, 8)] [(0, 4)] ar_t32 ar_t32 [(0, 180)] [(43, 43)] [(39, 60)] [(1, 8)] [(2, 2)]
def mgh16197 : aw_H := [(81, mgx16196)]
def mgx16198 : aw_A := ms_o [(0, 8)] [(0, 4)] ar_t32 ar_t32 [(0, 180)] [(44, 44)] [(39, 60)] [(1, 8)] [(2, 2)]
def mgh16199 : aw_H := [(81, mgx16198)]
def mgx16200 : aw_A := ms_o [(0, 8)] [(0, 4)] ar_t32 ar_t32 [(0, 180)] [(45, 45)] [(39, 60)] [(1, 8)] [(2, 2)]
def mgh16201 : aw_H := [(81, mgx16200)]
def mgx16202 : aw_A := ms_o [(0, 8)] [(0, 4)] ar_t32 ar_t32 [(0, 180)] [(46, 46)] [(39, 60)] [(1, 8)] [(2, 2)]
def mgh16203 : aw_H := [(81, mgx16202)]
def mgx16204 : aw_A := ms_o [(0, 8)] [(0, 4)] ar_t32 ar_t32 [(0, 180)] [(47, 47)] [(39, 60)] [(1, 8)] [(2, 2)]
def mgh16205 : aw_H := [(81, mgx16204)]
def mgx16206 : aw_A := ms_o [(0, 8)] [(0, 4)] ar_t32 ar_t32 [(0, 180)] [(48, 48)] [(39, 60)] [(1, 8)] [(2, 2)]
def mgh16207 : aw_H := [(81, mgx16206)]
def mgx16208 : aw_A := ms_o [(0, 8)] [(0, 4)] ar_t32 ar_t32 [(0, 180)] [(49, 49)] [(39, 60)] [(1, 8)] [(2, 2)]
def mgh16209 : aw_H := [(81, mgx16208)]
def mgx16210 : aw_A := ms_o [(0, 8)] [(0, 4)] ar_t32 ar_t32 [(0, 180)] [(50, 50)] [(39, 60)] [(1, 8)] [(2, 2)]
def mgh16211 : aw_H := [(81, mgx16210)]
def mgx16212 : aw_A := ms_o [(0, 8)] [(0, 4)] ar_t32 ar_t32 [(0, 180)] [(51, 51)] [(39, 60)] [(1, 8)] [(2, 2)]
def mgh16213 : aw_H := [(81, mgx16212)]
def mgx16214 : aw_A := ms_o [(0, 8)] [(0, 4)] ar_t32 ar_t32 [(0, 180)] [(52, 52)] [(39, 60)] [(1, 8)] [(2, 2)]
def mgh16215 : aw_H := [(81, mgx16214)]
def mgx16216 : aw_A := ms_o [(0, 8)] [(0, 4)] ar_t32 ar_t32 [(0, 180)] [(53, 53)] [(39, 60)] [(1, 8)] [(2, 2)]
def mgh16217 : aw_H := [(81, mgx16216)]
def mgx16218 : aw_A := ms_o [(0, 8)] [(0, 4)] ar_t32 ar_t32 [(0, 180)] [(54, 54)] [(39, 60)] [(1, 8)] [(2, 2)]
def mgh16219 : aw_H := [(81, mgx16218)]
def mgx16220 : aw_A := ms_o [(0, 8)] [(0, 4)] ar_t32 ar_t32 [(0, 180)] [(55, 55)] [(39, 60)] [(1, 8)] [(2, 2)]
def mgh16221 : aw_H := [(81, mgx16220)]
def mgx16222 : aw_A := ms_o [(0, 8)] [(0, 4)] ar_t32 ar_t32 [(0, 180)] [(56, 56)] [(39, 60)] [(1, 8)] [(2, 2)]
def mgh16223 : aw_H := [(81, mgx16222)]
def mgx16224 : aw_A := ms_o [(0, 8)] [(0, 4)] ar_t32 ar_t32 [(0, 180)] [(57, 57)] [(39, 60)] [(1, 8)] [(2, 2)]
def mgh16225 : aw_H := [(81, mgx16224)]
def mgx16226 : aw_A := ms_o [(0, 8)] [(0, 4)] ar_t32 ar_t32 [(0, 180)] [(58, 58)] [(39, 60)] [(1, 8)] [(2, 2)]
def mgh16227 : aw_H := [(81, mgx16226)]
def mgx16228 : aw_A := ms_o [(0, 8)] [(0, 4)] ar_t32 ar_t32 [(0, 180)] [(59, 59)] [(39, 60)] [(1, 8)] [(2, 2)]
def mgh16229 : aw_H := [(81, mgx16228)]
def mgx16230 : aw_A := ms_o [(0, 8)] [(0, 4)] ar_t32 ar_t32 [(0, 180)] [(60, 60)] [(39, 60)] [(1, 8)] [(2, 2)]
def mgh16231 : aw_H := [(81, mgx16230)]
/-- MiceRegistersModel.skip -/
def mgh16232 : aw_H := [(81, mgx16186), (90, .inr (.inl (0, 240, [], [])))]
def mgc852 : ak_C := (122, [.inl 81], mgh16232, [81], [([], none, mgh16189), ([], none, mgh16191), ([], none, mgh16193), ([], none, mgh16195), ([], none, mgh16197), ([], none, mgh16199), ([], none, mgh16201), ([], none, mgh16203), ([], none, mgh16205), ([], none, mgh16207), ([], none, mgh16209), ([], none, mgh16211), ([], none, mgh16213), ([], none, mgh16215), ([], none, mgh16217), ([], none, mgh16219), ([], none, mgh16221), ([], none, mgh16223), ([], none, mgh16225), ([], none, mgh16227), ([], none, mgh16229), ([], none, mgh16231)])
/-- MiceRegistersModel.readsLine -/
def mgx16233 : aw_A := ms_o [(0, 8)] [(0, 4)] ar_t32 ar_t32 [(0, 180)] [(36, 36)] [(37, 60)] [(1, 7)] [(2, 2)]
def mgh16234 : aw_H := [(81, mgx16233)]
def mgc853 : ak_C := (124, [.inl 81], mgh16234, [], [([], some (.inr (false, [(0, 0)])), [])])
theorem mgk853 : ai_chk [] mgc853 (fun pc => sm_ch sm_t124 pc, sm_Kn 3 3 none, fun x => sm_lk sm_ca3 x, some .boolean) [] 3 0 [] [] 2000 [] = true := by decide +kernel
/-- MiceRegistersModel.figure -/
def mgc854 : ak_C := (125, [.inl 81, .inr (false, [(0, 0)]), .inr (false, [(0, 6)])], mgh15696, [81], [([], some (.inr (false, [(-9, -9)])), mgh15649), ([], some (.inr (false, [(0, 6)])), mgh15927)])
def mgx16235 : aw_A := ms_o [(0, 8)] [(0, 4)] ar_t32 ar_t32 [(0, 180)] [(39, 39)] [(39, 60)] [(1, 7)] [(2, 2)]
def mgh16236 : aw_H := [(81, mgx16235)]
/-- MiceRegistersModel.figure -/
def mgc855 : ak_C := (125, [.inl 81, .inr (false, [(1, 1)]), .inr (false, [(9, 9)])], mgh15972, [81], [([], some (.inr (false, [(-9, -9)])), mgh15927), ([], some (.inr (false, [(1, 9)])), mgh16236)])
def mgh16237 : aw_H := [(81, mgx16233), (94, mgx5820)]
def mgx16238 : aw_A := ms_o [(0, 8)] [(0, 4)] ar_t32 ar_t32 [(0, 180)] [(39, 39)] [(39, 60)] [(1, 7)] [(3, 3)]
def mgh16239 : aw_H := [(81, mgx16238), (94, mgx6868)]
/-- MiceRegistersModel.readsMouse -/
def mgh16240 : aw_H := [(81, mgx16233), (90, .inr (.inl (0, 240, [], []))), (94, mgx5820)]
def mgc856 : ak_C := (127, [.inl 81], mgh16240, [81, 94], [([], some (.inr (false, [(0, 0)])), mgh16237), ([], some (.inr (false, [(1, 1)])), mgh16239), ([], some (.inr (false, [(0, 0)])), mgh15924), ([], some (.inr (false, [(0, 0)])), mgh15646)])
theorem mgk856 : ai_chk [mgc43, mgc148, mgc854, mgc855] mgc856 (fun pc => sm_ch sm_t127 pc, sm_Kn 3 5 none, fun x => sm_lk sm_ca3 x, some .boolean) [81, 94] 5 0 [] [] 2000 [] = true := by decide +kernel
def mgh16241 : aw_H := [(81, mgx16238)]
def mgx16242 : aw_A := ms_o [(0, 8)] [(0, 4)] ar_t32 ar_t32 [(0, 180)] [(40, 40)] [(39, 60)] [(1, 7)] [(3, 3)]
def mgh16243 : aw_H := [(81, mgx16242)]
def mgx16244 : aw_A := ms_o [(0, 8)] [(0, 4)] ar_t32 ar_t32 [(0, 180)] [(41, 41)] [(39, 60)] [(1, 7)] [(3, 3)]
def mgh16245 : aw_H := [(81, mgx16244)]
def mgx16246 : aw_A := ms_o [(0, 8)] [(0, 4)] ar_t32 ar_t32 [(0, 180)] [(42, 42)] [(39, 60)] [(1, 7)] [(3, 3)]
def mgh16247 : aw_H := [(81, mgx16246)]
def mgx16248 : aw_A := ms_o [(0, 8)] [(0, 4)] ar_t32 ar_t32 [(0, 180)] [(43, 43)] [(39, 60)] [(1, 7)] [(3, 3)]
def mgh16249 : aw_H := [(81, mgx16248)]
def mgx16250 : aw_A := ms_o [(0, 8)] [(0, 4)] ar_t32 ar_t32 [(0, 180)] [(44, 44)] [(39, 60)] [(1, 7)] [(3, 3)]
def mgh16251 : aw_H := [(81, mgx16250)]
def mgx16252 : aw_A := ms_o [(0, 8)] [(0, 4)] ar_t32 ar_t32 [(0, 180)] [(45, 45)] [(39, 60)] [(1, 7)] [(3, 3)]
def mgh16253 : aw_H := [(81, mgx16252)]
def mgx16254 : aw_A := ms_o [(0, 8)] [(0, 4)] ar_t32 ar_t32 [(0, 180)] [(46, 46)] [(39, 60)] [(1, 7)] [(3, 3)]
def mgh16255 : aw_H := [(81, mgx16254)]
def mgx16256 : aw_A := ms_o [(0, 8)] [(0, 4)] ar_t32 ar_t32 [(0, 180)] [(47, 47)] [(39, 60)] [(1, 7)] [(3, 3)]
def mgh16257 : aw_H := [(81, mgx16256)]
def mgx16258 : aw_A := ms_o [(0, 8)] [(0, 4)] ar_t32 ar_t32 [(0, 180)] [(48, 48)] [(39, 60)] [(1, 7)] [(3, 3)]
def mgh16259 : aw_H := [(81, mgx16258)]
def mgx16260 : aw_A := ms_o [(0, 8)] [(0, 4)] ar_t32 ar_t32 [(0, 180)] [(49, 49)] [(39, 60)] [(1, 7)] [(3, 3)]
def mgh16261 : aw_H := [(81, mgx16260)]
def mgx16262 : aw_A := ms_o [(0, 8)] [(0, 4)] ar_t32 ar_t32 [(0, 180)] [(50, 50)] [(39, 60)] [(1, 7)] [(3, 3)]
def mgh16263 : aw_H := [(81, mgx16262)]
def mgx16264 : aw_A := ms_o [(0, 8)] [(0, 4)] ar_t32 ar_t32 [(0, 180)] [(51, 51)] [(39, 60)] [(1, 7)] [(3, 3)]
def mgh16265 : aw_H := [(81, mgx16264)]
def mgx16266 : aw_A := ms_o [(0, 8)] [(0, 4)] ar_t32 ar_t32 [(0, 180)] [(52, 52)] [(39, 60)] [(1, 7)] [(3, 3)]
def mgh16267 : aw_H := [(81, mgx16266)]
def mgx16268 : aw_A := ms_o [(0, 8)] [(0, 4)] ar_t32 ar_t32 [(0, 180)] [(53, 53)] [(39, 60)] [(1, 7)] [(3, 3)]
def mgh16269 : aw_H := [(81, mgx16268)]
def mgx16270 : aw_A := ms_o [(0, 8)] [(0, 4)] ar_t32 ar_t32 [(0, 180)] [(54, 54)] [(39, 60)] [(1, 7)] [(3, 3)]
def mgh16271 : aw_H := [(81, mgx16270)]
def mgx16272 : aw_A := ms_o [(0, 8)] [(0, 4)] ar_t32 ar_t32 [(0, 180)] [(55, 55)] [(39, 60)] [(1, 7)] [(3, 3)]
def mgh16273 : aw_H := [(81, mgx16272)]
def mgx16274 : aw_A := ms_o [(0, 8)] [(0, 4)] ar_t32 ar_t32 [(0, 180)] [(56, 56)] [(39, 60)] [(1, 7)] [(3, 3)]
def mgh16275 : aw_H := [(81, mgx16274)]
def mgx16276 : aw_A := ms_o [(0, 8)] [(0, 4)] ar_t32 ar_t32 [(0, 180)] [(57, 57)] [(39, 60)] [(1, 7)] [(3, 3)]
def mgh16277 : aw_H := [(81, mgx16276)]
def mgx16278 : aw_A := ms_o [(0, 8)] [(0, 4)] ar_t32 ar_t32 [(0, 180)] [(58, 58)] [(39, 60)] [(1, 7)] [(3, 3)]
def mgh16279 : aw_H := [(81, mgx16278)]
def mgx16280 : aw_A := ms_o [(0, 8)] [(0, 4)] ar_t32 ar_t32 [(0, 180)] [(59, 59)] [(39, 60)] [(1, 7)] [(3, 3)]
def mgh16281 : aw_H := [(81, mgx16280)]
def mgx16282 : aw_A := ms_o [(0, 8)] [(0, 4)] ar_t32 ar_t32 [(0, 180)] [(60, 60)] [(39, 60)] [(1, 7)] [(3, 3)]
def mgh16283 : aw_H := [(81, mgx16282)]
/-- MiceRegistersModel.skip -/
def mgh16284 : aw_H := [(81, mgx16238), (90, .inr (.inl (0, 240, [], [])))]
def mgc857 : ak_C := (122, [.inl 81], mgh16284, [81], [([], none, mgh16241), ([], none, mgh16243), ([], none, mgh16245), ([], none, mgh16247), ([], none, mgh16249), ([], none, mgh16251), ([], none, mgh16253), ([], none, mgh16255), ([], none, mgh16257), ([], none, mgh16259), ([], none, mgh16261), ([], none, mgh16263), ([], none, mgh16265), ([], none, mgh16267), ([], none, mgh16269), ([], none, mgh16271), ([], none, mgh16273), ([], none, mgh16275), ([], none, mgh16277), ([], none, mgh16279), ([], none, mgh16281), ([], none, mgh16283)])
/-- MiceRegistersModel.readsLine -/
def mgx16285 : aw_A := ms_o [(0, 8)] [(0, 4)] ar_t32 ar_t32 [(0, 180)] [(36, 36)] [(37, 60)] [(1, 6)] [(3, 3)]
def mgh16286 : aw_H := [(81, mgx16285)]
def mgc858 : ak_C := (124, [.inl 81], mgh16286, [], [([], some (.inr (false, [(0, 0)])), [])])
theorem mgk858 : ai_chk [] mgc858 (fun pc => sm_ch sm_t124 pc, sm_Kn 3 3 none, fun x => sm_lk sm_ca3 x, some .boolean) [] 3 0 [] [] 2000 [] = true := by decide +kernel
/-- MiceRegistersModel.figure -/
def mgc859 : ak_C := (125, [.inl 81, .inr (false, [(0, 0)]), .inr (false, [(0, 5)])], mgh15754, [81], [([], some (.inr (false, [(-9, -9)])), mgh15707), ([], some (.inr (false, [(0, 5)])), mgh16028)])
def mgx16287 : aw_A := ms_o [(0, 8)] [(0, 4)] ar_t32 ar_t32 [(0, 180)] [(39, 39)] [(39, 60)] [(1, 6)] [(3, 3)]
def mgh16288 : aw_H := [(81, mgx16287)]
/-- MiceRegistersModel.figure -/
def mgh16289 : aw_H := [(81, mgx16027), (90, .inr (.inl (0, 240, [], [])))]
def mgc860 : ak_C := (125, [.inl 81, .inr (false, [(1, 1)]), .inr (false, [(9, 9)])], mgh16289, [81], [([], some (.inr (false, [(-9, -9)])), mgh16028), ([], some (.inr (false, [(1, 9)])), mgh16288)])
def mgh16290 : aw_H := [(81, mgx16285), (94, mgx6868)]
def mgx16291 : aw_A := ms_o [(0, 8)] [(0, 4)] ar_t32 ar_t32 [(0, 180)] [(39, 39)] [(39, 60)] [(1, 6)] [(4, 4)]
def mgh16292 : aw_H := [(81, mgx16291), (94, mgx8150)]
def mgh16293 : aw_H := [(81, mgx16027), (94, mgx6868)]
/-- MiceRegistersModel.readsMouse -/
def mgh16294 : aw_H := [(81, mgx16285), (90, .inr (.inl (0, 240, [], []))), (94, mgx6868)]
def mgc861 : ak_C := (127, [.inl 81], mgh16294, [81, 94], [([], some (.inr (false, [(0, 0)])), mgh16290), ([], some (.inr (false, [(1, 1)])), mgh16292), ([], some (.inr (false, [(0, 0)])), mgh16293), ([], some (.inr (false, [(0, 0)])), mgh15704)])
theorem mgk861 : ai_chk [mgc43, mgc148, mgc859, mgc860] mgc861 (fun pc => sm_ch sm_t127 pc, sm_Kn 3 5 none, fun x => sm_lk sm_ca3 x, some .boolean) [81, 94] 5 0 [] [] 2000 [] = true := by decide +kernel
def mgh16295 : aw_H := [(81, mgx16291)]
def mgx16296 : aw_A := ms_o [(0, 8)] [(0, 4)] ar_t32 ar_t32 [(0, 180)] [(40, 40)] [(39, 60)] [(1, 6)] [(4, 4)]
def mgh16297 : aw_H := [(81, mgx16296)]
def mgx16298 : aw_A := ms_o [(0, 8)] [(0, 4)] ar_t32 ar_t32 [(0, 180)] [(41, 41)] [(39, 60)] [(1, 6)] [(4, 4)]
def mgh16299 : aw_H := [(81, mgx16298)]
def mgx16300 : aw_A := ms_o [(0, 8)] [(0, 4)] ar_t32 ar_t32 [(0, 180)] [(42, 42)] [(39, 60)] [(1, 6)] [(4, 4)]
def mgh16301 : aw_H := [(81, mgx16300)]
def mgx16302 : aw_A := ms_o [(0, 8)] [(0, 4)] ar_t32 ar_t32 [(0, 180)] [(43, 43)] [(39, 60)] [(1, 6)] [(4, 4)]
def mgh16303 : aw_H := [(81, mgx16302)]
def mgx16304 : aw_A := ms_o [(0, 8)] [(0, 4)] ar_t32 ar_t32 [(0, 180)] [(44, 44)] [(39, 60)] [(1, 6)] [(4, 4)]
def mgh16305 : aw_H := [(81, mgx16304)]
def mgx16306 : aw_A := ms_o [(0, 8)] [(0, 4)] ar_t32 ar_t32 [(0, 180)] [(45, 45)] [(39, 60)] [(1, 6)] [(4, 4)]
def mgh16307 : aw_H := [(81, mgx16306)]
def mgx16308 : aw_A := ms_o [(0, 8)] [(0, 4)] ar_t32 ar_t32 [(0, 180)] [(46, 46)] [(39, 60)] [(1, 6)] [(4, 4)]
def mgh16309 : aw_H := [(81, mgx16308)]
def mgx16310 : aw_A := ms_o [(0, 8)] [(0, 4)] ar_t32 ar_t32 [(0, 180)] [(47, 47)] [(39, 60)] [(1, 6)] [(4, 4)]
def mgh16311 : aw_H := [(81, mgx16310)]
def mgx16312 : aw_A := ms_o [(0, 8)] [(0, 4)] ar_t32 ar_t32 [(0, 180)] [(48, 48)] [(39, 60)] [(1, 6)] [(4, 4)]
def mgh16313 : aw_H := [(81, mgx16312)]
def mgx16314 : aw_A := ms_o [(0, 8)] [(0, 4)] ar_t32 ar_t32 [(0, 180)] [(49, 49)] [(39, 60)] [(1, 6)] [(4, 4)]
def mgh16315 : aw_H := [(81, mgx16314)]
def mgx16316 : aw_A := ms_o [(0, 8)] [(0, 4)] ar_t32 ar_t32 [(0, 180)] [(50, 50)] [(39, 60)] [(1, 6)] [(4, 4)]
def mgh16317 : aw_H := [(81, mgx16316)]
def mgx16318 : aw_A := ms_o [(0, 8)] [(0, 4)] ar_t32 ar_t32 [(0, 180)] [(51, 51)] [(39, 60)] [(1, 6)] [(4, 4)]
def mgh16319 : aw_H := [(81, mgx16318)]
def mgx16320 : aw_A := ms_o [(0, 8)] [(0, 4)] ar_t32 ar_t32 [(0, 180)] [(52, 52)] [(39, 60)] [(1, 6)] [(4, 4)]
def mgh16321 : aw_H := [(81, mgx16320)]
def mgx16322 : aw_A := ms_o [(0, 8)] [(0, 4)] ar_t32 ar_t32 [(0, 180)] [(53, 53)] [(39, 60)] [(1, 6)] [(4, 4)]
def mgh16323 : aw_H := [(81, mgx16322)]
def mgx16324 : aw_A := ms_o [(0, 8)] [(0, 4)] ar_t32 ar_t32 [(0, 180)] [(54, 54)] [(39, 60)] [(1, 6)] [(4, 4)]
def mgh16325 : aw_H := [(81, mgx16324)]
def mgx16326 : aw_A := ms_o [(0, 8)] [(0, 4)] ar_t32 ar_t32 [(0, 180)] [(55, 55)] [(39, 60)] [(1, 6)] [(4, 4)]
def mgh16327 : aw_H := [(81, mgx16326)]
def mgx16328 : aw_A := ms_o [(0, 8)] [(0, 4)] ar_t32 ar_t32 [(0, 180)] [(56, 56)] [(39, 60)] [(1, 6)] [(4, 4)]
def mgh16329 : aw_H := [(81, mgx16328)]
def mgx16330 : aw_A := ms_o [(0, 8)] [(0, 4)] ar_t32 ar_t32 [(0, 180)] [(57, 57)] [(39, 60)] [(1, 6)] [(4, 4)]
def mgh16331 : aw_H := [(81, mgx16330)]
def mgx16332 : aw_A := ms_o [(0, 8)] [(0, 4)] ar_t32 ar_t32 [(0, 180)] [(58, 58)] [(39, 60)] [(1, 6)] [(4, 4)]
def mgh16333 : aw_H := [(81, mgx16332)]
def mgx16334 : aw_A := ms_o [(0, 8)] [(0, 4)] ar_t32 ar_t32 [(0, 180)] [(59, 59)] [(39, 60)] [(1, 6)] [(4, 4)]
def mgh16335 : aw_H := [(81, mgx16334)]
def mgx16336 : aw_A := ms_o [(0, 8)] [(0, 4)] ar_t32 ar_t32 [(0, 180)] [(60, 60)] [(39, 60)] [(1, 6)] [(4, 4)]
def mgh16337 : aw_H := [(81, mgx16336)]
/-- MiceRegistersModel.skip -/
def mgh16338 : aw_H := [(81, mgx16291), (90, .inr (.inl (0, 240, [], [])))]
def mgc862 : ak_C := (122, [.inl 81], mgh16338, [81], [([], none, mgh16295), ([], none, mgh16297), ([], none, mgh16299), ([], none, mgh16301), ([], none, mgh16303), ([], none, mgh16305), ([], none, mgh16307), ([], none, mgh16309), ([], none, mgh16311), ([], none, mgh16313), ([], none, mgh16315), ([], none, mgh16317), ([], none, mgh16319), ([], none, mgh16321), ([], none, mgh16323), ([], none, mgh16325), ([], none, mgh16327), ([], none, mgh16329), ([], none, mgh16331), ([], none, mgh16333), ([], none, mgh16335), ([], none, mgh16337)])
/-- MiceRegistersModel.readsLine -/
def mgx16339 : aw_A := ms_o [(0, 8)] [(0, 4)] ar_t32 ar_t32 [(0, 180)] [(36, 36)] [(37, 60)] [(1, 5)] [(4, 4)]
def mgh16340 : aw_H := [(81, mgx16339)]
def mgc863 : ak_C := (124, [.inl 81], mgh16340, [], [([], some (.inr (false, [(0, 0)])), [])])
theorem mgk863 : ai_chk [] mgc863 (fun pc => sm_ch sm_t124 pc, sm_Kn 3 3 none, fun x => sm_lk sm_ca3 x, some .boolean) [] 3 0 [] [] 2000 [] = true := by decide +kernel
/-- MiceRegistersModel.readsMouse -/
def mgh16341 : aw_H := [(81, mgx16339), (90, .inr (.inl (0, 240, [], [])))]
def mgc864 : ak_C := (127, [.inl 81], mgh16341, [], [([], some (.inr (false, [(0, 0)])), [])])
theorem mgk864 : ai_chk [mgc43, mgc148] mgc864 (fun pc => sm_ch sm_t127 pc, sm_Kn 3 5 none, fun x => sm_lk sm_ca3 x, some .boolean) [] 5 0 [] [] 2000 [] = true := by decide +kernel
def mgx16342 : aw_A := ms_o [(0, 8)] [(0, 4)] ar_t32 ar_t32 [(0, 180)] [(41, 41)] [(41, 60)] [(0, 7)] [(0, 0)]
def mgh16343 : aw_H := [(81, mgx16342)]
/-- MiceRegistersModel.figure -/
def mgh16344 : aw_H := [(81, mgx16082), (90, .inr (.inl (0, 240, [], [])))]
def mgc865 : ak_C := (125, [.inl 81, .inr (false, [(0, 0)]), .inr (false, [(9, 9)])], mgh16344, [81], [([], some (.inr (false, [(-9, -9)])), mgh16083), ([], some (.inr (false, [(0, 9)])), mgh16343)])
/-- MiceRegistersModel.twoFigures -/
def mgc866 : ak_C := (126, [.inl 81, .inr (false, [(1, 1)]), .inr (false, [(40, 40)])], mgh16084, [81], [([], some (.inr (false, [(-9, -9)])), mgh15813), ([], some (.inr (false, [(0, 99)])), mgh16343), ([], some (.inr (false, [(-9, -9)])), mgh16083)])
theorem mgk866 : ai_chk [mgc840, mgc865, mgc144] mgc866 (fun pc => sm_ch sm_t126 pc, sm_Kn 3 6 none, fun x => sm_lk sm_ca3 x, some .int) [81] 6 0 [] [] 2000 [] = true := by decide +kernel
def mgh16345 : aw_H := [(81, mgx16082), (92, .inr (.inl (0, 8, [], []))), (93, .inr (.inl (0, 8, [], [])))]
def mgx16346 : aw_A := ms_o [(0, 8)] [(0, 4)] ar_t32 ar_t32 [(0, 180)] [(41, 41)] [(41, 60)] [(1, 8)] [(0, 0)]
def mgh16347 : aw_H := [(81, mgx16346), (92, .inr (.inl (0, 8, [], []))), (93, .inr (.inl (0, 8, [], [])))]
def mgx16348 : aw_A := ms_o [(0, 8)] [(0, 4)] ar_t32 ar_t32 [(0, 180)] [(37, 37)] [(38, 60)] [(8, 8)] [(0, 0)]
def mgh16349 : aw_H := [(81, mgx16348), (92, .inr (.inl (0, 8, [], []))), (93, .inr (.inl (0, 8, [], [])))]
/-- MiceRegistersModel.readsLine -/
def mgx16350 : aw_A := ms_o [(0, 8)] [(0, 4)] ar_t32 ar_t32 [(0, 180)] [(37, 37)] [(38, 60)] [(0, 8)] [(0, 0)]
def mgh16351 : aw_H := [(81, mgx16350), (90, .inr (.inl (0, 240, [], []))), (92, .inr (.inl (0, 8, [], []))), (93, .inr (.inl (0, 8, [], [])))]
def mgc867 : ak_C := (124, [.inl 81], mgh16351, [81, 92, 93], [([], some (.inr (false, [(0, 0)])), mgh16345), ([], some (.inr (false, [(1, 1)])), mgh16347), ([], some (.inr (false, [(0, 0)])), mgh16085), ([], some (.inr (false, [(0, 0)])), mgh15815), ([], some (.inr (false, [(0, 0)])), mgh16349)])
theorem mgk867 : ai_chk [mgc815, mgc866] mgc867 (fun pc => sm_ch sm_t124 pc, sm_Kn 3 3 none, fun x => sm_lk sm_ca3 x, some .boolean) [81, 92, 93] 3 0 [] [] 2000 [] = true := by decide +kernel
def mgh16352 : aw_H := [(81, mgx16346)]
def mgx16353 : aw_A := ms_o [(0, 8)] [(0, 4)] ar_t32 ar_t32 [(0, 180)] [(42, 42)] [(41, 60)] [(1, 8)] [(0, 0)]
def mgh16354 : aw_H := [(81, mgx16353)]
def mgx16355 : aw_A := ms_o [(0, 8)] [(0, 4)] ar_t32 ar_t32 [(0, 180)] [(43, 43)] [(41, 60)] [(1, 8)] [(0, 0)]
def mgh16356 : aw_H := [(81, mgx16355)]
def mgx16357 : aw_A := ms_o [(0, 8)] [(0, 4)] ar_t32 ar_t32 [(0, 180)] [(44, 44)] [(41, 60)] [(1, 8)] [(0, 0)]
def mgh16358 : aw_H := [(81, mgx16357)]
def mgx16359 : aw_A := ms_o [(0, 8)] [(0, 4)] ar_t32 ar_t32 [(0, 180)] [(45, 45)] [(41, 60)] [(1, 8)] [(0, 0)]
def mgh16360 : aw_H := [(81, mgx16359)]
def mgx16361 : aw_A := ms_o [(0, 8)] [(0, 4)] ar_t32 ar_t32 [(0, 180)] [(46, 46)] [(41, 60)] [(1, 8)] [(0, 0)]
def mgh16362 : aw_H := [(81, mgx16361)]
def mgx16363 : aw_A := ms_o [(0, 8)] [(0, 4)] ar_t32 ar_t32 [(0, 180)] [(47, 47)] [(41, 60)] [(1, 8)] [(0, 0)]
def mgh16364 : aw_H := [(81, mgx16363)]
def mgx16365 : aw_A := ms_o [(0, 8)] [(0, 4)] ar_t32 ar_t32 [(0, 180)] [(48, 48)] [(41, 60)] [(1, 8)] [(0, 0)]
def mgh16366 : aw_H := [(81, mgx16365)]
def mgx16367 : aw_A := ms_o [(0, 8)] [(0, 4)] ar_t32 ar_t32 [(0, 180)] [(49, 49)] [(41, 60)] [(1, 8)] [(0, 0)]
def mgh16368 : aw_H := [(81, mgx16367)]
def mgx16369 : aw_A := ms_o [(0, 8)] [(0, 4)] ar_t32 ar_t32 [(0, 180)] [(50, 50)] [(41, 60)] [(1, 8)] [(0, 0)]
def mgh16370 : aw_H := [(81, mgx16369)]
def mgx16371 : aw_A := ms_o [(0, 8)] [(0, 4)] ar_t32 ar_t32 [(0, 180)] [(51, 51)] [(41, 60)] [(1, 8)] [(0, 0)]
def mgh16372 : aw_H := [(81, mgx16371)]
def mgx16373 : aw_A := ms_o [(0, 8)] [(0, 4)] ar_t32 ar_t32 [(0, 180)] [(52, 52)] [(41, 60)] [(1, 8)] [(0, 0)]
def mgh16374 : aw_H := [(81, mgx16373)]
def mgx16375 : aw_A := ms_o [(0, 8)] [(0, 4)] ar_t32 ar_t32 [(0, 180)] [(53, 53)] [(41, 60)] [(1, 8)] [(0, 0)]
def mgh16376 : aw_H := [(81, mgx16375)]
def mgx16377 : aw_A := ms_o [(0, 8)] [(0, 4)] ar_t32 ar_t32 [(0, 180)] [(54, 54)] [(41, 60)] [(1, 8)] [(0, 0)]
def mgh16378 : aw_H := [(81, mgx16377)]
def mgx16379 : aw_A := ms_o [(0, 8)] [(0, 4)] ar_t32 ar_t32 [(0, 180)] [(55, 55)] [(41, 60)] [(1, 8)] [(0, 0)]
def mgh16380 : aw_H := [(81, mgx16379)]
def mgx16381 : aw_A := ms_o [(0, 8)] [(0, 4)] ar_t32 ar_t32 [(0, 180)] [(56, 56)] [(41, 60)] [(1, 8)] [(0, 0)]
def mgh16382 : aw_H := [(81, mgx16381)]
def mgx16383 : aw_A := ms_o [(0, 8)] [(0, 4)] ar_t32 ar_t32 [(0, 180)] [(57, 57)] [(41, 60)] [(1, 8)] [(0, 0)]
def mgh16384 : aw_H := [(81, mgx16383)]
def mgx16385 : aw_A := ms_o [(0, 8)] [(0, 4)] ar_t32 ar_t32 [(0, 180)] [(58, 58)] [(41, 60)] [(1, 8)] [(0, 0)]
def mgh16386 : aw_H := [(81, mgx16385)]
def mgx16387 : aw_A := ms_o [(0, 8)] [(0, 4)] ar_t32 ar_t32 [(0, 180)] [(59, 59)] [(41, 60)] [(1, 8)] [(0, 0)]
def mgh16388 : aw_H := [(81, mgx16387)]
def mgx16389 : aw_A := ms_o [(0, 8)] [(0, 4)] ar_t32 ar_t32 [(0, 180)] [(60, 60)] [(41, 60)] [(1, 8)] [(0, 0)]
def mgh16390 : aw_H := [(81, mgx16389)]
/-- MiceRegistersModel.skip -/
def mgh16391 : aw_H := [(81, mgx16346), (90, .inr (.inl (0, 240, [], [])))]
def mgc868 : ak_C := (122, [.inl 81], mgh16391, [81], [([], none, mgh16352), ([], none, mgh16354), ([], none, mgh16356), ([], none, mgh16358), ([], none, mgh16360), ([], none, mgh16362), ([], none, mgh16364), ([], none, mgh16366), ([], none, mgh16368), ([], none, mgh16370), ([], none, mgh16372), ([], none, mgh16374), ([], none, mgh16376), ([], none, mgh16378), ([], none, mgh16380), ([], none, mgh16382), ([], none, mgh16384), ([], none, mgh16386), ([], none, mgh16388), ([], none, mgh16390)])
/-- MiceRegistersModel.figure -/
def mgc869 : ak_C := (125, [.inl 81, .inr (false, [(0, 0)]), .inr (false, [(0, 7)])], mgh15585, [81], [([], some (.inr (false, [(-9, -9)])), mgh15540), ([], some (.inr (false, [(0, 7)])), mgh15822)])
/-- MiceRegistersModel.figure -/
def mgc870 : ak_C := (125, [.inl 81, .inr (false, [(1, 1)]), .inr (false, [(9, 9)])], mgh15865, [81], [([], some (.inr (false, [(-9, -9)])), mgh15822), ([], some (.inr (false, [(1, 9)])), mgh16092)])
def mgh16392 : aw_H := [(81, mgx16350), (94, mgx5049)]
def mgx16393 : aw_A := ms_o [(0, 8)] [(0, 4)] ar_t32 ar_t32 [(0, 180)] [(40, 40)] [(40, 60)] [(1, 8)] [(1, 1)]
def mgh16394 : aw_H := [(81, mgx16393), (94, mgx5052)]
def mgh16395 : aw_H := [(81, mgx15816), (94, mgx5049)]
/-- MiceRegistersModel.readsMouse -/
def mgh16396 : aw_H := [(81, mgx16350), (90, .inr (.inl (0, 240, [], []))), (94, mgx5049)]
def mgc871 : ak_C := (127, [.inl 81], mgh16396, [81, 94], [([], some (.inr (false, [(0, 0)])), mgh16392), ([], some (.inr (false, [(1, 1)])), mgh16394), ([], some (.inr (false, [(0, 0)])), mgh16395), ([], some (.inr (false, [(0, 0)])), mgh16137)])
theorem mgk871 : ai_chk [mgc42, mgc148, mgc869, mgc870] mgc871 (fun pc => sm_ch sm_t127 pc, sm_Kn 3 5 none, fun x => sm_lk sm_ca3 x, some .boolean) [81, 94] 5 0 [] [] 2000 [] = true := by decide +kernel
def mgh16397 : aw_H := [(81, mgx16393)]
def mgx16398 : aw_A := ms_o [(0, 8)] [(0, 4)] ar_t32 ar_t32 [(0, 180)] [(41, 41)] [(40, 60)] [(1, 8)] [(1, 1)]
def mgh16399 : aw_H := [(81, mgx16398)]
def mgx16400 : aw_A := ms_o [(0, 8)] [(0, 4)] ar_t32 ar_t32 [(0, 180)] [(42, 42)] [(40, 60)] [(1, 8)] [(1, 1)]
def mgh16401 : aw_H := [(81, mgx16400)]
def mgx16402 : aw_A := ms_o [(0, 8)] [(0, 4)] ar_t32 ar_t32 [(0, 180)] [(43, 43)] [(40, 60)] [(1, 8)] [(1, 1)]
def mgh16403 : aw_H := [(81, mgx16402)]
def mgx16404 : aw_A := ms_o [(0, 8)] [(0, 4)] ar_t32 ar_t32 [(0, 180)] [(44, 44)] [(40, 60)] [(1, 8)] [(1, 1)]
def mgh16405 : aw_H := [(81, mgx16404)]
def mgx16406 : aw_A := ms_o [(0, 8)] [(0, 4)] ar_t32 ar_t32 [(0, 180)] [(45, 45)] [(40, 60)] [(1, 8)] [(1, 1)]
def mgh16407 : aw_H := [(81, mgx16406)]
def mgx16408 : aw_A := ms_o [(0, 8)] [(0, 4)] ar_t32 ar_t32 [(0, 180)] [(46, 46)] [(40, 60)] [(1, 8)] [(1, 1)]
def mgh16409 : aw_H := [(81, mgx16408)]
def mgx16410 : aw_A := ms_o [(0, 8)] [(0, 4)] ar_t32 ar_t32 [(0, 180)] [(47, 47)] [(40, 60)] [(1, 8)] [(1, 1)]
def mgh16411 : aw_H := [(81, mgx16410)]
def mgx16412 : aw_A := ms_o [(0, 8)] [(0, 4)] ar_t32 ar_t32 [(0, 180)] [(48, 48)] [(40, 60)] [(1, 8)] [(1, 1)]
def mgh16413 : aw_H := [(81, mgx16412)]
def mgx16414 : aw_A := ms_o [(0, 8)] [(0, 4)] ar_t32 ar_t32 [(0, 180)] [(49, 49)] [(40, 60)] [(1, 8)] [(1, 1)]
def mgh16415 : aw_H := [(81, mgx16414)]
def mgx16416 : aw_A := ms_o [(0, 8)] [(0, 4)] ar_t32 ar_t32 [(0, 180)] [(50, 50)] [(40, 60)] [(1, 8)] [(1, 1)]
def mgh16417 : aw_H := [(81, mgx16416)]
def mgx16418 : aw_A := ms_o [(0, 8)] [(0, 4)] ar_t32 ar_t32 [(0, 180)] [(51, 51)] [(40, 60)] [(1, 8)] [(1, 1)]
def mgh16419 : aw_H := [(81, mgx16418)]
def mgx16420 : aw_A := ms_o [(0, 8)] [(0, 4)] ar_t32 ar_t32 [(0, 180)] [(52, 52)] [(40, 60)] [(1, 8)] [(1, 1)]
def mgh16421 : aw_H := [(81, mgx16420)]
def mgx16422 : aw_A := ms_o [(0, 8)] [(0, 4)] ar_t32 ar_t32 [(0, 180)] [(53, 53)] [(40, 60)] [(1, 8)] [(1, 1)]
def mgh16423 : aw_H := [(81, mgx16422)]
def mgx16424 : aw_A := ms_o [(0, 8)] [(0, 4)] ar_t32 ar_t32 [(0, 180)] [(54, 54)] [(40, 60)] [(1, 8)] [(1, 1)]
def mgh16425 : aw_H := [(81, mgx16424)]
def mgx16426 : aw_A := ms_o [(0, 8)] [(0, 4)] ar_t32 ar_t32 [(0, 180)] [(55, 55)] [(40, 60)] [(1, 8)] [(1, 1)]
def mgh16427 : aw_H := [(81, mgx16426)]
def mgx16428 : aw_A := ms_o [(0, 8)] [(0, 4)] ar_t32 ar_t32 [(0, 180)] [(56, 56)] [(40, 60)] [(1, 8)] [(1, 1)]
def mgh16429 : aw_H := [(81, mgx16428)]
def mgx16430 : aw_A := ms_o [(0, 8)] [(0, 4)] ar_t32 ar_t32 [(0, 180)] [(57, 57)] [(40, 60)] [(1, 8)] [(1, 1)]
def mgh16431 : aw_H := [(81, mgx16430)]
def mgx16432 : aw_A := ms_o [(0, 8)] [(0, 4)] ar_t32 ar_t32 [(0, 180)] [(58, 58)] [(40, 60)] [(1, 8)] [(1, 1)]
def mgh16433 : aw_H := [(81, mgx16432)]
def mgx16434 : aw_A := ms_o [(0, 8)] [(0, 4)] ar_t32 ar_t32 [(0, 180)] [(59, 59)] [(40, 60)] [(1, 8)] [(1, 1)]
def mgh16435 : aw_H := [(81, mgx16434)]
def mgx16436 : aw_A := ms_o [(0, 8)] [(0, 4)] ar_t32 ar_t32 [(0, 180)] [(60, 60)] [(40, 60)] [(1, 8)] [(1, 1)]
def mgh16437 : aw_H := [(81, mgx16436)]
/-- MiceRegistersModel.skip -/
def mgh16438 : aw_H := [(81, mgx16393), (90, .inr (.inl (0, 240, [], [])))]
def mgc872 : ak_C := (122, [.inl 81], mgh16438, [81], [([], none, mgh16397), ([], none, mgh16399), ([], none, mgh16401), ([], none, mgh16403), ([], none, mgh16405), ([], none, mgh16407), ([], none, mgh16409), ([], none, mgh16411), ([], none, mgh16413), ([], none, mgh16415), ([], none, mgh16417), ([], none, mgh16419), ([], none, mgh16421), ([], none, mgh16423), ([], none, mgh16425), ([], none, mgh16427), ([], none, mgh16429), ([], none, mgh16431), ([], none, mgh16433), ([], none, mgh16435), ([], none, mgh16437)])
/-- MiceRegistersModel.readsLine -/
def mgx16439 : aw_A := ms_o [(0, 8)] [(0, 4)] ar_t32 ar_t32 [(0, 180)] [(37, 37)] [(38, 60)] [(1, 8)] [(1, 1)]
def mgh16440 : aw_H := [(81, mgx16439)]
def mgc873 : ak_C := (124, [.inl 81], mgh16440, [], [([], some (.inr (false, [(0, 0)])), [])])
theorem mgk873 : ai_chk [] mgc873 (fun pc => sm_ch sm_t124 pc, sm_Kn 3 3 none, fun x => sm_lk sm_ca3 x, some .boolean) [] 3 0 [] [] 2000 [] = true := by decide +kernel
/-- MiceRegistersModel.figure -/
def mgc874 : ak_C := (125, [.inl 81, .inr (false, [(0, 0)]), .inr (false, [(0, 7)])], mgh15916, [81], [([], some (.inr (false, [(-9, -9)])), mgh15871), ([], some (.inr (false, [(0, 7)])), mgh16139)])
/-- MiceRegistersModel.figure -/
def mgc875 : ak_C := (125, [.inl 81, .inr (false, [(1, 1)]), .inr (false, [(9, 9)])], mgh16182, [81], [([], some (.inr (false, [(-9, -9)])), mgh16139), ([], some (.inr (false, [(1, 9)])), mgh16397)])
def mgh16441 : aw_H := [(81, mgx16439), (94, mgx5052)]
def mgx16442 : aw_A := ms_o [(0, 8)] [(0, 4)] ar_t32 ar_t32 [(0, 180)] [(40, 40)] [(40, 60)] [(1, 8)] [(2, 2)]
def mgh16443 : aw_H := [(81, mgx16442), (94, mgx5820)]
/-- MiceRegistersModel.readsMouse -/
def mgh16444 : aw_H := [(81, mgx16439), (90, .inr (.inl (0, 240, [], []))), (94, mgx5052)]
def mgc876 : ak_C := (127, [.inl 81], mgh16444, [81, 94], [([], some (.inr (false, [(0, 0)])), mgh16441), ([], some (.inr (false, [(1, 1)])), mgh16443), ([], some (.inr (false, [(0, 0)])), mgh16136), ([], some (.inr (false, [(0, 0)])), mgh15868)])
theorem mgk876 : ai_chk [mgc42, mgc148, mgc874, mgc875] mgc876 (fun pc => sm_ch sm_t127 pc, sm_Kn 3 5 none, fun x => sm_lk sm_ca3 x, some .boolean) [81, 94] 5 0 [] [] 2000 [] = true := by decide +kernel
def mgh16445 : aw_H := [(81, mgx16442)]
def mgx16446 : aw_A := ms_o [(0, 8)] [(0, 4)] ar_t32 ar_t32 [(0, 180)] [(41, 41)] [(40, 60)] [(1, 8)] [(2, 2)]
def mgh16447 : aw_H := [(81, mgx16446)]
def mgx16448 : aw_A := ms_o [(0, 8)] [(0, 4)] ar_t32 ar_t32 [(0, 180)] [(42, 42)] [(40, 60)] [(1, 8)] [(2, 2)]
def mgh16449 : aw_H := [(81, mgx16448)]
def mgx16450 : aw_A := ms_o [(0, 8)] [(0, 4)] ar_t32 ar_t32 [(0, 180)] [(43, 43)] [(40, 60)] [(1, 8)] [(2, 2)]
def mgh16451 : aw_H := [(81, mgx16450)]
def mgx16452 : aw_A := ms_o [(0, 8)] [(0, 4)] ar_t32 ar_t32 [(0, 180)] [(44, 44)] [(40, 60)] [(1, 8)] [(2, 2)]
def mgh16453 : aw_H := [(81, mgx16452)]
def mgx16454 : aw_A := ms_o [(0, 8)] [(0, 4)] ar_t32 ar_t32 [(0, 180)] [(45, 45)] [(40, 60)] [(1, 8)] [(2, 2)]
def mgh16455 : aw_H := [(81, mgx16454)]
def mgx16456 : aw_A := ms_o [(0, 8)] [(0, 4)] ar_t32 ar_t32 [(0, 180)] [(46, 46)] [(40, 60)] [(1, 8)] [(2, 2)]
def mgh16457 : aw_H := [(81, mgx16456)]
def mgx16458 : aw_A := ms_o [(0, 8)] [(0, 4)] ar_t32 ar_t32 [(0, 180)] [(47, 47)] [(40, 60)] [(1, 8)] [(2, 2)]
def mgh16459 : aw_H := [(81, mgx16458)]
def mgx16460 : aw_A := ms_o [(0, 8)] [(0, 4)] ar_t32 ar_t32 [(0, 180)] [(48, 48)] [(40, 60)] [(1, 8)] [(2, 2)]
def mgh16461 : aw_H := [(81, mgx16460)]
def mgx16462 : aw_A := ms_o [(0, 8)] [(0, 4)] ar_t32 ar_t32 [(0, 180)] [(49, 49)] [(40, 60)] [(1, 8)] [(2, 2)]
def mgh16463 : aw_H := [(81, mgx16462)]
def mgx16464 : aw_A := ms_o [(0, 8)] [(0, 4)] ar_t32 ar_t32 [(0, 180)] [(50, 50)] [(40, 60)] [(1, 8)] [(2, 2)]
def mgh16465 : aw_H := [(81, mgx16464)]
def mgx16466 : aw_A := ms_o [(0, 8)] [(0, 4)] ar_t32 ar_t32 [(0, 180)] [(51, 51)] [(40, 60)] [(1, 8)] [(2, 2)]
def mgh16467 : aw_H := [(81, mgx16466)]
def mgx16468 : aw_A := ms_o [(0, 8)] [(0, 4)] ar_t32 ar_t32 [(0, 180)] [(52, 52)] [(40, 60)] [(1, 8)] [(2, 2)]
def mgh16469 : aw_H := [(81, mgx16468)]
def mgx16470 : aw_A := ms_o [(0, 8)] [(0, 4)] ar_t32 ar_t32 [(0, 180)] [(53, 53)] [(40, 60)] [(1, 8)] [(2, 2)]
def mgh16471 : aw_H := [(81, mgx16470)]
def mgx16472 : aw_A := ms_o [(0, 8)] [(0, 4)] ar_t32 ar_t32 [(0, 180)] [(54, 54)] [(40, 60)] [(1, 8)] [(2, 2)]
def mgh16473 : aw_H := [(81, mgx16472)]
def mgx16474 : aw_A := ms_o [(0, 8)] [(0, 4)] ar_t32 ar_t32 [(0, 180)] [(55, 55)] [(40, 60)] [(1, 8)] [(2, 2)]
def mgh16475 : aw_H := [(81, mgx16474)]
def mgx16476 : aw_A := ms_o [(0, 8)] [(0, 4)] ar_t32 ar_t32 [(0, 180)] [(56, 56)] [(40, 60)] [(1, 8)] [(2, 2)]
def mgh16477 : aw_H := [(81, mgx16476)]
def mgx16478 : aw_A := ms_o [(0, 8)] [(0, 4)] ar_t32 ar_t32 [(0, 180)] [(57, 57)] [(40, 60)] [(1, 8)] [(2, 2)]
def mgh16479 : aw_H := [(81, mgx16478)]
def mgx16480 : aw_A := ms_o [(0, 8)] [(0, 4)] ar_t32 ar_t32 [(0, 180)] [(58, 58)] [(40, 60)] [(1, 8)] [(2, 2)]
def mgh16481 : aw_H := [(81, mgx16480)]
def mgx16482 : aw_A := ms_o [(0, 8)] [(0, 4)] ar_t32 ar_t32 [(0, 180)] [(59, 59)] [(40, 60)] [(1, 8)] [(2, 2)]
def mgh16483 : aw_H := [(81, mgx16482)]
def mgx16484 : aw_A := ms_o [(0, 8)] [(0, 4)] ar_t32 ar_t32 [(0, 180)] [(60, 60)] [(40, 60)] [(1, 8)] [(2, 2)]
def mgh16485 : aw_H := [(81, mgx16484)]
/-- MiceRegistersModel.skip -/
def mgh16486 : aw_H := [(81, mgx16442), (90, .inr (.inl (0, 240, [], [])))]
def mgc877 : ak_C := (122, [.inl 81], mgh16486, [81], [([], none, mgh16445), ([], none, mgh16447), ([], none, mgh16449), ([], none, mgh16451), ([], none, mgh16453), ([], none, mgh16455), ([], none, mgh16457), ([], none, mgh16459), ([], none, mgh16461), ([], none, mgh16463), ([], none, mgh16465), ([], none, mgh16467), ([], none, mgh16469), ([], none, mgh16471), ([], none, mgh16473), ([], none, mgh16475), ([], none, mgh16477), ([], none, mgh16479), ([], none, mgh16481), ([], none, mgh16483), ([], none, mgh16485)])
/-- MiceRegistersModel.readsLine -/
def mgx16487 : aw_A := ms_o [(0, 8)] [(0, 4)] ar_t32 ar_t32 [(0, 180)] [(37, 37)] [(38, 60)] [(1, 7)] [(2, 2)]
def mgh16488 : aw_H := [(81, mgx16487)]
def mgc878 : ak_C := (124, [.inl 81], mgh16488, [], [([], some (.inr (false, [(0, 0)])), [])])
theorem mgk878 : ai_chk [] mgc878 (fun pc => sm_ch sm_t124 pc, sm_Kn 3 3 none, fun x => sm_lk sm_ca3 x, some .boolean) [] 3 0 [] [] 2000 [] = true := by decide +kernel
/-- MiceRegistersModel.figure -/
def mgc879 : ak_C := (125, [.inl 81, .inr (false, [(0, 0)]), .inr (false, [(0, 6)])], mgh15972, [81], [([], some (.inr (false, [(-9, -9)])), mgh15927), ([], some (.inr (false, [(0, 6)])), mgh16236)])
def mgx16489 : aw_A := ms_o [(0, 8)] [(0, 4)] ar_t32 ar_t32 [(0, 180)] [(40, 40)] [(40, 60)] [(1, 7)] [(2, 2)]
def mgh16490 : aw_H := [(81, mgx16489)]
/-- MiceRegistersModel.figure -/
def mgh16491 : aw_H := [(81, mgx16235), (90, .inr (.inl (0, 240, [], [])))]
def mgc880 : ak_C := (125, [.inl 81, .inr (false, [(1, 1)]), .inr (false, [(9, 9)])], mgh16491, [81], [([], some (.inr (false, [(-9, -9)])), mgh16236), ([], some (.inr (false, [(1, 9)])), mgh16490)])
def mgh16492 : aw_H := [(81, mgx16487), (94, mgx5820)]
def mgx16493 : aw_A := ms_o [(0, 8)] [(0, 4)] ar_t32 ar_t32 [(0, 180)] [(40, 40)] [(40, 60)] [(1, 7)] [(3, 3)]
def mgh16494 : aw_H := [(81, mgx16493), (94, mgx6868)]
def mgh16495 : aw_H := [(81, mgx16235), (94, mgx5820)]
/-- MiceRegistersModel.readsMouse -/
def mgh16496 : aw_H := [(81, mgx16487), (90, .inr (.inl (0, 240, [], []))), (94, mgx5820)]
def mgc881 : ak_C := (127, [.inl 81], mgh16496, [81, 94], [([], some (.inr (false, [(0, 0)])), mgh16492), ([], some (.inr (false, [(1, 1)])), mgh16494), ([], some (.inr (false, [(0, 0)])), mgh16495), ([], some (.inr (false, [(0, 0)])), mgh15924)])
theorem mgk881 : ai_chk [mgc42, mgc148, mgc879, mgc880] mgc881 (fun pc => sm_ch sm_t127 pc, sm_Kn 3 5 none, fun x => sm_lk sm_ca3 x, some .boolean) [81, 94] 5 0 [] [] 2000 [] = true := by decide +kernel
def mgh16497 : aw_H := [(81, mgx16493)]
def mgx16498 : aw_A := ms_o [(0, 8)] [(0, 4)] ar_t32 ar_t32 [(0, 180)] [(41, 41)] [(40, 60)] [(1, 7)] [(3, 3)]
def mgh16499 : aw_H := [(81, mgx16498)]
def mgx16500 : aw_A := ms_o [(0, 8)] [(0, 4)] ar_t32 ar_t32 [(0, 180)] [(42, 42)] [(40, 60)] [(1, 7)] [(3, 3)]
def mgh16501 : aw_H := [(81, mgx16500)]
def mgx16502 : aw_A := ms_o [(0, 8)] [(0, 4)] ar_t32 ar_t32 [(0, 180)] [(43, 43)] [(40, 60)] [(1, 7)] [(3, 3)]
def mgh16503 : aw_H := [(81, mgx16502)]
def mgx16504 : aw_A := ms_o [(0, 8)] [(0, 4)] ar_t32 ar_t32 [(0, 180)] [(44, 44)] [(40, 60)] [(1, 7)] [(3, 3)]
def mgh16505 : aw_H := [(81, mgx16504)]
def mgx16506 : aw_A := ms_o [(0, 8)] [(0, 4)] ar_t32 ar_t32 [(0, 180)] [(45, 45)] [(40, 60)] [(1, 7)] [(3, 3)]
def mgh16507 : aw_H := [(81, mgx16506)]
def mgx16508 : aw_A := ms_o [(0, 8)] [(0, 4)] ar_t32 ar_t32 [(0, 180)] [(46, 46)] [(40, 60)] [(1, 7)] [(3, 3)]
def mgh16509 : aw_H := [(81, mgx16508)]
def mgx16510 : aw_A := ms_o [(0, 8)] [(0, 4)] ar_t32 ar_t32 [(0, 180)] [(47, 47)] [(40, 60)] [(1, 7)] [(3, 3)]
def mgh16511 : aw_H := [(81, mgx16510)]
def mgx16512 : aw_A := ms_o [(0, 8)] [(0, 4)] ar_t32 ar_t32 [(0, 180)] [(48, 48)] [(40, 60)] [(1, 7)] [(3, 3)]
def mgh16513 : aw_H := [(81, mgx16512)]
def mgx16514 : aw_A := ms_o [(0, 8)] [(0, 4)] ar_t32 ar_t32 [(0, 180)] [(49, 49)] [(40, 60)] [(1, 7)] [(3, 3)]
def mgh16515 : aw_H := [(81, mgx16514)]
def mgx16516 : aw_A := ms_o [(0, 8)] [(0, 4)] ar_t32 ar_t32 [(0, 180)] [(50, 50)] [(40, 60)] [(1, 7)] [(3, 3)]
def mgh16517 : aw_H := [(81, mgx16516)]
def mgx16518 : aw_A := ms_o [(0, 8)] [(0, 4)] ar_t32 ar_t32 [(0, 180)] [(51, 51)] [(40, 60)] [(1, 7)] [(3, 3)]
def mgh16519 : aw_H := [(81, mgx16518)]
def mgx16520 : aw_A := ms_o [(0, 8)] [(0, 4)] ar_t32 ar_t32 [(0, 180)] [(52, 52)] [(40, 60)] [(1, 7)] [(3, 3)]
def mgh16521 : aw_H := [(81, mgx16520)]
def mgx16522 : aw_A := ms_o [(0, 8)] [(0, 4)] ar_t32 ar_t32 [(0, 180)] [(53, 53)] [(40, 60)] [(1, 7)] [(3, 3)]
def mgh16523 : aw_H := [(81, mgx16522)]
def mgx16524 : aw_A := ms_o [(0, 8)] [(0, 4)] ar_t32 ar_t32 [(0, 180)] [(54, 54)] [(40, 60)] [(1, 7)] [(3, 3)]
def mgh16525 : aw_H := [(81, mgx16524)]
def mgx16526 : aw_A := ms_o [(0, 8)] [(0, 4)] ar_t32 ar_t32 [(0, 180)] [(55, 55)] [(40, 60)] [(1, 7)] [(3, 3)]
def mgh16527 : aw_H := [(81, mgx16526)]
def mgx16528 : aw_A := ms_o [(0, 8)] [(0, 4)] ar_t32 ar_t32 [(0, 180)] [(56, 56)] [(40, 60)] [(1, 7)] [(3, 3)]
def mgh16529 : aw_H := [(81, mgx16528)]
def mgx16530 : aw_A := ms_o [(0, 8)] [(0, 4)] ar_t32 ar_t32 [(0, 180)] [(57, 57)] [(40, 60)] [(1, 7)] [(3, 3)]
def mgh16531 : aw_H := [(81, mgx16530)]
def mgx16532 : aw_A := ms_o [(0, 8)] [(0, 4)] ar_t32 ar_t32 [(0, 180)] [(58, 58)] [(40, 60)] [(1, 7)] [(3, 3)]
def mgh16533 : aw_H := [(81, mgx16532)]
def mgx16534 : aw_A := ms_o [(0, 8)] [(0, 4)] ar_t32 ar_t32 [(0, 180)] [(59, 59)] [(40, 60)] [(1, 7)] [(3, 3)]
def mgh16535 : aw_H := [(81, mgx16534)]
def mgx16536 : aw_A := ms_o [(0, 8)] [(0, 4)] ar_t32 ar_t32 [(0, 180)] [(60, 60)] [(40, 60)] [(1, 7)] [(3, 3)]
def mgh16537 : aw_H := [(81, mgx16536)]
/-- MiceRegistersModel.skip -/
def mgh16538 : aw_H := [(81, mgx16493), (90, .inr (.inl (0, 240, [], [])))]
def mgc882 : ak_C := (122, [.inl 81], mgh16538, [81], [([], none, mgh16497), ([], none, mgh16499), ([], none, mgh16501), ([], none, mgh16503), ([], none, mgh16505), ([], none, mgh16507), ([], none, mgh16509), ([], none, mgh16511), ([], none, mgh16513), ([], none, mgh16515), ([], none, mgh16517), ([], none, mgh16519), ([], none, mgh16521), ([], none, mgh16523), ([], none, mgh16525), ([], none, mgh16527), ([], none, mgh16529), ([], none, mgh16531), ([], none, mgh16533), ([], none, mgh16535), ([], none, mgh16537)])
/-- MiceRegistersModel.readsLine -/
def mgx16539 : aw_A := ms_o [(0, 8)] [(0, 4)] ar_t32 ar_t32 [(0, 180)] [(37, 37)] [(38, 60)] [(1, 6)] [(3, 3)]
def mgh16540 : aw_H := [(81, mgx16539)]
def mgc883 : ak_C := (124, [.inl 81], mgh16540, [], [([], some (.inr (false, [(0, 0)])), [])])
theorem mgk883 : ai_chk [] mgc883 (fun pc => sm_ch sm_t124 pc, sm_Kn 3 3 none, fun x => sm_lk sm_ca3 x, some .boolean) [] 3 0 [] [] 2000 [] = true := by decide +kernel
/-- MiceRegistersModel.figure -/
def mgc884 : ak_C := (125, [.inl 81, .inr (false, [(0, 0)]), .inr (false, [(0, 5)])], mgh16289, [81], [([], some (.inr (false, [(-9, -9)])), mgh16028), ([], some (.inr (false, [(0, 5)])), mgh16288)])
def mgx16541 : aw_A := ms_o [(0, 8)] [(0, 4)] ar_t32 ar_t32 [(0, 180)] [(40, 40)] [(40, 60)] [(1, 6)] [(3, 3)]
def mgh16542 : aw_H := [(81, mgx16541)]
/-- MiceRegistersModel.figure -/
def mgh16543 : aw_H := [(81, mgx16287), (90, .inr (.inl (0, 240, [], [])))]
def mgc885 : ak_C := (125, [.inl 81, .inr (false, [(1, 1)]), .inr (false, [(9, 9)])], mgh16543, [81], [([], some (.inr (false, [(-9, -9)])), mgh16288), ([], some (.inr (false, [(1, 9)])), mgh16542)])
def mgh16544 : aw_H := [(81, mgx16539), (94, mgx6868)]
def mgx16545 : aw_A := ms_o [(0, 8)] [(0, 4)] ar_t32 ar_t32 [(0, 180)] [(40, 40)] [(40, 60)] [(1, 6)] [(4, 4)]
def mgh16546 : aw_H := [(81, mgx16545), (94, mgx8150)]
def mgh16547 : aw_H := [(81, mgx16287), (94, mgx6868)]
/-- MiceRegistersModel.readsMouse -/
def mgh16548 : aw_H := [(81, mgx16539), (90, .inr (.inl (0, 240, [], []))), (94, mgx6868)]
def mgc886 : ak_C := (127, [.inl 81], mgh16548, [81, 94], [([], some (.inr (false, [(0, 0)])), mgh16544), ([], some (.inr (false, [(1, 1)])), mgh16546), ([], some (.inr (false, [(0, 0)])), mgh16547), ([], some (.inr (false, [(0, 0)])), mgh16293)])
theorem mgk886 : ai_chk [mgc42, mgc148, mgc884, mgc885] mgc886 (fun pc => sm_ch sm_t127 pc, sm_Kn 3 5 none, fun x => sm_lk sm_ca3 x, some .boolean) [81, 94] 5 0 [] [] 2000 [] = true := by decide +kernel
def mgh16549 : aw_H := [(81, mgx16545)]
def mgx16550 : aw_A := ms_o [(0, 8)] [(0, 4)] ar_t32 ar_t32 [(0, 180)] [(41, 41)] [(40, 60)] [(1, 6)] [(4, 4)]
def mgh16551 : aw_H := [(81, mgx16550)]
def mgx16552 : aw_A := ms_o [(0, 8)] [(0, 4)] ar_t32 ar_t32 [(0, 180)] [(42, 42)] [(40, 60)] [(1, 6)] [(4, 4)]
def mgh16553 : aw_H := [(81, mgx16552)]
def mgx16554 : aw_A := ms_o [(0, 8)] [(0, 4)] ar_t32 ar_t32 [(0, 180)] [(43, 43)] [(40, 60)] [(1, 6)] [(4, 4)]
def mgh16555 : aw_H := [(81, mgx16554)]
def mgx16556 : aw_A := ms_o [(0, 8)] [(0, 4)] ar_t32 ar_t32 [(0, 180)] [(44, 44)] [(40, 60)] [(1, 6)] [(4, 4)]
def mgh16557 : aw_H := [(81, mgx16556)]
def mgx16558 : aw_A := ms_o [(0, 8)] [(0, 4)] ar_t32 ar_t32 [(0, 180)] [(45, 45)] [(40, 60)] [(1, 6)] [(4, 4)]
def mgh16559 : aw_H := [(81, mgx16558)]
def mgx16560 : aw_A := ms_o [(0, 8)] [(0, 4)] ar_t32 ar_t32 [(0, 180)] [(46, 46)] [(40, 60)] [(1, 6)] [(4, 4)]
def mgh16561 : aw_H := [(81, mgx16560)]
def mgx16562 : aw_A := ms_o [(0, 8)] [(0, 4)] ar_t32 ar_t32 [(0, 180)] [(47, 47)] [(40, 60)] [(1, 6)] [(4, 4)]
def mgh16563 : aw_H := [(81, mgx16562)]
def mgx16564 : aw_A := ms_o [(0, 8)] [(0, 4)] ar_t32 ar_t32 [(0, 180)] [(48, 48)] [(40, 60)] [(1, 6)] [(4, 4)]
def mgh16565 : aw_H := [(81, mgx16564)]
def mgx16566 : aw_A := ms_o [(0, 8)] [(0, 4)] ar_t32 ar_t32 [(0, 180)] [(49, 49)] [(40, 60)] [(1, 6)] [(4, 4)]
def mgh16567 : aw_H := [(81, mgx16566)]
def mgx16568 : aw_A := ms_o [(0, 8)] [(0, 4)] ar_t32 ar_t32 [(0, 180)] [(50, 50)] [(40, 60)] [(1, 6)] [(4, 4)]
def mgh16569 : aw_H := [(81, mgx16568)]
def mgx16570 : aw_A := ms_o [(0, 8)] [(0, 4)] ar_t32 ar_t32 [(0, 180)] [(51, 51)] [(40, 60)] [(1, 6)] [(4, 4)]
def mgh16571 : aw_H := [(81, mgx16570)]
def mgx16572 : aw_A := ms_o [(0, 8)] [(0, 4)] ar_t32 ar_t32 [(0, 180)] [(52, 52)] [(40, 60)] [(1, 6)] [(4, 4)]
def mgh16573 : aw_H := [(81, mgx16572)]
def mgx16574 : aw_A := ms_o [(0, 8)] [(0, 4)] ar_t32 ar_t32 [(0, 180)] [(53, 53)] [(40, 60)] [(1, 6)] [(4, 4)]
def mgh16575 : aw_H := [(81, mgx16574)]
def mgx16576 : aw_A := ms_o [(0, 8)] [(0, 4)] ar_t32 ar_t32 [(0, 180)] [(54, 54)] [(40, 60)] [(1, 6)] [(4, 4)]
def mgh16577 : aw_H := [(81, mgx16576)]
def mgx16578 : aw_A := ms_o [(0, 8)] [(0, 4)] ar_t32 ar_t32 [(0, 180)] [(55, 55)] [(40, 60)] [(1, 6)] [(4, 4)]
def mgh16579 : aw_H := [(81, mgx16578)]
def mgx16580 : aw_A := ms_o [(0, 8)] [(0, 4)] ar_t32 ar_t32 [(0, 180)] [(56, 56)] [(40, 60)] [(1, 6)] [(4, 4)]
def mgh16581 : aw_H := [(81, mgx16580)]
def mgx16582 : aw_A := ms_o [(0, 8)] [(0, 4)] ar_t32 ar_t32 [(0, 180)] [(57, 57)] [(40, 60)] [(1, 6)] [(4, 4)]
def mgh16583 : aw_H := [(81, mgx16582)]
def mgx16584 : aw_A := ms_o [(0, 8)] [(0, 4)] ar_t32 ar_t32 [(0, 180)] [(58, 58)] [(40, 60)] [(1, 6)] [(4, 4)]
def mgh16585 : aw_H := [(81, mgx16584)]
def mgx16586 : aw_A := ms_o [(0, 8)] [(0, 4)] ar_t32 ar_t32 [(0, 180)] [(59, 59)] [(40, 60)] [(1, 6)] [(4, 4)]
def mgh16587 : aw_H := [(81, mgx16586)]
def mgx16588 : aw_A := ms_o [(0, 8)] [(0, 4)] ar_t32 ar_t32 [(0, 180)] [(60, 60)] [(40, 60)] [(1, 6)] [(4, 4)]
def mgh16589 : aw_H := [(81, mgx16588)]
/-- MiceRegistersModel.skip -/
def mgh16590 : aw_H := [(81, mgx16545), (90, .inr (.inl (0, 240, [], [])))]
def mgc887 : ak_C := (122, [.inl 81], mgh16590, [81], [([], none, mgh16549), ([], none, mgh16551), ([], none, mgh16553), ([], none, mgh16555), ([], none, mgh16557), ([], none, mgh16559), ([], none, mgh16561), ([], none, mgh16563), ([], none, mgh16565), ([], none, mgh16567), ([], none, mgh16569), ([], none, mgh16571), ([], none, mgh16573), ([], none, mgh16575), ([], none, mgh16577), ([], none, mgh16579), ([], none, mgh16581), ([], none, mgh16583), ([], none, mgh16585), ([], none, mgh16587), ([], none, mgh16589)])
/-- MiceRegistersModel.readsLine -/
def mgx16591 : aw_A := ms_o [(0, 8)] [(0, 4)] ar_t32 ar_t32 [(0, 180)] [(37, 37)] [(38, 60)] [(1, 6)] [(4, 4)]
def mgh16592 : aw_H := [(81, mgx16591)]
def mgc888 : ak_C := (124, [.inl 81], mgh16592, [], [([], some (.inr (false, [(0, 0)])), [])])
theorem mgk888 : ai_chk [] mgc888 (fun pc => sm_ch sm_t124 pc, sm_Kn 3 3 none, fun x => sm_lk sm_ca3 x, some .boolean) [] 3 0 [] [] 2000 [] = true := by decide +kernel
/-- MiceRegistersModel.readsMouse -/
def mgh16593 : aw_H := [(81, mgx16591), (90, .inr (.inl (0, 240, [], [])))]
def mgc889 : ak_C := (127, [.inl 81], mgh16593, [], [([], some (.inr (false, [(0, 0)])), [])])
theorem mgk889 : ai_chk [mgc42, mgc148] mgc889 (fun pc => sm_ch sm_t127 pc, sm_Kn 3 5 none, fun x => sm_lk sm_ca3 x, some .boolean) [] 5 0 [] [] 2000 [] = true := by decide +kernel
def mgx16594 : aw_A := ms_o [(0, 8)] [(0, 4)] ar_t32 ar_t32 [(0, 180)] [(42, 42)] [(42, 60)] [(0, 7)] [(0, 0)]
def mgh16595 : aw_H := [(81, mgx16594)]
/-- MiceRegistersModel.figure -/
def mgh16596 : aw_H := [(81, mgx16342), (90, .inr (.inl (0, 240, [], [])))]
def mgc890 : ak_C := (125, [.inl 81, .inr (false, [(0, 0)]), .inr (false, [(9, 9)])], mgh16596, [81], [([], some (.inr (false, [(-9, -9)])), mgh16343), ([], some (.inr (false, [(0, 9)])), mgh16595)])
/-- MiceRegistersModel.twoFigures -/
def mgc891 : ak_C := (126, [.inl 81, .inr (false, [(1, 1)]), .inr (false, [(40, 40)])], mgh16344, [81], [([], some (.inr (false, [(-9, -9)])), mgh16083), ([], some (.inr (false, [(0, 99)])), mgh16595), ([], some (.inr (false, [(-9, -9)])), mgh16343)])
theorem mgk891 : ai_chk [mgc865, mgc890, mgc144] mgc891 (fun pc => sm_ch sm_t126 pc, sm_Kn 3 6 none, fun x => sm_lk sm_ca3 x, some .int) [81] 6 0 [] [] 2000 [] = true := by decide +kernel
def mgh16597 : aw_H := [(81, mgx16342), (92, .inr (.inl (0, 8, [], []))), (93, .inr (.inl (0, 8, [], [])))]
def mgx16598 : aw_A := ms_o [(0, 8)] [(0, 4)] ar_t32 ar_t32 [(0, 180)] [(42, 42)] [(42, 60)] [(1, 8)] [(0, 0)]
def mgh16599 : aw_H := [(81, mgx16598), (92, .inr (.inl (0, 8, [], []))), (93, .inr (.inl (0, 8, [], [])))]
def mgx16600 : aw_A := ms_o [(0, 8)] [(0, 4)] ar_t32 ar_t32 [(0, 180)] [(38, 38)] [(39, 60)] [(8, 8)] [(0, 0)]
def mgh16601 : aw_H := [(81, mgx16600), (92, .inr (.inl (0, 8, [], []))), (93, .inr (.inl (0, 8, [], [])))]
/-- MiceRegistersModel.readsLine -/
def mgx16602 : aw_A := ms_o [(0, 8)] [(0, 4)] ar_t32 ar_t32 [(0, 180)] [(38, 38)] [(39, 60)] [(0, 8)] [(0, 0)]
def mgh16603 : aw_H := [(81, mgx16602), (90, .inr (.inl (0, 240, [], []))), (92, .inr (.inl (0, 8, [], []))), (93, .inr (.inl (0, 8, [], [])))]
def mgc892 : ak_C := (124, [.inl 81], mgh16603, [81, 92, 93], [([], some (.inr (false, [(0, 0)])), mgh16597), ([], some (.inr (false, [(1, 1)])), mgh16599), ([], some (.inr (false, [(0, 0)])), mgh16345), ([], some (.inr (false, [(0, 0)])), mgh16085), ([], some (.inr (false, [(0, 0)])), mgh16601)])
theorem mgk892 : ai_chk [mgc840, mgc891] mgc892 (fun pc => sm_ch sm_t124 pc, sm_Kn 3 3 none, fun x => sm_lk sm_ca3 x, some .boolean) [81, 92, 93] 3 0 [] [] 2000 [] = true := by decide +kernel
def mgh16604 : aw_H := [(81, mgx16598)]
def mgx16605 : aw_A := ms_o [(0, 8)] [(0, 4)] ar_t32 ar_t32 [(0, 180)] [(43, 43)] [(42, 60)] [(1, 8)] [(0, 0)]
def mgh16606 : aw_H := [(81, mgx16605)]
def mgx16607 : aw_A := ms_o [(0, 8)] [(0, 4)] ar_t32 ar_t32 [(0, 180)] [(44, 44)] [(42, 60)] [(1, 8)] [(0, 0)]
def mgh16608 : aw_H := [(81, mgx16607)]
def mgx16609 : aw_A := ms_o [(0, 8)] [(0, 4)] ar_t32 ar_t32 [(0, 180)] [(45, 45)] [(42, 60)] [(1, 8)] [(0, 0)]
def mgh16610 : aw_H := [(81, mgx16609)]
def mgx16611 : aw_A := ms_o [(0, 8)] [(0, 4)] ar_t32 ar_t32 [(0, 180)] [(46, 46)] [(42, 60)] [(1, 8)] [(0, 0)]
def mgh16612 : aw_H := [(81, mgx16611)]
def mgx16613 : aw_A := ms_o [(0, 8)] [(0, 4)] ar_t32 ar_t32 [(0, 180)] [(47, 47)] [(42, 60)] [(1, 8)] [(0, 0)]
def mgh16614 : aw_H := [(81, mgx16613)]
def mgx16615 : aw_A := ms_o [(0, 8)] [(0, 4)] ar_t32 ar_t32 [(0, 180)] [(48, 48)] [(42, 60)] [(1, 8)] [(0, 0)]
def mgh16616 : aw_H := [(81, mgx16615)]
def mgx16617 : aw_A := ms_o [(0, 8)] [(0, 4)] ar_t32 ar_t32 [(0, 180)] [(49, 49)] [(42, 60)] [(1, 8)] [(0, 0)]
def mgh16618 : aw_H := [(81, mgx16617)]
def mgx16619 : aw_A := ms_o [(0, 8)] [(0, 4)] ar_t32 ar_t32 [(0, 180)] [(50, 50)] [(42, 60)] [(1, 8)] [(0, 0)]
def mgh16620 : aw_H := [(81, mgx16619)]
def mgx16621 : aw_A := ms_o [(0, 8)] [(0, 4)] ar_t32 ar_t32 [(0, 180)] [(51, 51)] [(42, 60)] [(1, 8)] [(0, 0)]
def mgh16622 : aw_H := [(81, mgx16621)]
def mgx16623 : aw_A := ms_o [(0, 8)] [(0, 4)] ar_t32 ar_t32 [(0, 180)] [(52, 52)] [(42, 60)] [(1, 8)] [(0, 0)]
def mgh16624 : aw_H := [(81, mgx16623)]
def mgx16625 : aw_A := ms_o [(0, 8)] [(0, 4)] ar_t32 ar_t32 [(0, 180)] [(53, 53)] [(42, 60)] [(1, 8)] [(0, 0)]
def mgh16626 : aw_H := [(81, mgx16625)]
def mgx16627 : aw_A := ms_o [(0, 8)] [(0, 4)] ar_t32 ar_t32 [(0, 180)] [(54, 54)] [(42, 60)] [(1, 8)] [(0, 0)]
def mgh16628 : aw_H := [(81, mgx16627)]
def mgx16629 : aw_A := ms_o [(0, 8)] [(0, 4)] ar_t32 ar_t32 [(0, 180)] [(55, 55)] [(42, 60)] [(1, 8)] [(0, 0)]
def mgh16630 : aw_H := [(81, mgx16629)]
def mgx16631 : aw_A := ms_o [(0, 8)] [(0, 4)] ar_t32 ar_t32 [(0, 180)] [(56, 56)] [(42, 60)] [(1, 8)] [(0, 0)]
def mgh16632 : aw_H := [(81, mgx16631)]
def mgx16633 : aw_A := ms_o [(0, 8)] [(0, 4)] ar_t32 ar_t32 [(0, 180)] [(57, 57)] [(42, 60)] [(1, 8)] [(0, 0)]
def mgh16634 : aw_H := [(81, mgx16633)]
def mgx16635 : aw_A := ms_o [(0, 8)] [(0, 4)] ar_t32 ar_t32 [(0, 180)] [(58, 58)] [(42, 60)] [(1, 8)] [(0, 0)]
def mgh16636 : aw_H := [(81, mgx16635)]
def mgx16637 : aw_A := ms_o [(0, 8)] [(0, 4)] ar_t32 ar_t32 [(0, 180)] [(59, 59)] [(42, 60)] [(1, 8)] [(0, 0)]
def mgh16638 : aw_H := [(81, mgx16637)]
def mgx16639 : aw_A := ms_o [(0, 8)] [(0, 4)] ar_t32 ar_t32 [(0, 180)] [(60, 60)] [(42, 60)] [(1, 8)] [(0, 0)]
def mgh16640 : aw_H := [(81, mgx16639)]
/-- MiceRegistersModel.skip -/
def mgh16641 : aw_H := [(81, mgx16598), (90, .inr (.inl (0, 240, [], [])))]
def mgc893 : ak_C := (122, [.inl 81], mgh16641, [81], [([], none, mgh16604), ([], none, mgh16606), ([], none, mgh16608), ([], none, mgh16610), ([], none, mgh16612), ([], none, mgh16614), ([], none, mgh16616), ([], none, mgh16618), ([], none, mgh16620), ([], none, mgh16622), ([], none, mgh16624), ([], none, mgh16626), ([], none, mgh16628), ([], none, mgh16630), ([], none, mgh16632), ([], none, mgh16634), ([], none, mgh16636), ([], none, mgh16638), ([], none, mgh16640)])
/-- MiceRegistersModel.figure -/
def mgc894 : ak_C := (125, [.inl 81, .inr (false, [(0, 0)]), .inr (false, [(0, 7)])], mgh15865, [81], [([], some (.inr (false, [(-9, -9)])), mgh15822), ([], some (.inr (false, [(0, 7)])), mgh16092)])
/-- MiceRegistersModel.figure -/
def mgc895 : ak_C := (125, [.inl 81, .inr (false, [(1, 1)]), .inr (false, [(9, 9)])], mgh16133, [81], [([], some (.inr (false, [(-9, -9)])), mgh16092), ([], some (.inr (false, [(1, 9)])), mgh16352)])
def mgh16642 : aw_H := [(81, mgx16602), (94, mgx5049)]
def mgx16643 : aw_A := ms_o [(0, 8)] [(0, 4)] ar_t32 ar_t32 [(0, 180)] [(41, 41)] [(41, 60)] [(1, 8)] [(1, 1)]
def mgh16644 : aw_H := [(81, mgx16643), (94, mgx5052)]
def mgh16645 : aw_H := [(81, mgx16086), (94, mgx5049)]
/-- MiceRegistersModel.readsMouse -/
def mgh16646 : aw_H := [(81, mgx16602), (90, .inr (.inl (0, 240, [], []))), (94, mgx5049)]
def mgc896 : ak_C := (127, [.inl 81], mgh16646, [81, 94], [([], some (.inr (false, [(0, 0)])), mgh16642), ([], some (.inr (false, [(1, 1)])), mgh16644), ([], some (.inr (false, [(0, 0)])), mgh16645), ([], some (.inr (false, [(0, 0)])), mgh16395)])
theorem mgk896 : ai_chk [mgc41, mgc148, mgc894, mgc895] mgc896 (fun pc => sm_ch sm_t127 pc, sm_Kn 3 5 none, fun x => sm_lk sm_ca3 x, some .boolean) [81, 94] 5 0 [] [] 2000 [] = true := by decide +kernel
def mgh16647 : aw_H := [(81, mgx16643)]
def mgx16648 : aw_A := ms_o [(0, 8)] [(0, 4)] ar_t32 ar_t32 [(0, 180)] [(42, 42)] [(41, 60)] [(1, 8)] [(1, 1)]
def mgh16649 : aw_H := [(81, mgx16648)]
def mgx16650 : aw_A := ms_o [(0, 8)] [(0, 4)] ar_t32 ar_t32 [(0, 180)] [(43, 43)] [(41, 60)] [(1, 8)] [(1, 1)]
def mgh16651 : aw_H := [(81, mgx16650)]
def mgx16652 : aw_A := ms_o [(0, 8)] [(0, 4)] ar_t32 ar_t32 [(0, 180)] [(44, 44)] [(41, 60)] [(1, 8)] [(1, 1)]
def mgh16653 : aw_H := [(81, mgx16652)]
def mgx16654 : aw_A := ms_o [(0, 8)] [(0, 4)] ar_t32 ar_t32 [(0, 180)] [(45, 45)] [(41, 60)] [(1, 8)] [(1, 1)]
def mgh16655 : aw_H := [(81, mgx16654)]
def mgx16656 : aw_A := ms_o [(0, 8)] [(0, 4)] ar_t32 ar_t32 [(0, 180)] [(46, 46)] [(41, 60)] [(1, 8)] [(1, 1)]
def mgh16657 : aw_H := [(81, mgx16656)]
def mgx16658 : aw_A := ms_o [(0, 8)] [(0, 4)] ar_t32 ar_t32 [(0, 180)] [(47, 47)] [(41, 60)] [(1, 8)] [(1, 1)]
def mgh16659 : aw_H := [(81, mgx16658)]
def mgx16660 : aw_A := ms_o [(0, 8)] [(0, 4)] ar_t32 ar_t32 [(0, 180)] [(48, 48)] [(41, 60)] [(1, 8)] [(1, 1)]
def mgh16661 : aw_H := [(81, mgx16660)]
def mgx16662 : aw_A := ms_o [(0, 8)] [(0, 4)] ar_t32 ar_t32 [(0, 180)] [(49, 49)] [(41, 60)] [(1, 8)] [(1, 1)]
def mgh16663 : aw_H := [(81, mgx16662)]
def mgx16664 : aw_A := ms_o [(0, 8)] [(0, 4)] ar_t32 ar_t32 [(0, 180)] [(50, 50)] [(41, 60)] [(1, 8)] [(1, 1)]
def mgh16665 : aw_H := [(81, mgx16664)]
def mgx16666 : aw_A := ms_o [(0, 8)] [(0, 4)] ar_t32 ar_t32 [(0, 180)] [(51, 51)] [(41, 60)] [(1, 8)] [(1, 1)]
def mgh16667 : aw_H := [(81, mgx16666)]
def mgx16668 : aw_A := ms_o [(0, 8)] [(0, 4)] ar_t32 ar_t32 [(0, 180)] [(52, 52)] [(41, 60)] [(1, 8)] [(1, 1)]
def mgh16669 : aw_H := [(81, mgx16668)]
def mgx16670 : aw_A := ms_o [(0, 8)] [(0, 4)] ar_t32 ar_t32 [(0, 180)] [(53, 53)] [(41, 60)] [(1, 8)] [(1, 1)]
def mgh16671 : aw_H := [(81, mgx16670)]
def mgx16672 : aw_A := ms_o [(0, 8)] [(0, 4)] ar_t32 ar_t32 [(0, 180)] [(54, 54)] [(41, 60)] [(1, 8)] [(1, 1)]
def mgh16673 : aw_H := [(81, mgx16672)]
def mgx16674 : aw_A := ms_o [(0, 8)] [(0, 4)] ar_t32 ar_t32 [(0, 180)] [(55, 55)] [(41, 60)] [(1, 8)] [(1, 1)]
def mgh16675 : aw_H := [(81, mgx16674)]
def mgx16676 : aw_A := ms_o [(0, 8)] [(0, 4)] ar_t32 ar_t32 [(0, 180)] [(56, 56)] [(41, 60)] [(1, 8)] [(1, 1)]
def mgh16677 : aw_H := [(81, mgx16676)]
def mgx16678 : aw_A := ms_o [(0, 8)] [(0, 4)] ar_t32 ar_t32 [(0, 180)] [(57, 57)] [(41, 60)] [(1, 8)] [(1, 1)]
def mgh16679 : aw_H := [(81, mgx16678)]
def mgx16680 : aw_A := ms_o [(0, 8)] [(0, 4)] ar_t32 ar_t32 [(0, 180)] [(58, 58)] [(41, 60)] [(1, 8)] [(1, 1)]
def mgh16681 : aw_H := [(81, mgx16680)]
def mgx16682 : aw_A := ms_o [(0, 8)] [(0, 4)] ar_t32 ar_t32 [(0, 180)] [(59, 59)] [(41, 60)] [(1, 8)] [(1, 1)]
def mgh16683 : aw_H := [(81, mgx16682)]
def mgx16684 : aw_A := ms_o [(0, 8)] [(0, 4)] ar_t32 ar_t32 [(0, 180)] [(60, 60)] [(41, 60)] [(1, 8)] [(1, 1)]
def mgh16685 : aw_H := [(81, mgx16684)]
/-- MiceRegistersModel.skip -/
def mgh16686 : aw_H := [(81, mgx16643), (90, .inr (.inl (0, 240, [], [])))]
def mgc897 : ak_C := (122, [.inl 81], mgh16686, [81], [([], none, mgh16647), ([], none, mgh16649), ([], none, mgh16651), ([], none, mgh16653), ([], none, mgh16655), ([], none, mgh16657), ([], none, mgh16659), ([], none, mgh16661), ([], none, mgh16663), ([], none, mgh16665), ([], none, mgh16667), ([], none, mgh16669), ([], none, mgh16671), ([], none, mgh16673), ([], none, mgh16675), ([], none, mgh16677), ([], none, mgh16679), ([], none, mgh16681), ([], none, mgh16683), ([], none, mgh16685)])
/-- MiceRegistersModel.readsLine -/
def mgx16687 : aw_A := ms_o [(0, 8)] [(0, 4)] ar_t32 ar_t32 [(0, 180)] [(38, 38)] [(39, 60)] [(1, 8)] [(1, 1)]
def mgh16688 : aw_H := [(81, mgx16687)]
def mgc898 : ak_C := (124, [.inl 81], mgh16688, [], [([], some (.inr (false, [(0, 0)])), [])])
theorem mgk898 : ai_chk [] mgc898 (fun pc => sm_ch sm_t124 pc, sm_Kn 3 3 none, fun x => sm_lk sm_ca3 x, some .boolean) [] 3 0 [] [] 2000 [] = true := by decide +kernel
/-- MiceRegistersModel.figure -/
def mgc899 : ak_C := (125, [.inl 81, .inr (false, [(0, 0)]), .inr (false, [(0, 7)])], mgh16182, [81], [([], some (.inr (false, [(-9, -9)])), mgh16139), ([], some (.inr (false, [(0, 7)])), mgh16397)])
/-- MiceRegistersModel.figure -/
def mgc900 : ak_C := (125, [.inl 81, .inr (false, [(1, 1)]), .inr (false, [(9, 9)])], mgh16438, [81], [([], some (.inr (false, [(-9, -9)])), mgh16397), ([], some (.inr (false, [(1, 9)])), mgh16647)])
def mgh16689 : aw_H := [(81, mgx16687), (94, mgx5052)]
def mgx16690 : aw_A := ms_o [(0, 8)] [(0, 4)] ar_t32 ar_t32 [(0, 180)] [(41, 41)] [(41, 60)] [(1, 8)] [(2, 2)]
def mgh16691 : aw_H := [(81, mgx16690), (94, mgx5820)]
/-- MiceRegistersModel.readsMouse -/
def mgh16692 : aw_H := [(81, mgx16687), (90, .inr (.inl (0, 240, [], []))), (94, mgx5052)]
def mgc901 : ak_C := (127, [.inl 81], mgh16692, [81, 94], [([], some (.inr (false, [(0, 0)])), mgh16689), ([], some (.inr (false, [(1, 1)])), mgh16691), ([], some (.inr (false, [(0, 0)])), mgh16394), ([], some (.inr (false, [(0, 0)])), mgh16136)])
theorem mgk901 : ai_chk [mgc41, mgc148, mgc899, mgc900] mgc901 (fun pc => sm_ch sm_t127 pc, sm_Kn 3 5 none, fun x => sm_lk sm_ca3 x, some .boolean) [81, 94] 5 0 [] [] 2000 [] = true := by decide +kernel
def mgh16693 : aw_H := [(81, mgx16690)]
def mgx16694 : aw_A := ms_o [(0, 8)] [(0, 4)] ar_t32 ar_t32 [(0, 180)] [(42, 42)] [(41, 60)] [(1, 8)] [(2, 2)]
def mgh16695 : aw_H := [(81, mgx16694)]
def mgx16696 : aw_A := ms_o [(0, 8)] [(0, 4)] ar_t32 ar_t32 [(0, 180)] [(43, 43)] [(41, 60)] [(1, 8)] [(2, 2)]
def mgh16697 : aw_H := [(81, mgx16696)]
def mgx16698 : aw_A := ms_o [(0, 8)] [(0, 4)] ar_t32 ar_t32 [(0, 180)] [(44, 44)] [(41, 60)] [(1, 8)] [(2, 2)]
def mgh16699 : aw_H := [(81, mgx16698)]
def mgx16700 : aw_A := ms_o [(0, 8)] [(0, 4)] ar_t32 ar_t32 [(0, 180)] [(45, 45)] [(41, 60)] [(1, 8)] [(2, 2)]
def mgh16701 : aw_H := [(81, mgx16700)]
def mgx16702 : aw_A := ms_o [(0, 8)] [(0, 4)] ar_t32 ar_t32 [(0, 180)] [(46, 46)] [(41, 60)] [(1, 8)] [(2, 2)]
def mgh16703 : aw_H := [(81, mgx16702)]
def mgx16704 : aw_A := ms_o [(0, 8)] [(0, 4)] ar_t32 ar_t32 [(0, 180)] [(47, 47)] [(41, 60)] [(1, 8)] [(2, 2)]
def mgh16705 : aw_H := [(81, mgx16704)]
def mgx16706 : aw_A := ms_o [(0, 8)] [(0, 4)] ar_t32 ar_t32 [(0, 180)] [(48, 48)] [(41, 60)] [(1, 8)] [(2, 2)]
def mgh16707 : aw_H := [(81, mgx16706)]
def mgx16708 : aw_A := ms_o [(0, 8)] [(0, 4)] ar_t32 ar_t32 [(0, 180)] [(49, 49)] [(41, 60)] [(1, 8)] [(2, 2)]
def mgh16709 : aw_H := [(81, mgx16708)]
def mgx16710 : aw_A := ms_o [(0, 8)] [(0, 4)] ar_t32 ar_t32 [(0, 180)] [(50, 50)] [(41, 60)] [(1, 8)] [(2, 2)]
def mgh16711 : aw_H := [(81, mgx16710)]
def mgx16712 : aw_A := ms_o [(0, 8)] [(0, 4)] ar_t32 ar_t32 [(0, 180)] [(51, 51)] [(41, 60)] [(1, 8)] [(2, 2)]
def mgh16713 : aw_H := [(81, mgx16712)]
def mgx16714 : aw_A := ms_o [(0, 8)] [(0, 4)] ar_t32 ar_t32 [(0, 180)] [(52, 52)] [(41, 60)] [(1, 8)] [(2, 2)]
def mgh16715 : aw_H := [(81, mgx16714)]
def mgx16716 : aw_A := ms_o [(0, 8)] [(0, 4)] ar_t32 ar_t32 [(0, 180)] [(53, 53)] [(41, 60)] [(1, 8)] [(2, 2)]
def mgh16717 : aw_H := [(81, mgx16716)]
def mgx16718 : aw_A := ms_o [(0, 8)] [(0, 4)] ar_t32 ar_t32 [(0, 180)] [(54, 54)] [(41, 60)] [(1, 8)] [(2, 2)]
def mgh16719 : aw_H := [(81, mgx16718)]
def mgx16720 : aw_A := ms_o [(0, 8)] [(0, 4)] ar_t32 ar_t32 [(0, 180)] [(55, 55)] [(41, 60)] [(1, 8)] [(2, 2)]
def mgh16721 : aw_H := [(81, mgx16720)]
def mgx16722 : aw_A := ms_o [(0, 8)] [(0, 4)] ar_t32 ar_t32 [(0, 180)] [(56, 56)] [(41, 60)] [(1, 8)] [(2, 2)]
def mgh16723 : aw_H := [(81, mgx16722)]
def mgx16724 : aw_A := ms_o [(0, 8)] [(0, 4)] ar_t32 ar_t32 [(0, 180)] [(57, 57)] [(41, 60)] [(1, 8)] [(2, 2)]
def mgh16725 : aw_H := [(81, mgx16724)]
def mgx16726 : aw_A := ms_o [(0, 8)] [(0, 4)] ar_t32 ar_t32 [(0, 180)] [(58, 58)] [(41, 60)] [(1, 8)] [(2, 2)]
def mgh16727 : aw_H := [(81, mgx16726)]
def mgx16728 : aw_A := ms_o [(0, 8)] [(0, 4)] ar_t32 ar_t32 [(0, 180)] [(59, 59)] [(41, 60)] [(1, 8)] [(2, 2)]
def mgh16729 : aw_H := [(81, mgx16728)]
def mgx16730 : aw_A := ms_o [(0, 8)] [(0, 4)] ar_t32 ar_t32 [(0, 180)] [(60, 60)] [(41, 60)] [(1, 8)] [(2, 2)]
def mgh16731 : aw_H := [(81, mgx16730)]
/-- MiceRegistersModel.skip -/
def mgh16732 : aw_H := [(81, mgx16690), (90, .inr (.inl (0, 240, [], [])))]
def mgc902 : ak_C := (122, [.inl 81], mgh16732, [81], [([], none, mgh16693), ([], none, mgh16695), ([], none, mgh16697), ([], none, mgh16699), ([], none, mgh16701), ([], none, mgh16703), ([], none, mgh16705), ([], none, mgh16707), ([], none, mgh16709), ([], none, mgh16711), ([], none, mgh16713), ([], none, mgh16715), ([], none, mgh16717), ([], none, mgh16719), ([], none, mgh16721), ([], none, mgh16723), ([], none, mgh16725), ([], none, mgh16727), ([], none, mgh16729), ([], none, mgh16731)])
/-- MiceRegistersModel.readsLine -/
def mgx16733 : aw_A := ms_o [(0, 8)] [(0, 4)] ar_t32 ar_t32 [(0, 180)] [(38, 38)] [(39, 60)] [(1, 7)] [(2, 2)]
def mgh16734 : aw_H := [(81, mgx16733)]
def mgc903 : ak_C := (124, [.inl 81], mgh16734, [], [([], some (.inr (false, [(0, 0)])), [])])
theorem mgk903 : ai_chk [] mgc903 (fun pc => sm_ch sm_t124 pc, sm_Kn 3 3 none, fun x => sm_lk sm_ca3 x, some .boolean) [] 3 0 [] [] 2000 [] = true := by decide +kernel
/-- MiceRegistersModel.figure -/
def mgc904 : ak_C := (125, [.inl 81, .inr (false, [(0, 0)]), .inr (false, [(0, 6)])], mgh16491, [81], [([], some (.inr (false, [(-9, -9)])), mgh16236), ([], some (.inr (false, [(0, 6)])), mgh16490)])
def mgx16735 : aw_A := ms_o [(0, 8)] [(0, 4)] ar_t32 ar_t32 [(0, 180)] [(41, 41)] [(41, 60)] [(1, 7)] [(2, 2)]
def mgh16736 : aw_H := [(81, mgx16735)]
/-- MiceRegistersModel.figure -/
def mgh16737 : aw_H := [(81, mgx16489), (90, .inr (.inl (0, 240, [], [])))]
def mgc905 : ak_C := (125, [.inl 81, .inr (false, [(1, 1)]), .inr (false, [(9, 9)])], mgh16737, [81], [([], some (.inr (false, [(-9, -9)])), mgh16490), ([], some (.inr (false, [(1, 9)])), mgh16736)])
def mgh16738 : aw_H := [(81, mgx16733), (94, mgx5820)]
def mgx16739 : aw_A := ms_o [(0, 8)] [(0, 4)] ar_t32 ar_t32 [(0, 180)] [(41, 41)] [(41, 60)] [(1, 7)] [(3, 3)]
def mgh16740 : aw_H := [(81, mgx16739), (94, mgx6868)]
def mgh16741 : aw_H := [(81, mgx16489), (94, mgx5820)]
/-- MiceRegistersModel.readsMouse -/
def mgh16742 : aw_H := [(81, mgx16733), (90, .inr (.inl (0, 240, [], []))), (94, mgx5820)]
def mgc906 : ak_C := (127, [.inl 81], mgh16742, [81, 94], [([], some (.inr (false, [(0, 0)])), mgh16738), ([], some (.inr (false, [(1, 1)])), mgh16740), ([], some (.inr (false, [(0, 0)])), mgh16741), ([], some (.inr (false, [(0, 0)])), mgh16495)])
theorem mgk906 : ai_chk [mgc41, mgc148, mgc904, mgc905] mgc906 (fun pc => sm_ch sm_t127 pc, sm_Kn 3 5 none, fun x => sm_lk sm_ca3 x, some .boolean) [81, 94] 5 0 [] [] 2000 [] = true := by decide +kernel
def mgh16743 : aw_H := [(81, mgx16739)]
def mgx16744 : aw_A := ms_o [(0, 8)] [(0, 4)] ar_t32 ar_t32 [(0, 180)] [(42, 42)] [(41, 60)] [(1, 7)] [(3, 3)]
def mgh16745 : aw_H := [(81, mgx16744)]
def mgx16746 : aw_A := ms_o [(0, 8)] [(0, 4)] ar_t32 ar_t32 [(0, 180)] [(43, 43)] [(41, 60)] [(1, 7)] [(3, 3)]
def mgh16747 : aw_H := [(81, mgx16746)]
def mgx16748 : aw_A := ms_o [(0, 8)] [(0, 4)] ar_t32 ar_t32 [(0, 180)] [(44, 44)] [(41, 60)] [(1, 7)] [(3, 3)]
def mgh16749 : aw_H := [(81, mgx16748)]
def mgx16750 : aw_A := ms_o [(0, 8)] [(0, 4)] ar_t32 ar_t32 [(0, 180)] [(45, 45)] [(41, 60)] [(1, 7)] [(3, 3)]
def mgh16751 : aw_H := [(81, mgx16750)]
def mgx16752 : aw_A := ms_o [(0, 8)] [(0, 4)] ar_t32 ar_t32 [(0, 180)] [(46, 46)] [(41, 60)] [(1, 7)] [(3, 3)]
def mgh16753 : aw_H := [(81, mgx16752)]
def mgx16754 : aw_A := ms_o [(0, 8)] [(0, 4)] ar_t32 ar_t32 [(0, 180)] [(47, 47)] [(41, 60)] [(1, 7)] [(3, 3)]
def mgh16755 : aw_H := [(81, mgx16754)]
def mgx16756 : aw_A := ms_o [(0, 8)] [(0, 4)] ar_t32 ar_t32 [(0, 180)] [(48, 48)] [(41, 60)] [(1, 7)] [(3, 3)]
def mgh16757 : aw_H := [(81, mgx16756)]
def mgx16758 : aw_A := ms_o [(0, 8)] [(0, 4)] ar_t32 ar_t32 [(0, 180)] [(49, 49)] [(41, 60)] [(1, 7)] [(3, 3)]
def mgh16759 : aw_H := [(81, mgx16758)]
def mgx16760 : aw_A := ms_o [(0, 8)] [(0, 4)] ar_t32 ar_t32 [(0, 180)] [(50, 50)] [(41, 60)] [(1, 7)] [(3, 3)]
def mgh16761 : aw_H := [(81, mgx16760)]
def mgx16762 : aw_A := ms_o [(0, 8)] [(0, 4)] ar_t32 ar_t32 [(0, 180)] [(51, 51)] [(41, 60)] [(1, 7)] [(3, 3)]
def mgh16763 : aw_H := [(81, mgx16762)]
def mgx16764 : aw_A := ms_o [(0, 8)] [(0, 4)] ar_t32 ar_t32 [(0, 180)] [(52, 52)] [(41, 60)] [(1, 7)] [(3, 3)]
def mgh16765 : aw_H := [(81, mgx16764)]
def mgx16766 : aw_A := ms_o [(0, 8)] [(0, 4)] ar_t32 ar_t32 [(0, 180)] [(53, 53)] [(41, 60)] [(1, 7)] [(3, 3)]
def mgh16767 : aw_H := [(81, mgx16766)]
def mgx16768 : aw_A := ms_o [(0, 8)] [(0, 4)] ar_t32 ar_t32 [(0, 180)] [(54, 54)] [(41, 60)] [(1, 7)] [(3, 3)]
def mgh16769 : aw_H := [(81, mgx16768)]
def mgx16770 : aw_A := ms_o [(0, 8)] [(0, 4)] ar_t32 ar_t32 [(0, 180)] [(55, 55)] [(41, 60)] [(1, 7)] [(3, 3)]
def mgh16771 : aw_H := [(81, mgx16770)]
def mgx16772 : aw_A := ms_o [(0, 8)] [(0, 4)] ar_t32 ar_t32 [(0, 180)] [(56, 56)] [(41, 60)] [(1, 7)] [(3, 3)]
def mgh16773 : aw_H := [(81, mgx16772)]
def mgx16774 : aw_A := ms_o [(0, 8)] [(0, 4)] ar_t32 ar_t32 [(0, 180)] [(57, 57)] [(41, 60)] [(1, 7)] [(3, 3)]
def mgh16775 : aw_H := [(81, mgx16774)]
def mgx16776 : aw_A := ms_o [(0, 8)] [(0, 4)] ar_t32 ar_t32 [(0, 180)] [(58, 58)] [(41, 60)] [(1, 7)] [(3, 3)]
def mgh16777 : aw_H := [(81, mgx16776)]
def mgx16778 : aw_A := ms_o [(0, 8)] [(0, 4)] ar_t32 ar_t32 [(0, 180)] [(59, 59)] [(41, 60)] [(1, 7)] [(3, 3)]
def mgh16779 : aw_H := [(81, mgx16778)]
def mgx16780 : aw_A := ms_o [(0, 8)] [(0, 4)] ar_t32 ar_t32 [(0, 180)] [(60, 60)] [(41, 60)] [(1, 7)] [(3, 3)]
def mgh16781 : aw_H := [(81, mgx16780)]
/-- MiceRegistersModel.skip -/
def mgh16782 : aw_H := [(81, mgx16739), (90, .inr (.inl (0, 240, [], [])))]
def mgc907 : ak_C := (122, [.inl 81], mgh16782, [81], [([], none, mgh16743), ([], none, mgh16745), ([], none, mgh16747), ([], none, mgh16749), ([], none, mgh16751), ([], none, mgh16753), ([], none, mgh16755), ([], none, mgh16757), ([], none, mgh16759), ([], none, mgh16761), ([], none, mgh16763), ([], none, mgh16765), ([], none, mgh16767), ([], none, mgh16769), ([], none, mgh16771), ([], none, mgh16773), ([], none, mgh16775), ([], none, mgh16777), ([], none, mgh16779), ([], none, mgh16781)])
/-- MiceRegistersModel.readsLine -/
def mgx16783 : aw_A := ms_o [(0, 8)] [(0, 4)] ar_t32 ar_t32 [(0, 180)] [(38, 38)] [(39, 60)] [(1, 7)] [(3, 3)]
def mgh16784 : aw_H := [(81, mgx16783)]
def mgc908 : ak_C := (124, [.inl 81], mgh16784, [], [([], some (.inr (false, [(0, 0)])), [])])
theorem mgk908 : ai_chk [] mgc908 (fun pc => sm_ch sm_t124 pc, sm_Kn 3 3 none, fun x => sm_lk sm_ca3 x, some .boolean) [] 3 0 [] [] 2000 [] = true := by decide +kernel
/-- MiceRegistersModel.figure -/
def mgc909 : ak_C := (125, [.inl 81, .inr (false, [(0, 0)]), .inr (false, [(0, 6)])], mgh16284, [81], [([], some (.inr (false, [(-9, -9)])), mgh16241), ([], some (.inr (false, [(0, 6)])), mgh16497)])
/-- MiceRegistersModel.figure -/
def mgc910 : ak_C := (125, [.inl 81, .inr (false, [(1, 1)]), .inr (false, [(9, 9)])], mgh16538, [81], [([], some (.inr (false, [(-9, -9)])), mgh16497), ([], some (.inr (false, [(1, 9)])), mgh16743)])
def mgh16785 : aw_H := [(81, mgx16783), (94, mgx6868)]
def mgx16786 : aw_A := ms_o [(0, 8)] [(0, 4)] ar_t32 ar_t32 [(0, 180)] [(41, 41)] [(41, 60)] [(1, 7)] [(4, 4)]
def mgh16787 : aw_H := [(81, mgx16786), (94, mgx8150)]
/-- MiceRegistersModel.readsMouse -/
def mgh16788 : aw_H := [(81, mgx16783), (90, .inr (.inl (0, 240, [], []))), (94, mgx6868)]
def mgc911 : ak_C := (127, [.inl 81], mgh16788, [81, 94], [([], some (.inr (false, [(0, 0)])), mgh16785), ([], some (.inr (false, [(1, 1)])), mgh16787), ([], some (.inr (false, [(0, 0)])), mgh16494), ([], some (.inr (false, [(0, 0)])), mgh16239)])
theorem mgk911 : ai_chk [mgc41, mgc148, mgc909, mgc910] mgc911 (fun pc => sm_ch sm_t127 pc, sm_Kn 3 5 none, fun x => sm_lk sm_ca3 x, some .boolean) [81, 94] 5 0 [] [] 2000 [] = true := by decide +kernel
def mgh16789 : aw_H := [(81, mgx16786)]
def mgx16790 : aw_A := ms_o [(0, 8)] [(0, 4)] ar_t32 ar_t32 [(0, 180)] [(42, 42)] [(41, 60)] [(1, 7)] [(4, 4)]
def mgh16791 : aw_H := [(81, mgx16790)]
def mgx16792 : aw_A := ms_o [(0, 8)] [(0, 4)] ar_t32 ar_t32 [(0, 180)] [(43, 43)] [(41, 60)] [(1, 7)] [(4, 4)]
def mgh16793 : aw_H := [(81, mgx16792)]
def mgx16794 : aw_A := ms_o [(0, 8)] [(0, 4)] ar_t32 ar_t32 [(0, 180)] [(44, 44)] [(41, 60)] [(1, 7)] [(4, 4)]
def mgh16795 : aw_H := [(81, mgx16794)]
def mgx16796 : aw_A := ms_o [(0, 8)] [(0, 4)] ar_t32 ar_t32 [(0, 180)] [(45, 45)] [(41, 60)] [(1, 7)] [(4, 4)]
def mgh16797 : aw_H := [(81, mgx16796)]
def mgx16798 : aw_A := ms_o [(0, 8)] [(0, 4)] ar_t32 ar_t32 [(0, 180)] [(46, 46)] [(41, 60)] [(1, 7)] [(4, 4)]
def mgh16799 : aw_H := [(81, mgx16798)]
def mgx16800 : aw_A := ms_o [(0, 8)] [(0, 4)] ar_t32 ar_t32 [(0, 180)] [(47, 47)] [(41, 60)] [(1, 7)] [(4, 4)]
def mgh16801 : aw_H := [(81, mgx16800)]
def mgx16802 : aw_A := ms_o [(0, 8)] [(0, 4)] ar_t32 ar_t32 [(0, 180)] [(48, 48)] [(41, 60)] [(1, 7)] [(4, 4)]
def mgh16803 : aw_H := [(81, mgx16802)]
def mgx16804 : aw_A := ms_o [(0, 8)] [(0, 4)] ar_t32 ar_t32 [(0, 180)] [(49, 49)] [(41, 60)] [(1, 7)] [(4, 4)]
def mgh16805 : aw_H := [(81, mgx16804)]
def mgx16806 : aw_A := ms_o [(0, 8)] [(0, 4)] ar_t32 ar_t32 [(0, 180)] [(50, 50)] [(41, 60)] [(1, 7)] [(4, 4)]
def mgh16807 : aw_H := [(81, mgx16806)]
def mgx16808 : aw_A := ms_o [(0, 8)] [(0, 4)] ar_t32 ar_t32 [(0, 180)] [(51, 51)] [(41, 60)] [(1, 7)] [(4, 4)]
def mgh16809 : aw_H := [(81, mgx16808)]
def mgx16810 : aw_A := ms_o [(0, 8)] [(0, 4)] ar_t32 ar_t32 [(0, 180)] [(52, 52)] [(41, 60)] [(1, 7)] [(4, 4)]
def mgh16811 : aw_H := [(81, mgx16810)]
def mgx16812 : aw_A := ms_o [(0, 8)] [(0, 4)] ar_t32 ar_t32 [(0, 180)] [(53, 53)] [(41, 60)] [(1, 7)] [(4, 4)]
def mgh16813 : aw_H := [(81, mgx16812)]
def mgx16814 : aw_A := ms_o [(0, 8)] [(0, 4)] ar_t32 ar_t32 [(0, 180)] [(54, 54)] [(41, 60)] [(1, 7)] [(4, 4)]
def mgh16815 : aw_H := [(81, mgx16814)]
def mgx16816 : aw_A := ms_o [(0, 8)] [(0, 4)] ar_t32 ar_t32 [(0, 180)] [(55, 55)] [(41, 60)] [(1, 7)] [(4, 4)]
def mgh16817 : aw_H := [(81, mgx16816)]
def mgx16818 : aw_A := ms_o [(0, 8)] [(0, 4)] ar_t32 ar_t32 [(0, 180)] [(56, 56)] [(41, 60)] [(1, 7)] [(4, 4)]
def mgh16819 : aw_H := [(81, mgx16818)]
def mgx16820 : aw_A := ms_o [(0, 8)] [(0, 4)] ar_t32 ar_t32 [(0, 180)] [(57, 57)] [(41, 60)] [(1, 7)] [(4, 4)]
def mgh16821 : aw_H := [(81, mgx16820)]
def mgx16822 : aw_A := ms_o [(0, 8)] [(0, 4)] ar_t32 ar_t32 [(0, 180)] [(58, 58)] [(41, 60)] [(1, 7)] [(4, 4)]
def mgh16823 : aw_H := [(81, mgx16822)]
def mgx16824 : aw_A := ms_o [(0, 8)] [(0, 4)] ar_t32 ar_t32 [(0, 180)] [(59, 59)] [(41, 60)] [(1, 7)] [(4, 4)]
def mgh16825 : aw_H := [(81, mgx16824)]
def mgx16826 : aw_A := ms_o [(0, 8)] [(0, 4)] ar_t32 ar_t32 [(0, 180)] [(60, 60)] [(41, 60)] [(1, 7)] [(4, 4)]
def mgh16827 : aw_H := [(81, mgx16826)]
/-- MiceRegistersModel.skip -/
def mgh16828 : aw_H := [(81, mgx16786), (90, .inr (.inl (0, 240, [], [])))]
def mgc912 : ak_C := (122, [.inl 81], mgh16828, [81], [([], none, mgh16789), ([], none, mgh16791), ([], none, mgh16793), ([], none, mgh16795), ([], none, mgh16797), ([], none, mgh16799), ([], none, mgh16801), ([], none, mgh16803), ([], none, mgh16805), ([], none, mgh16807), ([], none, mgh16809), ([], none, mgh16811), ([], none, mgh16813), ([], none, mgh16815), ([], none, mgh16817), ([], none, mgh16819), ([], none, mgh16821), ([], none, mgh16823), ([], none, mgh16825), ([], none, mgh16827)])
/-- MiceRegistersModel.readsLine -/
def mgx16829 : aw_A := ms_o [(0, 8)] [(0, 4)] ar_t32 ar_t32 [(0, 180)] [(38, 38)] [(39, 60)] [(1, 6)] [(4, 4)]
def mgh16830 : aw_H := [(81, mgx16829)]
def mgc913 : ak_C := (124, [.inl 81], mgh16830, [], [([], some (.inr (false, [(0, 0)])), [])])
theorem mgk913 : ai_chk [] mgc913 (fun pc => sm_ch sm_t124 pc, sm_Kn 3 3 none, fun x => sm_lk sm_ca3 x, some .boolean) [] 3 0 [] [] 2000 [] = true := by decide +kernel
/-- MiceRegistersModel.readsMouse -/
def mgh16831 : aw_H := [(81, mgx16829), (90, .inr (.inl (0, 240, [], [])))]
def mgc914 : ak_C := (127, [.inl 81], mgh16831, [], [([], some (.inr (false, [(0, 0)])), [])])
theorem mgk914 : ai_chk [mgc41, mgc148] mgc914 (fun pc => sm_ch sm_t127 pc, sm_Kn 3 5 none, fun x => sm_lk sm_ca3 x, some .boolean) [] 5 0 [] [] 2000 [] = true := by decide +kernel
def mgx16832 : aw_A := ms_o [(0, 8)] [(0, 4)] ar_t32 ar_t32 [(0, 180)] [(43, 43)] [(43, 60)] [(0, 7)] [(0, 0)]
def mgh16833 : aw_H := [(81, mgx16832)]
/-- MiceRegistersModel.figure -/
def mgh16834 : aw_H := [(81, mgx16594), (90, .inr (.inl (0, 240, [], [])))]
def mgc915 : ak_C := (125, [.inl 81, .inr (false, [(0, 0)]), .inr (false, [(9, 9)])], mgh16834, [81], [([], some (.inr (false, [(-9, -9)])), mgh16595), ([], some (.inr (false, [(0, 9)])), mgh16833)])
/-- MiceRegistersModel.twoFigures -/
def mgc916 : ak_C := (126, [.inl 81, .inr (false, [(1, 1)]), .inr (false, [(40, 40)])], mgh16596, [81], [([], some (.inr (false, [(-9, -9)])), mgh16343), ([], some (.inr (false, [(0, 99)])), mgh16833), ([], some (.inr (false, [(-9, -9)])), mgh16595)])
theorem mgk916 : ai_chk [mgc890, mgc915, mgc144] mgc916 (fun pc => sm_ch sm_t126 pc, sm_Kn 3 6 none, fun x => sm_lk sm_ca3 x, some .int) [81] 6 0 [] [] 2000 [] = true := by decide +kernel
def mgh16835 : aw_H := [(81, mgx16594), (92, .inr (.inl (0, 8, [], []))), (93, .inr (.inl (0, 8, [], [])))]
def mgx16836 : aw_A := ms_o [(0, 8)] [(0, 4)] ar_t32 ar_t32 [(0, 180)] [(43, 43)] [(43, 60)] [(1, 8)] [(0, 0)]
def mgh16837 : aw_H := [(81, mgx16836), (92, .inr (.inl (0, 8, [], []))), (93, .inr (.inl (0, 8, [], [])))]
def mgx16838 : aw_A := ms_o [(0, 8)] [(0, 4)] ar_t32 ar_t32 [(0, 180)] [(39, 39)] [(40, 60)] [(8, 8)] [(0, 0)]
def mgh16839 : aw_H := [(81, mgx16838), (92, .inr (.inl (0, 8, [], []))), (93, .inr (.inl (0, 8, [], [])))]
/-- MiceRegistersModel.readsLine -/
def mgx16840 : aw_A := ms_o [(0, 8)] [(0, 4)] ar_t32 ar_t32 [(0, 180)] [(39, 39)] [(40, 60)] [(0, 8)] [(0, 0)]
def mgh16841 : aw_H := [(81, mgx16840), (90, .inr (.inl (0, 240, [], []))), (92, .inr (.inl (0, 8, [], []))), (93, .inr (.inl (0, 8, [], [])))]
def mgc917 : ak_C := (124, [.inl 81], mgh16841, [81, 92, 93], [([], some (.inr (false, [(0, 0)])), mgh16835), ([], some (.inr (false, [(1, 1)])), mgh16837), ([], some (.inr (false, [(0, 0)])), mgh16597), ([], some (.inr (false, [(0, 0)])), mgh16345), ([], some (.inr (false, [(0, 0)])), mgh16839)])
theorem mgk917 : ai_chk [mgc865, mgc916] mgc917 (fun pc => sm_ch sm_t124 pc, sm_Kn 3 3 none, fun x => sm_lk sm_ca3 x, some .boolean) [81, 92, 93] 3 0 [] [] 2000 [] = true := by decide +kernel
def mgh16842 : aw_H := [(81, mgx16836)]
def mgx16843 : aw_A := ms_o [(0, 8)] [(0, 4)] ar_t32 ar_t32 [(0, 180)] [(44, 44)] [(43, 60)] [(1, 8)] [(0, 0)]
def mgh16844 : aw_H := [(81, mgx16843)]
def mgx16845 : aw_A := ms_o [(0, 8)] [(0, 4)] ar_t32 ar_t32 [(0, 180)] [(45, 45)] [(43, 60)] [(1, 8)] [(0, 0)]
def mgh16846 : aw_H := [(81, mgx16845)]
def mgx16847 : aw_A := ms_o [(0, 8)] [(0, 4)] ar_t32 ar_t32 [(0, 180)] [(46, 46)] [(43, 60)] [(1, 8)] [(0, 0)]
def mgh16848 : aw_H := [(81, mgx16847)]
def mgx16849 : aw_A := ms_o [(0, 8)] [(0, 4)] ar_t32 ar_t32 [(0, 180)] [(47, 47)] [(43, 60)] [(1, 8)] [(0, 0)]
def mgh16850 : aw_H := [(81, mgx16849)]
def mgx16851 : aw_A := ms_o [(0, 8)] [(0, 4)] ar_t32 ar_t32 [(0, 180)] [(48, 48)] [(43, 60)] [(1, 8)] [(0, 0)]
def mgh16852 : aw_H := [(81, mgx16851)]
def mgx16853 : aw_A := ms_o [(0, 8)] [(0, 4)] ar_t32 ar_t32 [(0, 180)] [(49, 49)] [(43, 60)] [(1, 8)] [(0, 0)]
def mgh16854 : aw_H := [(81, mgx16853)]
def mgx16855 : aw_A := ms_o [(0, 8)] [(0, 4)] ar_t32 ar_t32 [(0, 180)] [(50, 50)] [(43, 60)] [(1, 8)] [(0, 0)]
def mgh16856 : aw_H := [(81, mgx16855)]
def mgx16857 : aw_A := ms_o [(0, 8)] [(0, 4)] ar_t32 ar_t32 [(0, 180)] [(51, 51)] [(43, 60)] [(1, 8)] [(0, 0)]
def mgh16858 : aw_H := [(81, mgx16857)]
def mgx16859 : aw_A := ms_o [(0, 8)] [(0, 4)] ar_t32 ar_t32 [(0, 180)] [(52, 52)] [(43, 60)] [(1, 8)] [(0, 0)]
def mgh16860 : aw_H := [(81, mgx16859)]
def mgx16861 : aw_A := ms_o [(0, 8)] [(0, 4)] ar_t32 ar_t32 [(0, 180)] [(53, 53)] [(43, 60)] [(1, 8)] [(0, 0)]
def mgh16862 : aw_H := [(81, mgx16861)]
def mgx16863 : aw_A := ms_o [(0, 8)] [(0, 4)] ar_t32 ar_t32 [(0, 180)] [(54, 54)] [(43, 60)] [(1, 8)] [(0, 0)]
def mgh16864 : aw_H := [(81, mgx16863)]
def mgx16865 : aw_A := ms_o [(0, 8)] [(0, 4)] ar_t32 ar_t32 [(0, 180)] [(55, 55)] [(43, 60)] [(1, 8)] [(0, 0)]
def mgh16866 : aw_H := [(81, mgx16865)]
def mgx16867 : aw_A := ms_o [(0, 8)] [(0, 4)] ar_t32 ar_t32 [(0, 180)] [(56, 56)] [(43, 60)] [(1, 8)] [(0, 0)]
def mgh16868 : aw_H := [(81, mgx16867)]
def mgx16869 : aw_A := ms_o [(0, 8)] [(0, 4)] ar_t32 ar_t32 [(0, 180)] [(57, 57)] [(43, 60)] [(1, 8)] [(0, 0)]
def mgh16870 : aw_H := [(81, mgx16869)]
def mgx16871 : aw_A := ms_o [(0, 8)] [(0, 4)] ar_t32 ar_t32 [(0, 180)] [(58, 58)] [(43, 60)] [(1, 8)] [(0, 0)]
def mgh16872 : aw_H := [(81, mgx16871)]
def mgx16873 : aw_A := ms_o [(0, 8)] [(0, 4)] ar_t32 ar_t32 [(0, 180)] [(59, 59)] [(43, 60)] [(1, 8)] [(0, 0)]
def mgh16874 : aw_H := [(81, mgx16873)]
def mgx16875 : aw_A := ms_o [(0, 8)] [(0, 4)] ar_t32 ar_t32 [(0, 180)] [(60, 60)] [(43, 60)] [(1, 8)] [(0, 0)]
def mgh16876 : aw_H := [(81, mgx16875)]
/-- MiceRegistersModel.skip -/
def mgh16877 : aw_H := [(81, mgx16836), (90, .inr (.inl (0, 240, [], [])))]
def mgc918 : ak_C := (122, [.inl 81], mgh16877, [81], [([], none, mgh16842), ([], none, mgh16844), ([], none, mgh16846), ([], none, mgh16848), ([], none, mgh16850), ([], none, mgh16852), ([], none, mgh16854), ([], none, mgh16856), ([], none, mgh16858), ([], none, mgh16860), ([], none, mgh16862), ([], none, mgh16864), ([], none, mgh16866), ([], none, mgh16868), ([], none, mgh16870), ([], none, mgh16872), ([], none, mgh16874), ([], none, mgh16876)])
/-- MiceRegistersModel.figure -/
def mgc919 : ak_C := (125, [.inl 81, .inr (false, [(0, 0)]), .inr (false, [(0, 7)])], mgh16133, [81], [([], some (.inr (false, [(-9, -9)])), mgh16092), ([], some (.inr (false, [(0, 7)])), mgh16352)])
/-- MiceRegistersModel.figure -/
def mgc920 : ak_C := (125, [.inl 81, .inr (false, [(1, 1)]), .inr (false, [(9, 9)])], mgh16391, [81], [([], some (.inr (false, [(-9, -9)])), mgh16352), ([], some (.inr (false, [(1, 9)])), mgh16604)])
def mgh16878 : aw_H := [(81, mgx16840), (94, mgx5049)]
def mgx16879 : aw_A := ms_o [(0, 8)] [(0, 4)] ar_t32 ar_t32 [(0, 180)] [(42, 42)] [(42, 60)] [(1, 8)] [(1, 1)]
def mgh16880 : aw_H := [(81, mgx16879), (94, mgx5052)]
def mgh16881 : aw_H := [(81, mgx16346), (94, mgx5049)]
/-- MiceRegistersModel.readsMouse -/
def mgh16882 : aw_H := [(81, mgx16840), (90, .inr (.inl (0, 240, [], []))), (94, mgx5049)]
def mgc921 : ak_C := (127, [.inl 81], mgh16882, [81, 94], [([], some (.inr (false, [(0, 0)])), mgh16878), ([], some (.inr (false, [(1, 1)])), mgh16880), ([], some (.inr (false, [(0, 0)])), mgh16881), ([], some (.inr (false, [(0, 0)])), mgh16645)])
theorem mgk921 : ai_chk [mgc40, mgc148, mgc919, mgc920] mgc921 (fun pc => sm_ch sm_t127 pc, sm_Kn 3 5 none, fun x => sm_lk sm_ca3 x, some .boolean) [81, 94] 5 0 [] [] 2000 [] = true := by decide +kernel
def mgh16883 : aw_H := [(81, mgx16879)]
def mgx16884 : aw_A := ms_o [(0, 8)] [(0, 4)] ar_t32 ar_t32 [(0, 180)] [(43, 43)] [(42, 60)] [(1, 8)] [(1, 1)]
def mgh16885 : aw_H := [(81, mgx16884)]
def mgx16886 : aw_A := ms_o [(0, 8)] [(0, 4)] ar_t32 ar_t32 [(0, 180)] [(44, 44)] [(42, 60)] [(1, 8)] [(1, 1)]
def mgh16887 : aw_H := [(81, mgx16886)]
def mgx16888 : aw_A := ms_o [(0, 8)] [(0, 4)] ar_t32 ar_t32 [(0, 180)] [(45, 45)] [(42, 60)] [(1, 8)] [(1, 1)]
def mgh16889 : aw_H := [(81, mgx16888)]
def mgx16890 : aw_A := ms_o [(0, 8)] [(0, 4)] ar_t32 ar_t32 [(0, 180)] [(46, 46)] [(42, 60)] [(1, 8)] [(1, 1)]
def mgh16891 : aw_H := [(81, mgx16890)]
def mgx16892 : aw_A := ms_o [(0, 8)] [(0, 4)] ar_t32 ar_t32 [(0, 180)] [(47, 47)] [(42, 60)] [(1, 8)] [(1, 1)]
def mgh16893 : aw_H := [(81, mgx16892)]
def mgx16894 : aw_A := ms_o [(0, 8)] [(0, 4)] ar_t32 ar_t32 [(0, 180)] [(48, 48)] [(42, 60)] [(1, 8)] [(1, 1)]
def mgh16895 : aw_H := [(81, mgx16894)]
def mgx16896 : aw_A := ms_o [(0, 8)] [(0, 4)] ar_t32 ar_t32 [(0, 180)] [(49, 49)] [(42, 60)] [(1, 8)] [(1, 1)]
def mgh16897 : aw_H := [(81, mgx16896)]
def mgx16898 : aw_A := ms_o [(0, 8)] [(0, 4)] ar_t32 ar_t32 [(0, 180)] [(50, 50)] [(42, 60)] [(1, 8)] [(1, 1)]
def mgh16899 : aw_H := [(81, mgx16898)]
def mgx16900 : aw_A := ms_o [(0, 8)] [(0, 4)] ar_t32 ar_t32 [(0, 180)] [(51, 51)] [(42, 60)] [(1, 8)] [(1, 1)]
def mgh16901 : aw_H := [(81, mgx16900)]
def mgx16902 : aw_A := ms_o [(0, 8)] [(0, 4)] ar_t32 ar_t32 [(0, 180)] [(52, 52)] [(42, 60)] [(1, 8)] [(1, 1)]
def mgh16903 : aw_H := [(81, mgx16902)]
def mgx16904 : aw_A := ms_o [(0, 8)] [(0, 4)] ar_t32 ar_t32 [(0, 180)] [(53, 53)] [(42, 60)] [(1, 8)] [(1, 1)]
def mgh16905 : aw_H := [(81, mgx16904)]
def mgx16906 : aw_A := ms_o [(0, 8)] [(0, 4)] ar_t32 ar_t32 [(0, 180)] [(54, 54)] [(42, 60)] [(1, 8)] [(1, 1)]
def mgh16907 : aw_H := [(81, mgx16906)]
def mgx16908 : aw_A := ms_o [(0, 8)] [(0, 4)] ar_t32 ar_t32 [(0, 180)] [(55, 55)] [(42, 60)] [(1, 8)] [(1, 1)]
def mgh16909 : aw_H := [(81, mgx16908)]
def mgx16910 : aw_A := ms_o [(0, 8)] [(0, 4)] ar_t32 ar_t32 [(0, 180)] [(56, 56)] [(42, 60)] [(1, 8)] [(1, 1)]
def mgh16911 : aw_H := [(81, mgx16910)]
def mgx16912 : aw_A := ms_o [(0, 8)] [(0, 4)] ar_t32 ar_t32 [(0, 180)] [(57, 57)] [(42, 60)] [(1, 8)] [(1, 1)]
def mgh16913 : aw_H := [(81, mgx16912)]
def mgx16914 : aw_A := ms_o [(0, 8)] [(0, 4)] ar_t32 ar_t32 [(0, 180)] [(58, 58)] [(42, 60)] [(1, 8)] [(1, 1)]
def mgh16915 : aw_H := [(81, mgx16914)]
def mgx16916 : aw_A := ms_o [(0, 8)] [(0, 4)] ar_t32 ar_t32 [(0, 180)] [(59, 59)] [(42, 60)] [(1, 8)] [(1, 1)]
def mgh16917 : aw_H := [(81, mgx16916)]
def mgx16918 : aw_A := ms_o [(0, 8)] [(0, 4)] ar_t32 ar_t32 [(0, 180)] [(60, 60)] [(42, 60)] [(1, 8)] [(1, 1)]
def mgh16919 : aw_H := [(81, mgx16918)]
/-- MiceRegistersModel.skip -/
def mgh16920 : aw_H := [(81, mgx16879), (90, .inr (.inl (0, 240, [], [])))]
def mgc922 : ak_C := (122, [.inl 81], mgh16920, [81], [([], none, mgh16883), ([], none, mgh16885), ([], none, mgh16887), ([], none, mgh16889), ([], none, mgh16891), ([], none, mgh16893), ([], none, mgh16895), ([], none, mgh16897), ([], none, mgh16899), ([], none, mgh16901), ([], none, mgh16903), ([], none, mgh16905), ([], none, mgh16907), ([], none, mgh16909), ([], none, mgh16911), ([], none, mgh16913), ([], none, mgh16915), ([], none, mgh16917), ([], none, mgh16919)])
/-- MiceRegistersModel.readsLine -/
def mgx16921 : aw_A := ms_o [(0, 8)] [(0, 4)] ar_t32 ar_t32 [(0, 180)] [(39, 39)] [(40, 60)] [(1, 8)] [(1, 1)]
def mgh16922 : aw_H := [(81, mgx16921)]
def mgc923 : ak_C := (124, [.inl 81], mgh16922, [], [([], some (.inr (false, [(0, 0)])), [])])
theorem mgk923 : ai_chk [] mgc923 (fun pc => sm_ch sm_t124 pc, sm_Kn 3 3 none, fun x => sm_lk sm_ca3 x, some .boolean) [] 3 0 [] [] 2000 [] = true := by decide +kernel
/-- MiceRegistersModel.figure -/
def mgc924 : ak_C := (125, [.inl 81, .inr (false, [(0, 0)]), .inr (false, [(0, 7)])], mgh16438, [81], [([], some (.inr (false, [(-9, -9)])), mgh16397), ([], some (.inr (false, [(0, 7)])), mgh16647)])
/-- MiceRegistersModel.figure -/
def mgc925 : ak_C := (125, [.inl 81, .inr (false, [(1, 1)]), .inr (false, [(9, 9)])], mgh16686, [81], [([], some (.inr (false, [(-9, -9)])), mgh16647), ([], some (.inr (false, [(1, 9)])), mgh16883)])
def mgh16923 : aw_H := [(81, mgx16921), (94, mgx5052)]
def mgx16924 : aw_A := ms_o [(0, 8)] [(0, 4)] ar_t32 ar_t32 [(0, 180)] [(42, 42)] [(42, 60)] [(1, 8)] [(2, 2)]
def mgh16925 : aw_H := [(81, mgx16924), (94, mgx5820)]
/-- MiceRegistersModel.readsMouse -/
def mgh16926 : aw_H := [(81, mgx16921), (90, .inr (.inl (0, 240, [], []))), (94, mgx5052)]
def mgc926 : ak_C := (127, [.inl 81], mgh16926, [81, 94], [([], some (.inr (false, [(0, 0)])), mgh16923), ([], some (.inr (false, [(1, 1)])), mgh16925), ([], some (.inr (false, [(0, 0)])), mgh16644), ([], some (.inr (false, [(0, 0)])), mgh16394)])
theorem mgk926 : ai_chk [mgc40, mgc148, mgc924, mgc925] mgc926 (fun pc => sm_ch sm_t127 pc, sm_Kn 3 5 none, fun x => sm_lk sm_ca3 x, some .boolean) [81, 94] 5 0 [] [] 2000 [] = true := by decide +kernel
def mgh16927 : aw_H := [(81, mgx16924)]
def mgx16928 : aw_A := ms_o [(0, 8)] [(0, 4)] ar_t32 ar_t32 [(0, 180)] [(43, 43)] [(42, 60)] [(1, 8)] [(2, 2)]
def mgh16929 : aw_H := [(81, mgx16928)]
def mgx16930 : aw_A := ms_o [(0, 8)] [(0, 4)] ar_t32 ar_t32 [(0, 180)] [(44, 44)] [(42, 60)] [(1, 8)] [(2, 2)]
def mgh16931 : aw_H := [(81, mgx16930)]
def mgx16932 : aw_A := ms_o [(0, 8)] [(0, 4)] ar_t32 ar_t32 [(0, 180)] [(45, 45)] [(42, 60)] [(1, 8)] [(2, 2)]
def mgh16933 : aw_H := [(81, mgx16932)]
def mgx16934 : aw_A := ms_o [(0, 8)] [(0, 4)] ar_t32 ar_t32 [(0, 180)] [(46, 46)] [(42, 60)] [(1, 8)] [(2, 2)]
def mgh16935 : aw_H := [(81, mgx16934)]
def mgx16936 : aw_A := ms_o [(0, 8)] [(0, 4)] ar_t32 ar_t32 [(0, 180)] [(47, 47)] [(42, 60)] [(1, 8)] [(2, 2)]
def mgh16937 : aw_H := [(81, mgx16936)]
def mgx16938 : aw_A := ms_o [(0, 8)] [(0, 4)] ar_t32 ar_t32 [(0, 180)] [(48, 48)] [(42, 60)] [(1, 8)] [(2, 2)]
def mgh16939 : aw_H := [(81, mgx16938)]
def mgx16940 : aw_A := ms_o [(0, 8)] [(0, 4)] ar_t32 ar_t32 [(0, 180)] [(49, 49)] [(42, 60)] [(1, 8)] [(2, 2)]
def mgh16941 : aw_H := [(81, mgx16940)]
def mgx16942 : aw_A := ms_o [(0, 8)] [(0, 4)] ar_t32 ar_t32 [(0, 180)] [(50, 50)] [(42, 60)] [(1, 8)] [(2, 2)]
def mgh16943 : aw_H := [(81, mgx16942)]
def mgx16944 : aw_A := ms_o [(0, 8)] [(0, 4)] ar_t32 ar_t32 [(0, 180)] [(51, 51)] [(42, 60)] [(1, 8)] [(2, 2)]
def mgh16945 : aw_H := [(81, mgx16944)]
def mgx16946 : aw_A := ms_o [(0, 8)] [(0, 4)] ar_t32 ar_t32 [(0, 180)] [(52, 52)] [(42, 60)] [(1, 8)] [(2, 2)]
def mgh16947 : aw_H := [(81, mgx16946)]
def mgx16948 : aw_A := ms_o [(0, 8)] [(0, 4)] ar_t32 ar_t32 [(0, 180)] [(53, 53)] [(42, 60)] [(1, 8)] [(2, 2)]
def mgh16949 : aw_H := [(81, mgx16948)]
def mgx16950 : aw_A := ms_o [(0, 8)] [(0, 4)] ar_t32 ar_t32 [(0, 180)] [(54, 54)] [(42, 60)] [(1, 8)] [(2, 2)]
def mgh16951 : aw_H := [(81, mgx16950)]
def mgx16952 : aw_A := ms_o [(0, 8)] [(0, 4)] ar_t32 ar_t32 [(0, 180)] [(55, 55)] [(42, 60)] [(1, 8)] [(2, 2)]
def mgh16953 : aw_H := [(81, mgx16952)]
def mgx16954 : aw_A := ms_o [(0, 8)] [(0, 4)] ar_t32 ar_t32 [(0, 180)] [(56, 56)] [(42, 60)] [(1, 8)] [(2, 2)]
def mgh16955 : aw_H := [(81, mgx16954)]
def mgx16956 : aw_A := ms_o [(0, 8)] [(0, 4)] ar_t32 ar_t32 [(0, 180)] [(57, 57)] [(42, 60)] [(1, 8)] [(2, 2)]
def mgh16957 : aw_H := [(81, mgx16956)]
def mgx16958 : aw_A := ms_o [(0, 8)] [(0, 4)] ar_t32 ar_t32 [(0, 180)] [(58, 58)] [(42, 60)] [(1, 8)] [(2, 2)]
def mgh16959 : aw_H := [(81, mgx16958)]
def mgx16960 : aw_A := ms_o [(0, 8)] [(0, 4)] ar_t32 ar_t32 [(0, 180)] [(59, 59)] [(42, 60)] [(1, 8)] [(2, 2)]
def mgh16961 : aw_H := [(81, mgx16960)]
def mgx16962 : aw_A := ms_o [(0, 8)] [(0, 4)] ar_t32 ar_t32 [(0, 180)] [(60, 60)] [(42, 60)] [(1, 8)] [(2, 2)]
def mgh16963 : aw_H := [(81, mgx16962)]
/-- MiceRegistersModel.skip -/
def mgh16964 : aw_H := [(81, mgx16924), (90, .inr (.inl (0, 240, [], [])))]
def mgc927 : ak_C := (122, [.inl 81], mgh16964, [81], [([], none, mgh16927), ([], none, mgh16929), ([], none, mgh16931), ([], none, mgh16933), ([], none, mgh16935), ([], none, mgh16937), ([], none, mgh16939), ([], none, mgh16941), ([], none, mgh16943), ([], none, mgh16945), ([], none, mgh16947), ([], none, mgh16949), ([], none, mgh16951), ([], none, mgh16953), ([], none, mgh16955), ([], none, mgh16957), ([], none, mgh16959), ([], none, mgh16961), ([], none, mgh16963)])
/-- MiceRegistersModel.readsLine -/
def mgx16965 : aw_A := ms_o [(0, 8)] [(0, 4)] ar_t32 ar_t32 [(0, 180)] [(39, 39)] [(40, 60)] [(1, 8)] [(2, 2)]
def mgh16966 : aw_H := [(81, mgx16965)]
def mgc928 : ak_C := (124, [.inl 81], mgh16966, [], [([], some (.inr (false, [(0, 0)])), [])])
theorem mgk928 : ai_chk [] mgc928 (fun pc => sm_ch sm_t124 pc, sm_Kn 3 3 none, fun x => sm_lk sm_ca3 x, some .boolean) [] 3 0 [] [] 2000 [] = true := by decide +kernel
/-- MiceRegistersModel.figure -/
def mgc929 : ak_C := (125, [.inl 81, .inr (false, [(0, 0)]), .inr (false, [(0, 7)])], mgh16486, [81], [([], some (.inr (false, [(-9, -9)])), mgh16445), ([], some (.inr (false, [(0, 7)])), mgh16693)])
/-- MiceRegistersModel.figure -/
def mgc930 : ak_C := (125, [.inl 81, .inr (false, [(1, 1)]), .inr (false, [(9, 9)])], mgh16732, [81], [([], some (.inr (false, [(-9, -9)])), mgh16693), ([], some (.inr (false, [(1, 9)])), mgh16927)])
def mgh16967 : aw_H := [(81, mgx16965), (94, mgx5820)]
def mgx16968 : aw_A := ms_o [(0, 8)] [(0, 4)] ar_t32 ar_t32 [(0, 180)] [(42, 42)] [(42, 60)] [(1, 8)] [(3, 3)]
def mgh16969 : aw_H := [(81, mgx16968), (94, mgx6868)]
/-- MiceRegistersModel.readsMouse -/
def mgh16970 : aw_H := [(81, mgx16965), (90, .inr (.inl (0, 240, [], []))), (94, mgx5820)]
def mgc931 : ak_C := (127, [.inl 81], mgh16970, [81, 94], [([], some (.inr (false, [(0, 0)])), mgh16967), ([], some (.inr (false, [(1, 1)])), mgh16969), ([], some (.inr (false, [(0, 0)])), mgh16691), ([], some (.inr (false, [(0, 0)])), mgh16443)])
theorem mgk931 : ai_chk [mgc40, mgc148, mgc929, mgc930] mgc931 (fun pc => sm_ch sm_t127 pc, sm_Kn 3 5 none, fun x => sm_lk sm_ca3 x, some .boolean) [81, 94] 5 0 [] [] 2000 [] = true := by decide +kernel
def mgh16971 : aw_H := [(81, mgx16968)]
def mgx16972 : aw_A := ms_o [(0, 8)] [(0, 4)] ar_t32 ar_t32 [(0, 180)] [(43, 43)] [(42, 60)] [(1, 8)] [(3, 3)]
def mgh16973 : aw_H := [(81, mgx16972)]
def mgx16974 : aw_A := ms_o [(0, 8)] [(0, 4)] ar_t32 ar_t32 [(0, 180)] [(44, 44)] [(42, 60)] [(1, 8)] [(3, 3)]
def mgh16975 : aw_H := [(81, mgx16974)]
def mgx16976 : aw_A := ms_o [(0, 8)] [(0, 4)] ar_t32 ar_t32 [(0, 180)] [(45, 45)] [(42, 60)] [(1, 8)] [(3, 3)]
def mgh16977 : aw_H := [(81, mgx16976)]
def mgx16978 : aw_A := ms_o [(0, 8)] [(0, 4)] ar_t32 ar_t32 [(0, 180)] [(46, 46)] [(42, 60)] [(1, 8)] [(3, 3)]
def mgh16979 : aw_H := [(81, mgx16978)]
def mgx16980 : aw_A := ms_o [(0, 8)] [(0, 4)] ar_t32 ar_t32 [(0, 180)] [(47, 47)] [(42, 60)] [(1, 8)] [(3, 3)]
def mgh16981 : aw_H := [(81, mgx16980)]
def mgx16982 : aw_A := ms_o [(0, 8)] [(0, 4)] ar_t32 ar_t32 [(0, 180)] [(48, 48)] [(42, 60)] [(1, 8)] [(3, 3)]
def mgh16983 : aw_H := [(81, mgx16982)]
def mgx16984 : aw_A := ms_o [(0, 8)] [(0, 4)] ar_t32 ar_t32 [(0, 180)] [(49, 49)] [(42, 60)] [(1, 8)] [(3, 3)]
def mgh16985 : aw_H := [(81, mgx16984)]
def mgx16986 : aw_A := ms_o [(0, 8)] [(0, 4)] ar_t32 ar_t32 [(0, 180)] [(50, 50)] [(42, 60)] [(1, 8)] [(3, 3)]
def mgh16987 : aw_H := [(81, mgx16986)]
def mgx16988 : aw_A := ms_o [(0, 8)] [(0, 4)] ar_t32 ar_t32 [(0, 180)] [(51, 51)] [(42, 60)] [(1, 8)] [(3, 3)]
def mgh16989 : aw_H := [(81, mgx16988)]
def mgx16990 : aw_A := ms_o [(0, 8)] [(0, 4)] ar_t32 ar_t32 [(0, 180)] [(52, 52)] [(42, 60)] [(1, 8)] [(3, 3)]
def mgh16991 : aw_H := [(81, mgx16990)]
def mgx16992 : aw_A := ms_o [(0, 8)] [(0, 4)] ar_t32 ar_t32 [(0, 180)] [(53, 53)] [(42, 60)] [(1, 8)] [(3, 3)]
def mgh16993 : aw_H := [(81, mgx16992)]
def mgx16994 : aw_A := ms_o [(0, 8)] [(0, 4)] ar_t32 ar_t32 [(0, 180)] [(54, 54)] [(42, 60)] [(1, 8)] [(3, 3)]
def mgh16995 : aw_H := [(81, mgx16994)]
def mgx16996 : aw_A := ms_o [(0, 8)] [(0, 4)] ar_t32 ar_t32 [(0, 180)] [(55, 55)] [(42, 60)] [(1, 8)] [(3, 3)]
def mgh16997 : aw_H := [(81, mgx16996)]
def mgx16998 : aw_A := ms_o [(0, 8)] [(0, 4)] ar_t32 ar_t32 [(0, 180)] [(56, 56)] [(42, 60)] [(1, 8)] [(3, 3)]
def mgh16999 : aw_H := [(81, mgx16998)]
def mgx17000 : aw_A := ms_o [(0, 8)] [(0, 4)] ar_t32 ar_t32 [(0, 180)] [(57, 57)] [(42, 60)] [(1, 8)] [(3, 3)]
def mgh17001 : aw_H := [(81, mgx17000)]
def mgx17002 : aw_A := ms_o [(0, 8)] [(0, 4)] ar_t32 ar_t32 [(0, 180)] [(58, 58)] [(42, 60)] [(1, 8)] [(3, 3)]
def mgh17003 : aw_H := [(81, mgx17002)]
def mgx17004 : aw_A := ms_o [(0, 8)] [(0, 4)] ar_t32 ar_t32 [(0, 180)] [(59, 59)] [(42, 60)] [(1, 8)] [(3, 3)]
def mgh17005 : aw_H := [(81, mgx17004)]
def mgx17006 : aw_A := ms_o [(0, 8)] [(0, 4)] ar_t32 ar_t32 [(0, 180)] [(60, 60)] [(42, 60)] [(1, 8)] [(3, 3)]
def mgh17007 : aw_H := [(81, mgx17006)]
/-- MiceRegistersModel.skip -/
def mgh17008 : aw_H := [(81, mgx16968), (90, .inr (.inl (0, 240, [], [])))]
def mgc932 : ak_C := (122, [.inl 81], mgh17008, [81], [([], none, mgh16971), ([], none, mgh16973), ([], none, mgh16975), ([], none, mgh16977), ([], none, mgh16979), ([], none, mgh16981), ([], none, mgh16983), ([], none, mgh16985), ([], none, mgh16987), ([], none, mgh16989), ([], none, mgh16991), ([], none, mgh16993), ([], none, mgh16995), ([], none, mgh16997), ([], none, mgh16999), ([], none, mgh17001), ([], none, mgh17003), ([], none, mgh17005), ([], none, mgh17007)])
/-- MiceRegistersModel.readsLine -/
def mgx17009 : aw_A := ms_o [(0, 8)] [(0, 4)] ar_t32 ar_t32 [(0, 180)] [(39, 39)] [(40, 60)] [(1, 7)] [(3, 3)]
def mgh17010 : aw_H := [(81, mgx17009)]
def mgc933 : ak_C := (124, [.inl 81], mgh17010, [], [([], some (.inr (false, [(0, 0)])), [])])
theorem mgk933 : ai_chk [] mgc933 (fun pc => sm_ch sm_t124 pc, sm_Kn 3 3 none, fun x => sm_lk sm_ca3 x, some .boolean) [] 3 0 [] [] 2000 [] = true := by decide +kernel
/-- MiceRegistersModel.figure -/
def mgc934 : ak_C := (125, [.inl 81, .inr (false, [(0, 0)]), .inr (false, [(0, 6)])], mgh16538, [81], [([], some (.inr (false, [(-9, -9)])), mgh16497), ([], some (.inr (false, [(0, 6)])), mgh16743)])
def mgx17011 : aw_A := ms_o [(0, 8)] [(0, 4)] ar_t32 ar_t32 [(0, 180)] [(42, 42)] [(42, 60)] [(1, 7)] [(3, 3)]
def mgh17012 : aw_H := [(81, mgx17011)]
/-- MiceRegistersModel.figure -/
def mgc935 : ak_C := (125, [.inl 81, .inr (false, [(1, 1)]), .inr (false, [(9, 9)])], mgh16782, [81], [([], some (.inr (false, [(-9, -9)])), mgh16743), ([], some (.inr (false, [(1, 9)])), mgh17012)])
def mgh17013 : aw_H := [(81, mgx17009), (94, mgx6868)]
def mgx17014 : aw_A := ms_o [(0, 8)] [(0, 4)] ar_t32 ar_t32 [(0, 180)] [(42, 42)] [(42, 60)] [(1, 7)] [(4, 4)]
def mgh17015 : aw_H := [(81, mgx17014), (94, mgx8150)]
/-- MiceRegistersModel.readsMouse -/
def mgh17016 : aw_H := [(81, mgx17009), (90, .inr (.inl (0, 240, [], []))), (94, mgx6868)]
def mgc936 : ak_C := (127, [.inl 81], mgh17016, [81, 94], [([], some (.inr (false, [(0, 0)])), mgh17013), ([], some (.inr (false, [(1, 1)])), mgh17015), ([], some (.inr (false, [(0, 0)])), mgh16740), ([], some (.inr (false, [(0, 0)])), mgh16494)])
theorem mgk936 : ai_chk [mgc40, mgc148, mgc934, mgc935] mgc936 (fun pc => sm_ch sm_t127 pc, sm_Kn 3 5 none, fun x => sm_lk sm_ca3 x, some .boolean) [81, 94] 5 0 [] [] 2000 [] = true := by decide +kernel
def mgh17017 : aw_H := [(81, mgx17014)]
def mgx17018 : aw_A := ms_o [(0, 8)] [(0, 4)] ar_t32 ar_t32 [(0, 180)] [(43, 43)] [(42, 60)] [(1, 7)] [(4, 4)]
def mgh17019 : aw_H := [(81, mgx17018)]
def mgx17020 : aw_A := ms_o [(0, 8)] [(0, 4)] ar_t32 ar_t32 [(0, 180)] [(44, 44)] [(42, 60)] [(1, 7)] [(4, 4)]
def mgh17021 : aw_H := [(81, mgx17020)]
def mgx17022 : aw_A := ms_o [(0, 8)] [(0, 4)] ar_t32 ar_t32 [(0, 180)] [(45, 45)] [(42, 60)] [(1, 7)] [(4, 4)]
def mgh17023 : aw_H := [(81, mgx17022)]
def mgx17024 : aw_A := ms_o [(0, 8)] [(0, 4)] ar_t32 ar_t32 [(0, 180)] [(46, 46)] [(42, 60)] [(1, 7)] [(4, 4)]
def mgh17025 : aw_H := [(81, mgx17024)]
def mgx17026 : aw_A := ms_o [(0, 8)] [(0, 4)] ar_t32 ar_t32 [(0, 180)] [(47, 47)] [(42, 60)] [(1, 7)] [(4, 4)]
def mgh17027 : aw_H := [(81, mgx17026)]
def mgx17028 : aw_A := ms_o [(0, 8)] [(0, 4)] ar_t32 ar_t32 [(0, 180)] [(48, 48)] [(42, 60)] [(1, 7)] [(4, 4)]
def mgh17029 : aw_H := [(81, mgx17028)]
def mgx17030 : aw_A := ms_o [(0, 8)] [(0, 4)] ar_t32 ar_t32 [(0, 180)] [(49, 49)] [(42, 60)] [(1, 7)] [(4, 4)]
def mgh17031 : aw_H := [(81, mgx17030)]
def mgx17032 : aw_A := ms_o [(0, 8)] [(0, 4)] ar_t32 ar_t32 [(0, 180)] [(50, 50)] [(42, 60)] [(1, 7)] [(4, 4)]
def mgh17033 : aw_H := [(81, mgx17032)]
def mgx17034 : aw_A := ms_o [(0, 8)] [(0, 4)] ar_t32 ar_t32 [(0, 180)] [(51, 51)] [(42, 60)] [(1, 7)] [(4, 4)]
def mgh17035 : aw_H := [(81, mgx17034)]
def mgx17036 : aw_A := ms_o [(0, 8)] [(0, 4)] ar_t32 ar_t32 [(0, 180)] [(52, 52)] [(42, 60)] [(1, 7)] [(4, 4)]
def mgh17037 : aw_H := [(81, mgx17036)]
def mgx17038 : aw_A := ms_o [(0, 8)] [(0, 4)] ar_t32 ar_t32 [(0, 180)] [(53, 53)] [(42, 60)] [(1, 7)] [(4, 4)]
def mgh17039 : aw_H := [(81, mgx17038)]
def mgx17040 : aw_A := ms_o [(0, 8)] [(0, 4)] ar_t32 ar_t32 [(0, 180)] [(54, 54)] [(42, 60)] [(1, 7)] [(4, 4)]
def mgh17041 : aw_H := [(81, mgx17040)]
def mgx17042 : aw_A := ms_o [(0, 8)] [(0, 4)] ar_t32 ar_t32 [(0, 180)] [(55, 55)] [(42, 60)] [(1, 7)] [(4, 4)]
def mgh17043 : aw_H := [(81, mgx17042)]
def mgx17044 : aw_A := ms_o [(0, 8)] [(0, 4)] ar_t32 ar_t32 [(0, 180)] [(56, 56)] [(42, 60)] [(1, 7)] [(4, 4)]
def mgh17045 : aw_H := [(81, mgx17044)]
def mgx17046 : aw_A := ms_o [(0, 8)] [(0, 4)] ar_t32 ar_t32 [(0, 180)] [(57, 57)] [(42, 60)] [(1, 7)] [(4, 4)]
def mgh17047 : aw_H := [(81, mgx17046)]
def mgx17048 : aw_A := ms_o [(0, 8)] [(0, 4)] ar_t32 ar_t32 [(0, 180)] [(58, 58)] [(42, 60)] [(1, 7)] [(4, 4)]
def mgh17049 : aw_H := [(81, mgx17048)]
def mgx17050 : aw_A := ms_o [(0, 8)] [(0, 4)] ar_t32 ar_t32 [(0, 180)] [(59, 59)] [(42, 60)] [(1, 7)] [(4, 4)]
def mgh17051 : aw_H := [(81, mgx17050)]
def mgx17052 : aw_A := ms_o [(0, 8)] [(0, 4)] ar_t32 ar_t32 [(0, 180)] [(60, 60)] [(42, 60)] [(1, 7)] [(4, 4)]
def mgh17053 : aw_H := [(81, mgx17052)]
/-- MiceRegistersModel.skip -/
def mgh17054 : aw_H := [(81, mgx17014), (90, .inr (.inl (0, 240, [], [])))]
def mgc937 : ak_C := (122, [.inl 81], mgh17054, [81], [([], none, mgh17017), ([], none, mgh17019), ([], none, mgh17021), ([], none, mgh17023), ([], none, mgh17025), ([], none, mgh17027), ([], none, mgh17029), ([], none, mgh17031), ([], none, mgh17033), ([], none, mgh17035), ([], none, mgh17037), ([], none, mgh17039), ([], none, mgh17041), ([], none, mgh17043), ([], none, mgh17045), ([], none, mgh17047), ([], none, mgh17049), ([], none, mgh17051), ([], none, mgh17053)])
/-- MiceRegistersModel.readsLine -/
def mgx17055 : aw_A := ms_o [(0, 8)] [(0, 4)] ar_t32 ar_t32 [(0, 180)] [(39, 39)] [(40, 60)] [(1, 6)] [(4, 4)]
def mgh17056 : aw_H := [(81, mgx17055)]
def mgc938 : ak_C := (124, [.inl 81], mgh17056, [], [([], some (.inr (false, [(0, 0)])), [])])
theorem mgk938 : ai_chk [] mgc938 (fun pc => sm_ch sm_t124 pc, sm_Kn 3 3 none, fun x => sm_lk sm_ca3 x, some .boolean) [] 3 0 [] [] 2000 [] = true := by decide +kernel
/-- MiceRegistersModel.readsMouse -/
def mgh17057 : aw_H := [(81, mgx17055), (90, .inr (.inl (0, 240, [], [])))]
def mgc939 : ak_C := (127, [.inl 81], mgh17057, [], [([], some (.inr (false, [(0, 0)])), [])])
theorem mgk939 : ai_chk [mgc40, mgc148] mgc939 (fun pc => sm_ch sm_t127 pc, sm_Kn 3 5 none, fun x => sm_lk sm_ca3 x, some .boolean) [] 5 0 [] [] 2000 [] = true := by decide +kernel
def mgx17058 : aw_A := ms_o [(0, 8)] [(0, 4)] ar_t32 ar_t32 [(0, 180)] [(44, 44)] [(44, 60)] [(0, 7)] [(0, 0)]
def mgh17059 : aw_H := [(81, mgx17058)]
/-- MiceRegistersModel.figure -/
def mgh17060 : aw_H := [(81, mgx16832), (90, .inr (.inl (0, 240, [], [])))]
def mgc940 : ak_C := (125, [.inl 81, .inr (false, [(0, 0)]), .inr (false, [(9, 9)])], mgh17060, [81], [([], some (.inr (false, [(-9, -9)])), mgh16833), ([], some (.inr (false, [(0, 9)])), mgh17059)])
/-- MiceRegistersModel.twoFigures -/
def mgc941 : ak_C := (126, [.inl 81, .inr (false, [(1, 1)]), .inr (false, [(40, 40)])], mgh16834, [81], [([], some (.inr (false, [(-9, -9)])), mgh16595), ([], some (.inr (false, [(0, 99)])), mgh17059), ([], some (.inr (false, [(-9, -9)])), mgh16833)])
theorem mgk941 : ai_chk [mgc915, mgc940, mgc144] mgc941 (fun pc => sm_ch sm_t126 pc, sm_Kn 3 6 none, fun x => sm_lk sm_ca3 x, some .int) [81] 6 0 [] [] 2000 [] = true := by decide +kernel
def mgh17061 : aw_H := [(81, mgx16832), (92, .inr (.inl (0, 8, [], []))), (93, .inr (.inl (0, 8, [], [])))]
def mgx17062 : aw_A := ms_o [(0, 8)] [(0, 4)] ar_t32 ar_t32 [(0, 180)] [(44, 44)] [(44, 60)] [(1, 8)] [(0, 0)]
def mgh17063 : aw_H := [(81, mgx17062), (92, .inr (.inl (0, 8, [], []))), (93, .inr (.inl (0, 8, [], [])))]
def mgx17064 : aw_A := ms_o [(0, 8)] [(0, 4)] ar_t32 ar_t32 [(0, 180)] [(40, 40)] [(41, 60)] [(8, 8)] [(0, 0)]
def mgh17065 : aw_H := [(81, mgx17064), (92, .inr (.inl (0, 8, [], []))), (93, .inr (.inl (0, 8, [], [])))]
/-- MiceRegistersModel.readsLine -/
def mgx17066 : aw_A := ms_o [(0, 8)] [(0, 4)] ar_t32 ar_t32 [(0, 180)] [(40, 40)] [(41, 60)] [(0, 8)] [(0, 0)]
def mgh17067 : aw_H := [(81, mgx17066), (90, .inr (.inl (0, 240, [], []))), (92, .inr (.inl (0, 8, [], []))), (93, .inr (.inl (0, 8, [], [])))]
def mgc942 : ak_C := (124, [.inl 81], mgh17067, [81, 92, 93], [([], some (.inr (false, [(0, 0)])), mgh17061), ([], some (.inr (false, [(1, 1)])), mgh17063), ([], some (.inr (false, [(0, 0)])), mgh16835), ([], some (.inr (false, [(0, 0)])), mgh16597), ([], some (.inr (false, [(0, 0)])), mgh17065)])
theorem mgk942 : ai_chk [mgc890, mgc941] mgc942 (fun pc => sm_ch sm_t124 pc, sm_Kn 3 3 none, fun x => sm_lk sm_ca3 x, some .boolean) [81, 92, 93] 3 0 [] [] 2000 [] = true := by decide +kernel
def mgh17068 : aw_H := [(81, mgx17062)]
def mgx17069 : aw_A := ms_o [(0, 8)] [(0, 4)] ar_t32 ar_t32 [(0, 180)] [(45, 45)] [(44, 60)] [(1, 8)] [(0, 0)]
def mgh17070 : aw_H := [(81, mgx17069)]
def mgx17071 : aw_A := ms_o [(0, 8)] [(0, 4)] ar_t32 ar_t32 [(0, 180)] [(46, 46)] [(44, 60)] [(1, 8)] [(0, 0)]
def mgh17072 : aw_H := [(81, mgx17071)]
def mgx17073 : aw_A := ms_o [(0, 8)] [(0, 4)] ar_t32 ar_t32 [(0, 180)] [(47, 47)] [(44, 60)] [(1, 8)] [(0, 0)]
def mgh17074 : aw_H := [(81, mgx17073)]
def mgx17075 : aw_A := ms_o [(0, 8)] [(0, 4)] ar_t32 ar_t32 [(0, 180)] [(48, 48)] [(44, 60)] [(1, 8)] [(0, 0)]
def mgh17076 : aw_H := [(81, mgx17075)]
def mgx17077 : aw_A := ms_o [(0, 8)] [(0, 4)] ar_t32 ar_t32 [(0, 180)] [(49, 49)] [(44, 60)] [(1, 8)] [(0, 0)]
def mgh17078 : aw_H := [(81, mgx17077)]
def mgx17079 : aw_A := ms_o [(0, 8)] [(0, 4)] ar_t32 ar_t32 [(0, 180)] [(50, 50)] [(44, 60)] [(1, 8)] [(0, 0)]
def mgh17080 : aw_H := [(81, mgx17079)]
def mgx17081 : aw_A := ms_o [(0, 8)] [(0, 4)] ar_t32 ar_t32 [(0, 180)] [(51, 51)] [(44, 60)] [(1, 8)] [(0, 0)]
def mgh17082 : aw_H := [(81, mgx17081)]
def mgx17083 : aw_A := ms_o [(0, 8)] [(0, 4)] ar_t32 ar_t32 [(0, 180)] [(52, 52)] [(44, 60)] [(1, 8)] [(0, 0)]
def mgh17084 : aw_H := [(81, mgx17083)]
def mgx17085 : aw_A := ms_o [(0, 8)] [(0, 4)] ar_t32 ar_t32 [(0, 180)] [(53, 53)] [(44, 60)] [(1, 8)] [(0, 0)]
def mgh17086 : aw_H := [(81, mgx17085)]
def mgx17087 : aw_A := ms_o [(0, 8)] [(0, 4)] ar_t32 ar_t32 [(0, 180)] [(54, 54)] [(44, 60)] [(1, 8)] [(0, 0)]
def mgh17088 : aw_H := [(81, mgx17087)]
def mgx17089 : aw_A := ms_o [(0, 8)] [(0, 4)] ar_t32 ar_t32 [(0, 180)] [(55, 55)] [(44, 60)] [(1, 8)] [(0, 0)]
def mgh17090 : aw_H := [(81, mgx17089)]
def mgx17091 : aw_A := ms_o [(0, 8)] [(0, 4)] ar_t32 ar_t32 [(0, 180)] [(56, 56)] [(44, 60)] [(1, 8)] [(0, 0)]
def mgh17092 : aw_H := [(81, mgx17091)]
def mgx17093 : aw_A := ms_o [(0, 8)] [(0, 4)] ar_t32 ar_t32 [(0, 180)] [(57, 57)] [(44, 60)] [(1, 8)] [(0, 0)]
def mgh17094 : aw_H := [(81, mgx17093)]
def mgx17095 : aw_A := ms_o [(0, 8)] [(0, 4)] ar_t32 ar_t32 [(0, 180)] [(58, 58)] [(44, 60)] [(1, 8)] [(0, 0)]
def mgh17096 : aw_H := [(81, mgx17095)]
def mgx17097 : aw_A := ms_o [(0, 8)] [(0, 4)] ar_t32 ar_t32 [(0, 180)] [(59, 59)] [(44, 60)] [(1, 8)] [(0, 0)]
def mgh17098 : aw_H := [(81, mgx17097)]
def mgx17099 : aw_A := ms_o [(0, 8)] [(0, 4)] ar_t32 ar_t32 [(0, 180)] [(60, 60)] [(44, 60)] [(1, 8)] [(0, 0)]
def mgh17100 : aw_H := [(81, mgx17099)]
/-- MiceRegistersModel.skip -/
def mgh17101 : aw_H := [(81, mgx17062), (90, .inr (.inl (0, 240, [], [])))]
def mgc943 : ak_C := (122, [.inl 81], mgh17101, [81], [([], none, mgh17068), ([], none, mgh17070), ([], none, mgh17072), ([], none, mgh17074), ([], none, mgh17076), ([], none, mgh17078), ([], none, mgh17080), ([], none, mgh17082), ([], none, mgh17084), ([], none, mgh17086), ([], none, mgh17088), ([], none, mgh17090), ([], none, mgh17092), ([], none, mgh17094), ([], none, mgh17096), ([], none, mgh17098), ([], none, mgh17100)])
/-- MiceRegistersModel.figure -/
def mgc944 : ak_C := (125, [.inl 81, .inr (false, [(0, 0)]), .inr (false, [(0, 7)])], mgh16391, [81], [([], some (.inr (false, [(-9, -9)])), mgh16352), ([], some (.inr (false, [(0, 7)])), mgh16604)])
/-- MiceRegistersModel.figure -/
def mgc945 : ak_C := (125, [.inl 81, .inr (false, [(1, 1)]), .inr (false, [(9, 9)])], mgh16641, [81], [([], some (.inr (false, [(-9, -9)])), mgh16604), ([], some (.inr (false, [(1, 9)])), mgh16842)])
def mgh17102 : aw_H := [(81, mgx17066), (94, mgx5049)]
def mgx17103 : aw_A := ms_o [(0, 8)] [(0, 4)] ar_t32 ar_t32 [(0, 180)] [(43, 43)] [(43, 60)] [(1, 8)] [(1, 1)]
def mgh17104 : aw_H := [(81, mgx17103), (94, mgx5052)]
def mgh17105 : aw_H := [(81, mgx16598), (94, mgx5049)]
/-- MiceRegistersModel.readsMouse -/
def mgh17106 : aw_H := [(81, mgx17066), (90, .inr (.inl (0, 240, [], []))), (94, mgx5049)]
def mgc946 : ak_C := (127, [.inl 81], mgh17106, [81, 94], [([], some (.inr (false, [(0, 0)])), mgh17102), ([], some (.inr (false, [(1, 1)])), mgh17104), ([], some (.inr (false, [(0, 0)])), mgh17105), ([], some (.inr (false, [(0, 0)])), mgh16881)])
theorem mgk946 : ai_chk [mgc39, mgc148, mgc944, mgc945] mgc946 (fun pc => sm_ch sm_t127 pc, sm_Kn 3 5 none, fun x => sm_lk sm_ca3 x, some .boolean) [81, 94] 5 0 [] [] 2000 [] = true := by decide +kernel
def mgh17107 : aw_H := [(81, mgx17103)]
def mgx17108 : aw_A := ms_o [(0, 8)] [(0, 4)] ar_t32 ar_t32 [(0, 180)] [(44, 44)] [(43, 60)] [(1, 8)] [(1, 1)]
def mgh17109 : aw_H := [(81, mgx17108)]
def mgx17110 : aw_A := ms_o [(0, 8)] [(0, 4)] ar_t32 ar_t32 [(0, 180)] [(45, 45)] [(43, 60)] [(1, 8)] [(1, 1)]
def mgh17111 : aw_H := [(81, mgx17110)]
def mgx17112 : aw_A := ms_o [(0, 8)] [(0, 4)] ar_t32 ar_t32 [(0, 180)] [(46, 46)] [(43, 60)] [(1, 8)] [(1, 1)]
def mgh17113 : aw_H := [(81, mgx17112)]
def mgx17114 : aw_A := ms_o [(0, 8)] [(0, 4)] ar_t32 ar_t32 [(0, 180)] [(47, 47)] [(43, 60)] [(1, 8)] [(1, 1)]
def mgh17115 : aw_H := [(81, mgx17114)]
def mgx17116 : aw_A := ms_o [(0, 8)] [(0, 4)] ar_t32 ar_t32 [(0, 180)] [(48, 48)] [(43, 60)] [(1, 8)] [(1, 1)]
def mgh17117 : aw_H := [(81, mgx17116)]
def mgx17118 : aw_A := ms_o [(0, 8)] [(0, 4)] ar_t32 ar_t32 [(0, 180)] [(49, 49)] [(43, 60)] [(1, 8)] [(1, 1)]
def mgh17119 : aw_H := [(81, mgx17118)]
def mgx17120 : aw_A := ms_o [(0, 8)] [(0, 4)] ar_t32 ar_t32 [(0, 180)] [(50, 50)] [(43, 60)] [(1, 8)] [(1, 1)]
def mgh17121 : aw_H := [(81, mgx17120)]
def mgx17122 : aw_A := ms_o [(0, 8)] [(0, 4)] ar_t32 ar_t32 [(0, 180)] [(51, 51)] [(43, 60)] [(1, 8)] [(1, 1)]
def mgh17123 : aw_H := [(81, mgx17122)]
def mgx17124 : aw_A := ms_o [(0, 8)] [(0, 4)] ar_t32 ar_t32 [(0, 180)] [(52, 52)] [(43, 60)] [(1, 8)] [(1, 1)]
def mgh17125 : aw_H := [(81, mgx17124)]
def mgx17126 : aw_A := ms_o [(0, 8)] [(0, 4)] ar_t32 ar_t32 [(0, 180)] [(53, 53)] [(43, 60)] [(1, 8)] [(1, 1)]
def mgh17127 : aw_H := [(81, mgx17126)]
def mgx17128 : aw_A := ms_o [(0, 8)] [(0, 4)] ar_t32 ar_t32 [(0, 180)] [(54, 54)] [(43, 60)] [(1, 8)] [(1, 1)]
def mgh17129 : aw_H := [(81, mgx17128)]
def mgx17130 : aw_A := ms_o [(0, 8)] [(0, 4)] ar_t32 ar_t32 [(0, 180)] [(55, 55)] [(43, 60)] [(1, 8)] [(1, 1)]
def mgh17131 : aw_H := [(81, mgx17130)]
def mgx17132 : aw_A := ms_o [(0, 8)] [(0, 4)] ar_t32 ar_t32 [(0, 180)] [(56, 56)] [(43, 60)] [(1, 8)] [(1, 1)]
def mgh17133 : aw_H := [(81, mgx17132)]
def mgx17134 : aw_A := ms_o [(0, 8)] [(0, 4)] ar_t32 ar_t32 [(0, 180)] [(57, 57)] [(43, 60)] [(1, 8)] [(1, 1)]
def mgh17135 : aw_H := [(81, mgx17134)]
def mgx17136 : aw_A := ms_o [(0, 8)] [(0, 4)] ar_t32 ar_t32 [(0, 180)] [(58, 58)] [(43, 60)] [(1, 8)] [(1, 1)]
def mgh17137 : aw_H := [(81, mgx17136)]
def mgx17138 : aw_A := ms_o [(0, 8)] [(0, 4)] ar_t32 ar_t32 [(0, 180)] [(59, 59)] [(43, 60)] [(1, 8)] [(1, 1)]
def mgh17139 : aw_H := [(81, mgx17138)]
def mgx17140 : aw_A := ms_o [(0, 8)] [(0, 4)] ar_t32 ar_t32 [(0, 180)] [(60, 60)] [(43, 60)] [(1, 8)] [(1, 1)]
def mgh17141 : aw_H := [(81, mgx17140)]
/-- MiceRegistersModel.skip -/
def mgh17142 : aw_H := [(81, mgx17103), (90, .inr (.inl (0, 240, [], [])))]
def mgc947 : ak_C := (122, [.inl 81], mgh17142, [81], [([], none, mgh17107), ([], none, mgh17109), ([], none, mgh17111), ([], none, mgh17113), ([], none, mgh17115), ([], none, mgh17117), ([], none, mgh17119), ([], none, mgh17121), ([], none, mgh17123), ([], none, mgh17125), ([], none, mgh17127), ([], none, mgh17129), ([], none, mgh17131), ([], none, mgh17133), ([], none, mgh17135), ([], none, mgh17137), ([], none, mgh17139), ([], none, mgh17141)])
/-- MiceRegistersModel.readsLine -/
def mgx17143 : aw_A := ms_o [(0, 8)] [(0, 4)] ar_t32 ar_t32 [(0, 180)] [(40, 40)] [(41, 60)] [(1, 8)] [(1, 1)]
def mgh17144 : aw_H := [(81, mgx17143)]
def mgc948 : ak_C := (124, [.inl 81], mgh17144, [], [([], some (.inr (false, [(0, 0)])), [])])
theorem mgk948 : ai_chk [] mgc948 (fun pc => sm_ch sm_t124 pc, sm_Kn 3 3 none, fun x => sm_lk sm_ca3 x, some .boolean) [] 3 0 [] [] 2000 [] = true := by decide +kernel
/-- MiceRegistersModel.figure -/
def mgc949 : ak_C := (125, [.inl 81, .inr (false, [(0, 0)]), .inr (false, [(0, 7)])], mgh16686, [81], [([], some (.inr (false, [(-9, -9)])), mgh16647), ([], some (.inr (false, [(0, 7)])), mgh16883)])
/-- MiceRegistersModel.figure -/
def mgc950 : ak_C := (125, [.inl 81, .inr (false, [(1, 1)]), .inr (false, [(9, 9)])], mgh16920, [81], [([], some (.inr (false, [(-9, -9)])), mgh16883), ([], some (.inr (false, [(1, 9)])), mgh17107)])
def mgh17145 : aw_H := [(81, mgx17143), (94, mgx5052)]
def mgx17146 : aw_A := ms_o [(0, 8)] [(0, 4)] ar_t32 ar_t32 [(0, 180)] [(43, 43)] [(43, 60)] [(1, 8)] [(2, 2)]
def mgh17147 : aw_H := [(81, mgx17146), (94, mgx5820)]
/-- MiceRegistersModel.readsMouse -/
def mgh17148 : aw_H := [(81, mgx17143), (90, .inr (.inl (0, 240, [], []))), (94, mgx5052)]
def mgc951 : ak_C := (127, [.inl 81], mgh17148, [81, 94], [([], some (.inr (false, [(0, 0)])), mgh17145), ([], some (.inr (false, [(1, 1)])), mgh17147), ([], some (.inr (false, [(0, 0)])), mgh16880), ([], some (.inr (false, [(0, 0)])), mgh16644)])
theorem mgk951 : ai_chk [mgc39, mgc148, mgc949, mgc950] mgc951 (fun pc => sm_ch sm_t127 pc, sm_Kn 3 5 none, fun x => sm_lk sm_ca3 x, some .boolean) [81, 94] 5 0 [] [] 2000 [] = true := by decide +kernel
def mgh17149 : aw_H := [(81, mgx17146)]
def mgx17150 : aw_A := ms_o [(0, 8)] [(0, 4)] ar_t32 ar_t32 [(0, 180)] [(44, 44)] [(43, 60)] [(1, 8)] [(2, 2)]
def mgh17151 : aw_H := [(81, mgx17150)]
def mgx17152 : aw_A := ms_o [(0, 8)] [(0, 4)] ar_t32 ar_t32 [(0, 180)] [(45, 45)] [(43, 60)] [(1, 8)] [(2, 2)]
def mgh17153 : aw_H := [(81, mgx17152)]
def mgx17154 : aw_A := ms_o [(0, 8)] [(0, 4)] ar_t32 ar_t32 [(0, 180)] [(46, 46)] [(43, 60)] [(1, 8)] [(2, 2)]
def mgh17155 : aw_H := [(81, mgx17154)]
def mgx17156 : aw_A := ms_o [(0, 8)] [(0, 4)] ar_t32 ar_t32 [(0, 180)] [(47, 47)] [(43, 60)] [(1, 8)] [(2, 2)]
def mgh17157 : aw_H := [(81, mgx17156)]
def mgx17158 : aw_A := ms_o [(0, 8)] [(0, 4)] ar_t32 ar_t32 [(0, 180)] [(48, 48)] [(43, 60)] [(1, 8)] [(2, 2)]
def mgh17159 : aw_H := [(81, mgx17158)]
def mgx17160 : aw_A := ms_o [(0, 8)] [(0, 4)] ar_t32 ar_t32 [(0, 180)] [(49, 49)] [(43, 60)] [(1, 8)] [(2, 2)]
def mgh17161 : aw_H := [(81, mgx17160)]
def mgx17162 : aw_A := ms_o [(0, 8)] [(0, 4)] ar_t32 ar_t32 [(0, 180)] [(50, 50)] [(43, 60)] [(1, 8)] [(2, 2)]
def mgh17163 : aw_H := [(81, mgx17162)]
def mgx17164 : aw_A := ms_o [(0, 8)] [(0, 4)] ar_t32 ar_t32 [(0, 180)] [(51, 51)] [(43, 60)] [(1, 8)] [(2, 2)]
def mgh17165 : aw_H := [(81, mgx17164)]
def mgx17166 : aw_A := ms_o [(0, 8)] [(0, 4)] ar_t32 ar_t32 [(0, 180)] [(52, 52)] [(43, 60)] [(1, 8)] [(2, 2)]
def mgh17167 : aw_H := [(81, mgx17166)]
def mgx17168 : aw_A := ms_o [(0, 8)] [(0, 4)] ar_t32 ar_t32 [(0, 180)] [(53, 53)] [(43, 60)] [(1, 8)] [(2, 2)]
def mgh17169 : aw_H := [(81, mgx17168)]
def mgx17170 : aw_A := ms_o [(0, 8)] [(0, 4)] ar_t32 ar_t32 [(0, 180)] [(54, 54)] [(43, 60)] [(1, 8)] [(2, 2)]
def mgh17171 : aw_H := [(81, mgx17170)]
def mgx17172 : aw_A := ms_o [(0, 8)] [(0, 4)] ar_t32 ar_t32 [(0, 180)] [(55, 55)] [(43, 60)] [(1, 8)] [(2, 2)]
def mgh17173 : aw_H := [(81, mgx17172)]
def mgx17174 : aw_A := ms_o [(0, 8)] [(0, 4)] ar_t32 ar_t32 [(0, 180)] [(56, 56)] [(43, 60)] [(1, 8)] [(2, 2)]
def mgh17175 : aw_H := [(81, mgx17174)]
def mgx17176 : aw_A := ms_o [(0, 8)] [(0, 4)] ar_t32 ar_t32 [(0, 180)] [(57, 57)] [(43, 60)] [(1, 8)] [(2, 2)]
def mgh17177 : aw_H := [(81, mgx17176)]
def mgx17178 : aw_A := ms_o [(0, 8)] [(0, 4)] ar_t32 ar_t32 [(0, 180)] [(58, 58)] [(43, 60)] [(1, 8)] [(2, 2)]
def mgh17179 : aw_H := [(81, mgx17178)]
def mgx17180 : aw_A := ms_o [(0, 8)] [(0, 4)] ar_t32 ar_t32 [(0, 180)] [(59, 59)] [(43, 60)] [(1, 8)] [(2, 2)]
def mgh17181 : aw_H := [(81, mgx17180)]
def mgx17182 : aw_A := ms_o [(0, 8)] [(0, 4)] ar_t32 ar_t32 [(0, 180)] [(60, 60)] [(43, 60)] [(1, 8)] [(2, 2)]
def mgh17183 : aw_H := [(81, mgx17182)]
/-- MiceRegistersModel.skip -/
def mgh17184 : aw_H := [(81, mgx17146), (90, .inr (.inl (0, 240, [], [])))]
def mgc952 : ak_C := (122, [.inl 81], mgh17184, [81], [([], none, mgh17149), ([], none, mgh17151), ([], none, mgh17153), ([], none, mgh17155), ([], none, mgh17157), ([], none, mgh17159), ([], none, mgh17161), ([], none, mgh17163), ([], none, mgh17165), ([], none, mgh17167), ([], none, mgh17169), ([], none, mgh17171), ([], none, mgh17173), ([], none, mgh17175), ([], none, mgh17177), ([], none, mgh17179), ([], none, mgh17181), ([], none, mgh17183)])
/-- MiceRegistersModel.readsLine -/
def mgx17185 : aw_A := ms_o [(0, 8)] [(0, 4)] ar_t32 ar_t32 [(0, 180)] [(40, 40)] [(41, 60)] [(1, 8)] [(2, 2)]
def mgh17186 : aw_H := [(81, mgx17185)]
def mgc953 : ak_C := (124, [.inl 81], mgh17186, [], [([], some (.inr (false, [(0, 0)])), [])])
theorem mgk953 : ai_chk [] mgc953 (fun pc => sm_ch sm_t124 pc, sm_Kn 3 3 none, fun x => sm_lk sm_ca3 x, some .boolean) [] 3 0 [] [] 2000 [] = true := by decide +kernel
/-- MiceRegistersModel.figure -/
def mgc954 : ak_C := (125, [.inl 81, .inr (false, [(0, 0)]), .inr (false, [(0, 7)])], mgh16732, [81], [([], some (.inr (false, [(-9, -9)])), mgh16693), ([], some (.inr (false, [(0, 7)])), mgh16927)])
/-- MiceRegistersModel.figure -/
def mgc955 : ak_C := (125, [.inl 81, .inr (false, [(1, 1)]), .inr (false, [(9, 9)])], mgh16964, [81], [([], some (.inr (false, [(-9, -9)])), mgh16927), ([], some (.inr (false, [(1, 9)])), mgh17149)])
def mgh17187 : aw_H := [(81, mgx17185), (94, mgx5820)]
def mgx17188 : aw_A := ms_o [(0, 8)] [(0, 4)] ar_t32 ar_t32 [(0, 180)] [(43, 43)] [(43, 60)] [(1, 8)] [(3, 3)]
def mgh17189 : aw_H := [(81, mgx17188), (94, mgx6868)]
/-- MiceRegistersModel.readsMouse -/
def mgh17190 : aw_H := [(81, mgx17185), (90, .inr (.inl (0, 240, [], []))), (94, mgx5820)]
def mgc956 : ak_C := (127, [.inl 81], mgh17190, [81, 94], [([], some (.inr (false, [(0, 0)])), mgh17187), ([], some (.inr (false, [(1, 1)])), mgh17189), ([], some (.inr (false, [(0, 0)])), mgh16925), ([], some (.inr (false, [(0, 0)])), mgh16691)])
theorem mgk956 : ai_chk [mgc39, mgc148, mgc954, mgc955] mgc956 (fun pc => sm_ch sm_t127 pc, sm_Kn 3 5 none, fun x => sm_lk sm_ca3 x, some .boolean) [81, 94] 5 0 [] [] 2000 [] = true := by decide +kernel
def mgh17191 : aw_H := [(81, mgx17188)]
def mgx17192 : aw_A := ms_o [(0, 8)] [(0, 4)] ar_t32 ar_t32 [(0, 180)] [(44, 44)] [(43, 60)] [(1, 8)] [(3, 3)]
def mgh17193 : aw_H := [(81, mgx17192)]
def mgx17194 : aw_A := ms_o [(0, 8)] [(0, 4)] ar_t32 ar_t32 [(0, 180)] [(45, 45)] [(43, 60)] [(1, 8)] [(3, 3)]
def mgh17195 : aw_H := [(81, mgx17194)]
def mgx17196 : aw_A := ms_o [(0, 8)] [(0, 4)] ar_t32 ar_t32 [(0, 180)] [(46, 46)] [(43, 60)] [(1, 8)] [(3, 3)]
def mgh17197 : aw_H := [(81, mgx17196)]
def mgx17198 : aw_A := ms_o [(0, 8)] [(0, 4)] ar_t32 ar_t32 [(0, 180)] [(47, 47)] [(43, 60)] [(1, 8)] [(3, 3)]
def mgh17199 : aw_H := [(81, mgx17198)]
def mgx17200 : aw_A := ms_o [(0, 8)] [(0, 4)] ar_t32 ar_t32 [(0, 180)] [(48, 48)] [(43, 60)] [(1, 8)] [(3, 3)]
def mgh17201 : aw_H := [(81, mgx17200)]
def mgx17202 : aw_A := ms_o [(0, 8)] [(0, 4)] ar_t32 ar_t32 [(0, 180)] [(49, 49)] [(43, 60)] [(1, 8)] [(3, 3)]
def mgh17203 : aw_H := [(81, mgx17202)]
def mgx17204 : aw_A := ms_o [(0, 8)] [(0, 4)] ar_t32 ar_t32 [(0, 180)] [(50, 50)] [(43, 60)] [(1, 8)] [(3, 3)]
def mgh17205 : aw_H := [(81, mgx17204)]
def mgx17206 : aw_A := ms_o [(0, 8)] [(0, 4)] ar_t32 ar_t32 [(0, 180)] [(51, 51)] [(43, 60)] [(1, 8)] [(3, 3)]
def mgh17207 : aw_H := [(81, mgx17206)]
def mgx17208 : aw_A := ms_o [(0, 8)] [(0, 4)] ar_t32 ar_t32 [(0, 180)] [(52, 52)] [(43, 60)] [(1, 8)] [(3, 3)]
def mgh17209 : aw_H := [(81, mgx17208)]
def mgx17210 : aw_A := ms_o [(0, 8)] [(0, 4)] ar_t32 ar_t32 [(0, 180)] [(53, 53)] [(43, 60)] [(1, 8)] [(3, 3)]
def mgh17211 : aw_H := [(81, mgx17210)]
def mgx17212 : aw_A := ms_o [(0, 8)] [(0, 4)] ar_t32 ar_t32 [(0, 180)] [(54, 54)] [(43, 60)] [(1, 8)] [(3, 3)]
def mgh17213 : aw_H := [(81, mgx17212)]
def mgx17214 : aw_A := ms_o [(0, 8)] [(0, 4)] ar_t32 ar_t32 [(0, 180)] [(55, 55)] [(43, 60)] [(1, 8)] [(3, 3)]
def mgh17215 : aw_H := [(81, mgx17214)]
def mgx17216 : aw_A := ms_o [(0, 8)] [(0, 4)] ar_t32 ar_t32 [(0, 180)] [(56, 56)] [(43, 60)] [(1, 8)] [(3, 3)]
def mgh17217 : aw_H := [(81, mgx17216)]
def mgx17218 : aw_A := ms_o [(0, 8)] [(0, 4)] ar_t32 ar_t32 [(0, 180)] [(57, 57)] [(43, 60)] [(1, 8)] [(3, 3)]
def mgh17219 : aw_H := [(81, mgx17218)]
def mgx17220 : aw_A := ms_o [(0, 8)] [(0, 4)] ar_t32 ar_t32 [(0, 180)] [(58, 58)] [(43, 60)] [(1, 8)] [(3, 3)]
def mgh17221 : aw_H := [(81, mgx17220)]
def mgx17222 : aw_A := ms_o [(0, 8)] [(0, 4)] ar_t32 ar_t32 [(0, 180)] [(59, 59)] [(43, 60)] [(1, 8)] [(3, 3)]
def mgh17223 : aw_H := [(81, mgx17222)]
def mgx17224 : aw_A := ms_o [(0, 8)] [(0, 4)] ar_t32 ar_t32 [(0, 180)] [(60, 60)] [(43, 60)] [(1, 8)] [(3, 3)]
def mgh17225 : aw_H := [(81, mgx17224)]
/-- MiceRegistersModel.skip -/
def mgh17226 : aw_H := [(81, mgx17188), (90, .inr (.inl (0, 240, [], [])))]
def mgc957 : ak_C := (122, [.inl 81], mgh17226, [81], [([], none, mgh17191), ([], none, mgh17193), ([], none, mgh17195), ([], none, mgh17197), ([], none, mgh17199), ([], none, mgh17201), ([], none, mgh17203), ([], none, mgh17205), ([], none, mgh17207), ([], none, mgh17209), ([], none, mgh17211), ([], none, mgh17213), ([], none, mgh17215), ([], none, mgh17217), ([], none, mgh17219), ([], none, mgh17221), ([], none, mgh17223), ([], none, mgh17225)])
/-- MiceRegistersModel.readsLine -/
def mgx17227 : aw_A := ms_o [(0, 8)] [(0, 4)] ar_t32 ar_t32 [(0, 180)] [(40, 40)] [(41, 60)] [(1, 7)] [(3, 3)]
def mgh17228 : aw_H := [(81, mgx17227)]
def mgc958 : ak_C := (124, [.inl 81], mgh17228, [], [([], some (.inr (false, [(0, 0)])), [])])
theorem mgk958 : ai_chk [] mgc958 (fun pc => sm_ch sm_t124 pc, sm_Kn 3 3 none, fun x => sm_lk sm_ca3 x, some .boolean) [] 3 0 [] [] 2000 [] = true := by decide +kernel
/-- MiceRegistersModel.figure -/
def mgc959 : ak_C := (125, [.inl 81, .inr (false, [(0, 0)]), .inr (false, [(0, 6)])], mgh16782, [81], [([], some (.inr (false, [(-9, -9)])), mgh16743), ([], some (.inr (false, [(0, 6)])), mgh17012)])
def mgx17229 : aw_A := ms_o [(0, 8)] [(0, 4)] ar_t32 ar_t32 [(0, 180)] [(43, 43)] [(43, 60)] [(1, 7)] [(3, 3)]
def mgh17230 : aw_H := [(81, mgx17229)]
/-- MiceRegistersModel.figure -/
def mgh17231 : aw_H := [(81, mgx17011), (90, .inr (.inl (0, 240, [], [])))]
def mgc960 : ak_C := (125, [.inl 81, .inr (false, [(1, 1)]), .inr (false, [(9, 9)])], mgh17231, [81], [([], some (.inr (false, [(-9, -9)])), mgh17012), ([], some (.inr (false, [(1, 9)])), mgh17230)])
def mgh17232 : aw_H := [(81, mgx17227), (94, mgx6868)]
def mgx17233 : aw_A := ms_o [(0, 8)] [(0, 4)] ar_t32 ar_t32 [(0, 180)] [(43, 43)] [(43, 60)] [(1, 7)] [(4, 4)]
def mgh17234 : aw_H := [(81, mgx17233), (94, mgx8150)]
def mgh17235 : aw_H := [(81, mgx17011), (94, mgx6868)]
/-- MiceRegistersModel.readsMouse -/
def mgh17236 : aw_H := [(81, mgx17227), (90, .inr (.inl (0, 240, [], []))), (94, mgx6868)]
def mgc961 : ak_C := (127, [.inl 81], mgh17236, [81, 94], [([], some (.inr (false, [(0, 0)])), mgh17232), ([], some (.inr (false, [(1, 1)])), mgh17234), ([], some (.inr (false, [(0, 0)])), mgh17235), ([], some (.inr (false, [(0, 0)])), mgh16740)])
theorem mgk961 : ai_chk [mgc39, mgc148, mgc959, mgc960] mgc961 (fun pc => sm_ch sm_t127 pc, sm_Kn 3 5 none, fun x => sm_lk sm_ca3 x, some .boolean) [81, 94] 5 0 [] [] 2000 [] = true := by decide +kernel
def mgh17237 : aw_H := [(81, mgx17233)]
def mgx17238 : aw_A := ms_o [(0, 8)] [(0, 4)] ar_t32 ar_t32 [(0, 180)] [(44, 44)] [(43, 60)] [(1, 7)] [(4, 4)]
def mgh17239 : aw_H := [(81, mgx17238)]
def mgx17240 : aw_A := ms_o [(0, 8)] [(0, 4)] ar_t32 ar_t32 [(0, 180)] [(45, 45)] [(43, 60)] [(1, 7)] [(4, 4)]
def mgh17241 : aw_H := [(81, mgx17240)]
def mgx17242 : aw_A := ms_o [(0, 8)] [(0, 4)] ar_t32 ar_t32 [(0, 180)] [(46, 46)] [(43, 60)] [(1, 7)] [(4, 4)]
def mgh17243 : aw_H := [(81, mgx17242)]
def mgx17244 : aw_A := ms_o [(0, 8)] [(0, 4)] ar_t32 ar_t32 [(0, 180)] [(47, 47)] [(43, 60)] [(1, 7)] [(4, 4)]
def mgh17245 : aw_H := [(81, mgx17244)]
def mgx17246 : aw_A := ms_o [(0, 8)] [(0, 4)] ar_t32 ar_t32 [(0, 180)] [(48, 48)] [(43, 60)] [(1, 7)] [(4, 4)]
def mgh17247 : aw_H := [(81, mgx17246)]
def mgx17248 : aw_A := ms_o [(0, 8)] [(0, 4)] ar_t32 ar_t32 [(0, 180)] [(49, 49)] [(43, 60)] [(1, 7)] [(4, 4)]
def mgh17249 : aw_H := [(81, mgx17248)]
def mgx17250 : aw_A := ms_o [(0, 8)] [(0, 4)] ar_t32 ar_t32 [(0, 180)] [(50, 50)] [(43, 60)] [(1, 7)] [(4, 4)]
def mgh17251 : aw_H := [(81, mgx17250)]
def mgx17252 : aw_A := ms_o [(0, 8)] [(0, 4)] ar_t32 ar_t32 [(0, 180)] [(51, 51)] [(43, 60)] [(1, 7)] [(4, 4)]
def mgh17253 : aw_H := [(81, mgx17252)]
def mgx17254 : aw_A := ms_o [(0, 8)] [(0, 4)] ar_t32 ar_t32 [(0, 180)] [(52, 52)] [(43, 60)] [(1, 7)] [(4, 4)]
def mgh17255 : aw_H := [(81, mgx17254)]
def mgx17256 : aw_A := ms_o [(0, 8)] [(0, 4)] ar_t32 ar_t32 [(0, 180)] [(53, 53)] [(43, 60)] [(1, 7)] [(4, 4)]
def mgh17257 : aw_H := [(81, mgx17256)]
def mgx17258 : aw_A := ms_o [(0, 8)] [(0, 4)] ar_t32 ar_t32 [(0, 180)] [(54, 54)] [(43, 60)] [(1, 7)] [(4, 4)]
def mgh17259 : aw_H := [(81, mgx17258)]
def mgx17260 : aw_A := ms_o [(0, 8)] [(0, 4)] ar_t32 ar_t32 [(0, 180)] [(55, 55)] [(43, 60)] [(1, 7)] [(4, 4)]
def mgh17261 : aw_H := [(81, mgx17260)]
def mgx17262 : aw_A := ms_o [(0, 8)] [(0, 4)] ar_t32 ar_t32 [(0, 180)] [(56, 56)] [(43, 60)] [(1, 7)] [(4, 4)]
def mgh17263 : aw_H := [(81, mgx17262)]
def mgx17264 : aw_A := ms_o [(0, 8)] [(0, 4)] ar_t32 ar_t32 [(0, 180)] [(57, 57)] [(43, 60)] [(1, 7)] [(4, 4)]
def mgh17265 : aw_H := [(81, mgx17264)]
def mgx17266 : aw_A := ms_o [(0, 8)] [(0, 4)] ar_t32 ar_t32 [(0, 180)] [(58, 58)] [(43, 60)] [(1, 7)] [(4, 4)]
def mgh17267 : aw_H := [(81, mgx17266)]
def mgx17268 : aw_A := ms_o [(0, 8)] [(0, 4)] ar_t32 ar_t32 [(0, 180)] [(59, 59)] [(43, 60)] [(1, 7)] [(4, 4)]
def mgh17269 : aw_H := [(81, mgx17268)]
def mgx17270 : aw_A := ms_o [(0, 8)] [(0, 4)] ar_t32 ar_t32 [(0, 180)] [(60, 60)] [(43, 60)] [(1, 7)] [(4, 4)]
def mgh17271 : aw_H := [(81, mgx17270)]
/-- MiceRegistersModel.skip -/
def mgh17272 : aw_H := [(81, mgx17233), (90, .inr (.inl (0, 240, [], [])))]
def mgc962 : ak_C := (122, [.inl 81], mgh17272, [81], [([], none, mgh17237), ([], none, mgh17239), ([], none, mgh17241), ([], none, mgh17243), ([], none, mgh17245), ([], none, mgh17247), ([], none, mgh17249), ([], none, mgh17251), ([], none, mgh17253), ([], none, mgh17255), ([], none, mgh17257), ([], none, mgh17259), ([], none, mgh17261), ([], none, mgh17263), ([], none, mgh17265), ([], none, mgh17267), ([], none, mgh17269), ([], none, mgh17271)])
/-- MiceRegistersModel.readsLine -/
def mgx17273 : aw_A := ms_o [(0, 8)] [(0, 4)] ar_t32 ar_t32 [(0, 180)] [(40, 40)] [(41, 60)] [(1, 6)] [(4, 4)]
def mgh17274 : aw_H := [(81, mgx17273)]
def mgc963 : ak_C := (124, [.inl 81], mgh17274, [], [([], some (.inr (false, [(0, 0)])), [])])
theorem mgk963 : ai_chk [] mgc963 (fun pc => sm_ch sm_t124 pc, sm_Kn 3 3 none, fun x => sm_lk sm_ca3 x, some .boolean) [] 3 0 [] [] 2000 [] = true := by decide +kernel
/-- MiceRegistersModel.readsMouse -/
def mgh17275 : aw_H := [(81, mgx17273), (90, .inr (.inl (0, 240, [], [])))]
def mgc964 : ak_C := (127, [.inl 81], mgh17275, [], [([], some (.inr (false, [(0, 0)])), [])])
theorem mgk964 : ai_chk [mgc39, mgc148] mgc964 (fun pc => sm_ch sm_t127 pc, sm_Kn 3 5 none, fun x => sm_lk sm_ca3 x, some .boolean) [] 5 0 [] [] 2000 [] = true := by decide +kernel
def mgx17276 : aw_A := ms_o [(0, 8)] [(0, 4)] ar_t32 ar_t32 [(0, 180)] [(45, 45)] [(45, 60)] [(0, 7)] [(0, 0)]
def mgh17277 : aw_H := [(81, mgx17276)]
/-- MiceRegistersModel.figure -/
def mgh17278 : aw_H := [(81, mgx17058), (90, .inr (.inl (0, 240, [], [])))]
def mgc965 : ak_C := (125, [.inl 81, .inr (false, [(0, 0)]), .inr (false, [(9, 9)])], mgh17278, [81], [([], some (.inr (false, [(-9, -9)])), mgh17059), ([], some (.inr (false, [(0, 9)])), mgh17277)])
/-- MiceRegistersModel.twoFigures -/
def mgc966 : ak_C := (126, [.inl 81, .inr (false, [(1, 1)]), .inr (false, [(40, 40)])], mgh17060, [81], [([], some (.inr (false, [(-9, -9)])), mgh16833), ([], some (.inr (false, [(0, 99)])), mgh17277), ([], some (.inr (false, [(-9, -9)])), mgh17059)])
theorem mgk966 : ai_chk [mgc940, mgc965, mgc144] mgc966 (fun pc => sm_ch sm_t126 pc, sm_Kn 3 6 none, fun x => sm_lk sm_ca3 x, some .int) [81] 6 0 [] [] 2000 [] = true := by decide +kernel
def mgh17279 : aw_H := [(81, mgx17058), (92, .inr (.inl (0, 8, [], []))), (93, .inr (.inl (0, 8, [], [])))]
def mgx17280 : aw_A := ms_o [(0, 8)] [(0, 4)] ar_t32 ar_t32 [(0, 180)] [(45, 45)] [(45, 60)] [(1, 8)] [(0, 0)]
def mgh17281 : aw_H := [(81, mgx17280), (92, .inr (.inl (0, 8, [], []))), (93, .inr (.inl (0, 8, [], [])))]
def mgx17282 : aw_A := ms_o [(0, 8)] [(0, 4)] ar_t32 ar_t32 [(0, 180)] [(41, 41)] [(42, 60)] [(8, 8)] [(0, 0)]
def mgh17283 : aw_H := [(81, mgx17282), (92, .inr (.inl (0, 8, [], []))), (93, .inr (.inl (0, 8, [], [])))]
/-- MiceRegistersModel.readsLine -/
def mgx17284 : aw_A := ms_o [(0, 8)] [(0, 4)] ar_t32 ar_t32 [(0, 180)] [(41, 41)] [(42, 60)] [(0, 8)] [(0, 0)]
def mgh17285 : aw_H := [(81, mgx17284), (90, .inr (.inl (0, 240, [], []))), (92, .inr (.inl (0, 8, [], []))), (93, .inr (.inl (0, 8, [], [])))]
def mgc967 : ak_C := (124, [.inl 81], mgh17285, [81, 92, 93], [([], some (.inr (false, [(0, 0)])), mgh17279), ([], some (.inr (false, [(1, 1)])), mgh17281), ([], some (.inr (false, [(0, 0)])), mgh17061), ([], some (.inr (false, [(0, 0)])), mgh16835), ([], some (.inr (false, [(0, 0)])), mgh17283)])
theorem mgk967 : ai_chk [mgc915, mgc966] mgc967 (fun pc => sm_ch sm_t124 pc, sm_Kn 3 3 none, fun x => sm_lk sm_ca3 x, some .boolean) [81, 92, 93] 3 0 [] [] 2000 [] = true := by decide +kernel
def mgh17286 : aw_H := [(81, mgx17280)]
def mgx17287 : aw_A := ms_o [(0, 8)] [(0, 4)] ar_t32 ar_t32 [(0, 180)] [(46, 46)] [(45, 60)] [(1, 8)] [(0, 0)]
def mgh17288 : aw_H := [(81, mgx17287)]
def mgx17289 : aw_A := ms_o [(0, 8)] [(0, 4)] ar_t32 ar_t32 [(0, 180)] [(47, 47)] [(45, 60)] [(1, 8)] [(0, 0)]
def mgh17290 : aw_H := [(81, mgx17289)]
def mgx17291 : aw_A := ms_o [(0, 8)] [(0, 4)] ar_t32 ar_t32 [(0, 180)] [(48, 48)] [(45, 60)] [(1, 8)] [(0, 0)]
def mgh17292 : aw_H := [(81, mgx17291)]
def mgx17293 : aw_A := ms_o [(0, 8)] [(0, 4)] ar_t32 ar_t32 [(0, 180)] [(49, 49)] [(45, 60)] [(1, 8)] [(0, 0)]
def mgh17294 : aw_H := [(81, mgx17293)]
def mgx17295 : aw_A := ms_o [(0, 8)] [(0, 4)] ar_t32 ar_t32 [(0, 180)] [(50, 50)] [(45, 60)] [(1, 8)] [(0, 0)]
def mgh17296 : aw_H := [(81, mgx17295)]
def mgx17297 : aw_A := ms_o [(0, 8)] [(0, 4)] ar_t32 ar_t32 [(0, 180)] [(51, 51)] [(45, 60)] [(1, 8)] [(0, 0)]
def mgh17298 : aw_H := [(81, mgx17297)]
def mgx17299 : aw_A := ms_o [(0, 8)] [(0, 4)] ar_t32 ar_t32 [(0, 180)] [(52, 52)] [(45, 60)] [(1, 8)] [(0, 0)]
def mgh17300 : aw_H := [(81, mgx17299)]
def mgx17301 : aw_A := ms_o [(0, 8)] [(0, 4)] ar_t32 ar_t32 [(0, 180)] [(53, 53)] [(45, 60)] [(1, 8)] [(0, 0)]
def mgh17302 : aw_H := [(81, mgx17301)]
def mgx17303 : aw_A := ms_o [(0, 8)] [(0, 4)] ar_t32 ar_t32 [(0, 180)] [(54, 54)] [(45, 60)] [(1, 8)] [(0, 0)]
def mgh17304 : aw_H := [(81, mgx17303)]
def mgx17305 : aw_A := ms_o [(0, 8)] [(0, 4)] ar_t32 ar_t32 [(0, 180)] [(55, 55)] [(45, 60)] [(1, 8)] [(0, 0)]
def mgh17306 : aw_H := [(81, mgx17305)]
def mgx17307 : aw_A := ms_o [(0, 8)] [(0, 4)] ar_t32 ar_t32 [(0, 180)] [(56, 56)] [(45, 60)] [(1, 8)] [(0, 0)]
def mgh17308 : aw_H := [(81, mgx17307)]
def mgx17309 : aw_A := ms_o [(0, 8)] [(0, 4)] ar_t32 ar_t32 [(0, 180)] [(57, 57)] [(45, 60)] [(1, 8)] [(0, 0)]
def mgh17310 : aw_H := [(81, mgx17309)]
def mgx17311 : aw_A := ms_o [(0, 8)] [(0, 4)] ar_t32 ar_t32 [(0, 180)] [(58, 58)] [(45, 60)] [(1, 8)] [(0, 0)]
def mgh17312 : aw_H := [(81, mgx17311)]
def mgx17313 : aw_A := ms_o [(0, 8)] [(0, 4)] ar_t32 ar_t32 [(0, 180)] [(59, 59)] [(45, 60)] [(1, 8)] [(0, 0)]
def mgh17314 : aw_H := [(81, mgx17313)]
def mgx17315 : aw_A := ms_o [(0, 8)] [(0, 4)] ar_t32 ar_t32 [(0, 180)] [(60, 60)] [(45, 60)] [(1, 8)] [(0, 0)]
def mgh17316 : aw_H := [(81, mgx17315)]
/-- MiceRegistersModel.skip -/
def mgh17317 : aw_H := [(81, mgx17280), (90, .inr (.inl (0, 240, [], [])))]
def mgc968 : ak_C := (122, [.inl 81], mgh17317, [81], [([], none, mgh17286), ([], none, mgh17288), ([], none, mgh17290), ([], none, mgh17292), ([], none, mgh17294), ([], none, mgh17296), ([], none, mgh17298), ([], none, mgh17300), ([], none, mgh17302), ([], none, mgh17304), ([], none, mgh17306), ([], none, mgh17308), ([], none, mgh17310), ([], none, mgh17312), ([], none, mgh17314), ([], none, mgh17316)])
/-- MiceRegistersModel.figure -/
def mgc969 : ak_C := (125, [.inl 81, .inr (false, [(0, 0)]), .inr (false, [(0, 7)])], mgh16641, [81], [([], some (.inr (false, [(-9, -9)])), mgh16604), ([], some (.inr (false, [(0, 7)])), mgh16842)])
/-- MiceRegistersModel.figure -/
def mgc970 : ak_C := (125, [.inl 81, .inr (false, [(1, 1)]), .inr (false, [(9, 9)])], mgh16877, [81], [([], some (.inr (false, [(-9, -9)])), mgh16842), ([], some (.inr (false, [(1, 9)])), mgh17068)])
def mgh17318 : aw_H := [(81, mgx17284), (94, mgx5049)]
def mgx17319 : aw_A := ms_o [(0, 8)] [(0, 4)] ar_t32 ar_t32 [(0, 180)] [(44, 44)] [(44, 60)] [(1, 8)] [(1, 1)]
def mgh17320 : aw_H := [(81, mgx17319), (94, mgx5052)]
def mgh17321 : aw_H := [(81, mgx16836), (94, mgx5049)]
/-- MiceRegistersModel.readsMouse -/
def mgh17322 : aw_H := [(81, mgx17284), (90, .inr (.inl (0, 240, [], []))), (94, mgx5049)]
def mgc971 : ak_C := (127, [.inl 81], mgh17322, [81, 94], [([], some (.inr (false, [(0, 0)])), mgh17318), ([], some (.inr (false, [(1, 1)])), mgh17320), ([], some (.inr (false, [(0, 0)])), mgh17321), ([], some (.inr (false, [(0, 0)])), mgh17105)])
theorem mgk971 : ai_chk [mgc38, mgc148, mgc969, mgc970] mgc971 (fun pc => sm_ch sm_t127 pc, sm_Kn 3 5 none, fun x => sm_lk sm_ca3 x, some .boolean) [81, 94] 5 0 [] [] 2000 [] = true := by decide +kernel
def mgh17323 : aw_H := [(81, mgx17319)]
def mgx17324 : aw_A := ms_o [(0, 8)] [(0, 4)] ar_t32 ar_t32 [(0, 180)] [(45, 45)] [(44, 60)] [(1, 8)] [(1, 1)]
def mgh17325 : aw_H := [(81, mgx17324)]
def mgx17326 : aw_A := ms_o [(0, 8)] [(0, 4)] ar_t32 ar_t32 [(0, 180)] [(46, 46)] [(44, 60)] [(1, 8)] [(1, 1)]
def mgh17327 : aw_H := [(81, mgx17326)]
def mgx17328 : aw_A := ms_o [(0, 8)] [(0, 4)] ar_t32 ar_t32 [(0, 180)] [(47, 47)] [(44, 60)] [(1, 8)] [(1, 1)]
def mgh17329 : aw_H := [(81, mgx17328)]
def mgx17330 : aw_A := ms_o [(0, 8)] [(0, 4)] ar_t32 ar_t32 [(0, 180)] [(48, 48)] [(44, 60)] [(1, 8)] [(1, 1)]
def mgh17331 : aw_H := [(81, mgx17330)]
def mgx17332 : aw_A := ms_o [(0, 8)] [(0, 4)] ar_t32 ar_t32 [(0, 180)] [(49, 49)] [(44, 60)] [(1, 8)] [(1, 1)]
def mgh17333 : aw_H := [(81, mgx17332)]
def mgx17334 : aw_A := ms_o [(0, 8)] [(0, 4)] ar_t32 ar_t32 [(0, 180)] [(50, 50)] [(44, 60)] [(1, 8)] [(1, 1)]
def mgh17335 : aw_H := [(81, mgx17334)]
def mgx17336 : aw_A := ms_o [(0, 8)] [(0, 4)] ar_t32 ar_t32 [(0, 180)] [(51, 51)] [(44, 60)] [(1, 8)] [(1, 1)]
def mgh17337 : aw_H := [(81, mgx17336)]
def mgx17338 : aw_A := ms_o [(0, 8)] [(0, 4)] ar_t32 ar_t32 [(0, 180)] [(52, 52)] [(44, 60)] [(1, 8)] [(1, 1)]
def mgh17339 : aw_H := [(81, mgx17338)]
def mgx17340 : aw_A := ms_o [(0, 8)] [(0, 4)] ar_t32 ar_t32 [(0, 180)] [(53, 53)] [(44, 60)] [(1, 8)] [(1, 1)]
def mgh17341 : aw_H := [(81, mgx17340)]
def mgx17342 : aw_A := ms_o [(0, 8)] [(0, 4)] ar_t32 ar_t32 [(0, 180)] [(54, 54)] [(44, 60)] [(1, 8)] [(1, 1)]
def mgh17343 : aw_H := [(81, mgx17342)]
def mgx17344 : aw_A := ms_o [(0, 8)] [(0, 4)] ar_t32 ar_t32 [(0, 180)] [(55, 55)] [(44, 60)] [(1, 8)] [(1, 1)]
def mgh17345 : aw_H := [(81, mgx17344)]
def mgx17346 : aw_A := ms_o [(0, 8)] [(0, 4)] ar_t32 ar_t32 [(0, 180)] [(56, 56)] [(44, 60)] [(1, 8)] [(1, 1)]
def mgh17347 : aw_H := [(81, mgx17346)]
def mgx17348 : aw_A := ms_o [(0, 8)] [(0, 4)] ar_t32 ar_t32 [(0, 180)] [(57, 57)] [(44, 60)] [(1, 8)] [(1, 1)]
def mgh17349 : aw_H := [(81, mgx17348)]
def mgx17350 : aw_A := ms_o [(0, 8)] [(0, 4)] ar_t32 ar_t32 [(0, 180)] [(58, 58)] [(44, 60)] [(1, 8)] [(1, 1)]
def mgh17351 : aw_H := [(81, mgx17350)]
def mgx17352 : aw_A := ms_o [(0, 8)] [(0, 4)] ar_t32 ar_t32 [(0, 180)] [(59, 59)] [(44, 60)] [(1, 8)] [(1, 1)]
def mgh17353 : aw_H := [(81, mgx17352)]
def mgx17354 : aw_A := ms_o [(0, 8)] [(0, 4)] ar_t32 ar_t32 [(0, 180)] [(60, 60)] [(44, 60)] [(1, 8)] [(1, 1)]
def mgh17355 : aw_H := [(81, mgx17354)]
/-- MiceRegistersModel.skip -/
def mgh17356 : aw_H := [(81, mgx17319), (90, .inr (.inl (0, 240, [], [])))]
def mgc972 : ak_C := (122, [.inl 81], mgh17356, [81], [([], none, mgh17323), ([], none, mgh17325), ([], none, mgh17327), ([], none, mgh17329), ([], none, mgh17331), ([], none, mgh17333), ([], none, mgh17335), ([], none, mgh17337), ([], none, mgh17339), ([], none, mgh17341), ([], none, mgh17343), ([], none, mgh17345), ([], none, mgh17347), ([], none, mgh17349), ([], none, mgh17351), ([], none, mgh17353), ([], none, mgh17355)])
/-- MiceRegistersModel.readsLine -/
def mgx17357 : aw_A := ms_o [(0, 8)] [(0, 4)] ar_t32 ar_t32 [(0, 180)] [(41, 41)] [(42, 60)] [(1, 8)] [(1, 1)]
def mgh17358 : aw_H := [(81, mgx17357)]
def mgc973 : ak_C := (124, [.inl 81], mgh17358, [], [([], some (.inr (false, [(0, 0)])), [])])
theorem mgk973 : ai_chk [] mgc973 (fun pc => sm_ch sm_t124 pc, sm_Kn 3 3 none, fun x => sm_lk sm_ca3 x, some .boolean) [] 3 0 [] [] 2000 [] = true := by decide +kernel
/-- MiceRegistersModel.figure -/
def mgc974 : ak_C := (125, [.inl 81, .inr (false, [(0, 0)]), .inr (false, [(0, 7)])], mgh16920, [81], [([], some (.inr (false, [(-9, -9)])), mgh16883), ([], some (.inr (false, [(0, 7)])), mgh17107)])
/-- MiceRegistersModel.figure -/
def mgc975 : ak_C := (125, [.inl 81, .inr (false, [(1, 1)]), .inr (false, [(9, 9)])], mgh17142, [81], [([], some (.inr (false, [(-9, -9)])), mgh17107), ([], some (.inr (false, [(1, 9)])), mgh17323)])
def mgh17359 : aw_H := [(81, mgx17357), (94, mgx5052)]
def mgx17360 : aw_A := ms_o [(0, 8)] [(0, 4)] ar_t32 ar_t32 [(0, 180)] [(44, 44)] [(44, 60)] [(1, 8)] [(2, 2)]
def mgh17361 : aw_H := [(81, mgx17360), (94, mgx5820)]
/-- MiceRegistersModel.readsMouse -/
def mgh17362 : aw_H := [(81, mgx17357), (90, .inr (.inl (0, 240, [], []))), (94, mgx5052)]
def mgc976 : ak_C := (127, [.inl 81], mgh17362, [81, 94], [([], some (.inr (false, [(0, 0)])), mgh17359), ([], some (.inr (false, [(1, 1)])), mgh17361), ([], some (.inr (false, [(0, 0)])), mgh17104), ([], some (.inr (false, [(0, 0)])), mgh16880)])
theorem mgk976 : ai_chk [mgc38, mgc148, mgc974, mgc975] mgc976 (fun pc => sm_ch sm_t127 pc, sm_Kn 3 5 none, fun x => sm_lk sm_ca3 x, some .boolean) [81, 94] 5 0 [] [] 2000 [] = true := by decide +kernel
def mgh17363 : aw_H := [(81, mgx17360)]
def mgx17364 : aw_A := ms_o [(0, 8)] [(0, 4)] ar_t32 ar_t32 [(0, 180)] [(45, 45)] [(44, 60)] [(1, 8)] [(2, 2)]
def mgh17365 : aw_H := [(81, mgx17364)]
def mgx17366 : aw_A := ms_o [(0, 8)] [(0, 4)] ar_t32 ar_t32 [(0, 180)] [(46, 46)] [(44, 60)] [(1, 8)] [(2, 2)]
def mgh17367 : aw_H := [(81, mgx17366)]
def mgx17368 : aw_A := ms_o [(0, 8)] [(0, 4)] ar_t32 ar_t32 [(0, 180)] [(47, 47)] [(44, 60)] [(1, 8)] [(2, 2)]
def mgh17369 : aw_H := [(81, mgx17368)]
def mgx17370 : aw_A := ms_o [(0, 8)] [(0, 4)] ar_t32 ar_t32 [(0, 180)] [(48, 48)] [(44, 60)] [(1, 8)] [(2, 2)]
def mgh17371 : aw_H := [(81, mgx17370)]
def mgx17372 : aw_A := ms_o [(0, 8)] [(0, 4)] ar_t32 ar_t32 [(0, 180)] [(49, 49)] [(44, 60)] [(1, 8)] [(2, 2)]
def mgh17373 : aw_H := [(81, mgx17372)]
def mgx17374 : aw_A := ms_o [(0, 8)] [(0, 4)] ar_t32 ar_t32 [(0, 180)] [(50, 50)] [(44, 60)] [(1, 8)] [(2, 2)]
def mgh17375 : aw_H := [(81, mgx17374)]
def mgx17376 : aw_A := ms_o [(0, 8)] [(0, 4)] ar_t32 ar_t32 [(0, 180)] [(51, 51)] [(44, 60)] [(1, 8)] [(2, 2)]
def mgh17377 : aw_H := [(81, mgx17376)]
def mgx17378 : aw_A := ms_o [(0, 8)] [(0, 4)] ar_t32 ar_t32 [(0, 180)] [(52, 52)] [(44, 60)] [(1, 8)] [(2, 2)]
def mgh17379 : aw_H := [(81, mgx17378)]
def mgx17380 : aw_A := ms_o [(0, 8)] [(0, 4)] ar_t32 ar_t32 [(0, 180)] [(53, 53)] [(44, 60)] [(1, 8)] [(2, 2)]
def mgh17381 : aw_H := [(81, mgx17380)]
def mgx17382 : aw_A := ms_o [(0, 8)] [(0, 4)] ar_t32 ar_t32 [(0, 180)] [(54, 54)] [(44, 60)] [(1, 8)] [(2, 2)]
def mgh17383 : aw_H := [(81, mgx17382)]
def mgx17384 : aw_A := ms_o [(0, 8)] [(0, 4)] ar_t32 ar_t32 [(0, 180)] [(55, 55)] [(44, 60)] [(1, 8)] [(2, 2)]
def mgh17385 : aw_H := [(81, mgx17384)]
def mgx17386 : aw_A := ms_o [(0, 8)] [(0, 4)] ar_t32 ar_t32 [(0, 180)] [(56, 56)] [(44, 60)] [(1, 8)] [(2, 2)]
def mgh17387 : aw_H := [(81, mgx17386)]
def mgx17388 : aw_A := ms_o [(0, 8)] [(0, 4)] ar_t32 ar_t32 [(0, 180)] [(57, 57)] [(44, 60)] [(1, 8)] [(2, 2)]
def mgh17389 : aw_H := [(81, mgx17388)]
def mgx17390 : aw_A := ms_o [(0, 8)] [(0, 4)] ar_t32 ar_t32 [(0, 180)] [(58, 58)] [(44, 60)] [(1, 8)] [(2, 2)]
def mgh17391 : aw_H := [(81, mgx17390)]
def mgx17392 : aw_A := ms_o [(0, 8)] [(0, 4)] ar_t32 ar_t32 [(0, 180)] [(59, 59)] [(44, 60)] [(1, 8)] [(2, 2)]
def mgh17393 : aw_H := [(81, mgx17392)]
def mgx17394 : aw_A := ms_o [(0, 8)] [(0, 4)] ar_t32 ar_t32 [(0, 180)] [(60, 60)] [(44, 60)] [(1, 8)] [(2, 2)]
def mgh17395 : aw_H := [(81, mgx17394)]
/-- MiceRegistersModel.skip -/
def mgh17396 : aw_H := [(81, mgx17360), (90, .inr (.inl (0, 240, [], [])))]
def mgc977 : ak_C := (122, [.inl 81], mgh17396, [81], [([], none, mgh17363), ([], none, mgh17365), ([], none, mgh17367), ([], none, mgh17369), ([], none, mgh17371), ([], none, mgh17373), ([], none, mgh17375), ([], none, mgh17377), ([], none, mgh17379), ([], none, mgh17381), ([], none, mgh17383), ([], none, mgh17385), ([], none, mgh17387), ([], none, mgh17389), ([], none, mgh17391), ([], none, mgh17393), ([], none, mgh17395)])
/-- MiceRegistersModel.readsLine -/
def mgx17397 : aw_A := ms_o [(0, 8)] [(0, 4)] ar_t32 ar_t32 [(0, 180)] [(41, 41)] [(42, 60)] [(1, 8)] [(2, 2)]
def mgh17398 : aw_H := [(81, mgx17397)]
def mgc978 : ak_C := (124, [.inl 81], mgh17398, [], [([], some (.inr (false, [(0, 0)])), [])])
theorem mgk978 : ai_chk [] mgc978 (fun pc => sm_ch sm_t124 pc, sm_Kn 3 3 none, fun x => sm_lk sm_ca3 x, some .boolean) [] 3 0 [] [] 2000 [] = true := by decide +kernel
/-- MiceRegistersModel.figure -/
def mgc979 : ak_C := (125, [.inl 81, .inr (false, [(0, 0)]), .inr (false, [(0, 7)])], mgh16964, [81], [([], some (.inr (false, [(-9, -9)])), mgh16927), ([], some (.inr (false, [(0, 7)])), mgh17149)])
/-- MiceRegistersModel.figure -/
def mgc980 : ak_C := (125, [.inl 81, .inr (false, [(1, 1)]), .inr (false, [(9, 9)])], mgh17184, [81], [([], some (.inr (false, [(-9, -9)])), mgh17149), ([], some (.inr (false, [(1, 9)])), mgh17363)])
def mgh17399 : aw_H := [(81, mgx17397), (94, mgx5820)]
def mgx17400 : aw_A := ms_o [(0, 8)] [(0, 4)] ar_t32 ar_t32 [(0, 180)] [(44, 44)] [(44, 60)] [(1, 8)] [(3, 3)]
def mgh17401 : aw_H := [(81, mgx17400), (94, mgx6868)]
/-- MiceRegistersModel.readsMouse -/
def mgh17402 : aw_H := [(81, mgx17397), (90, .inr (.inl (0, 240, [], []))), (94, mgx5820)]
def mgc981 : ak_C := (127, [.inl 81], mgh17402, [81, 94], [([], some (.inr (false, [(0, 0)])), mgh17399), ([], some (.inr (false, [(1, 1)])), mgh17401), ([], some (.inr (false, [(0, 0)])), mgh17147), ([], some (.inr (false, [(0, 0)])), mgh16925)])
theorem mgk981 : ai_chk [mgc38, mgc148, mgc979, mgc980] mgc981 (fun pc => sm_ch sm_t127 pc, sm_Kn 3 5 none, fun x => sm_lk sm_ca3 x, some .boolean) [81, 94] 5 0 [] [] 2000 [] = true := by decide +kernel
def mgh17403 : aw_H := [(81, mgx17400)]
def mgx17404 : aw_A := ms_o [(0, 8)] [(0, 4)] ar_t32 ar_t32 [(0, 180)] [(45, 45)] [(44, 60)] [(1, 8)] [(3, 3)]
def mgh17405 : aw_H := [(81, mgx17404)]
def mgx17406 : aw_A := ms_o [(0, 8)] [(0, 4)] ar_t32 ar_t32 [(0, 180)] [(46, 46)] [(44, 60)] [(1, 8)] [(3, 3)]
def mgh17407 : aw_H := [(81, mgx17406)]
def mgx17408 : aw_A := ms_o [(0, 8)] [(0, 4)] ar_t32 ar_t32 [(0, 180)] [(47, 47)] [(44, 60)] [(1, 8)] [(3, 3)]
def mgh17409 : aw_H := [(81, mgx17408)]
def mgx17410 : aw_A := ms_o [(0, 8)] [(0, 4)] ar_t32 ar_t32 [(0, 180)] [(48, 48)] [(44, 60)] [(1, 8)] [(3, 3)]
def mgh17411 : aw_H := [(81, mgx17410)]
def mgx17412 : aw_A := ms_o [(0, 8)] [(0, 4)] ar_t32 ar_t32 [(0, 180)] [(49, 49)] [(44, 60)] [(1, 8)] [(3, 3)]
def mgh17413 : aw_H := [(81, mgx17412)]
def mgx17414 : aw_A := ms_o [(0, 8)] [(0, 4)] ar_t32 ar_t32 [(0, 180)] [(50, 50)] [(44, 60)] [(1, 8)] [(3, 3)]
def mgh17415 : aw_H := [(81, mgx17414)]
def mgx17416 : aw_A := ms_o [(0, 8)] [(0, 4)] ar_t32 ar_t32 [(0, 180)] [(51, 51)] [(44, 60)] [(1, 8)] [(3, 3)]
def mgh17417 : aw_H := [(81, mgx17416)]
def mgx17418 : aw_A := ms_o [(0, 8)] [(0, 4)] ar_t32 ar_t32 [(0, 180)] [(52, 52)] [(44, 60)] [(1, 8)] [(3, 3)]
def mgh17419 : aw_H := [(81, mgx17418)]
def mgx17420 : aw_A := ms_o [(0, 8)] [(0, 4)] ar_t32 ar_t32 [(0, 180)] [(53, 53)] [(44, 60)] [(1, 8)] [(3, 3)]
def mgh17421 : aw_H := [(81, mgx17420)]
def mgx17422 : aw_A := ms_o [(0, 8)] [(0, 4)] ar_t32 ar_t32 [(0, 180)] [(54, 54)] [(44, 60)] [(1, 8)] [(3, 3)]
def mgh17423 : aw_H := [(81, mgx17422)]
def mgx17424 : aw_A := ms_o [(0, 8)] [(0, 4)] ar_t32 ar_t32 [(0, 180)] [(55, 55)] [(44, 60)] [(1, 8)] [(3, 3)]
def mgh17425 : aw_H := [(81, mgx17424)]
def mgx17426 : aw_A := ms_o [(0, 8)] [(0, 4)] ar_t32 ar_t32 [(0, 180)] [(56, 56)] [(44, 60)] [(1, 8)] [(3, 3)]
def mgh17427 : aw_H := [(81, mgx17426)]
def mgx17428 : aw_A := ms_o [(0, 8)] [(0, 4)] ar_t32 ar_t32 [(0, 180)] [(57, 57)] [(44, 60)] [(1, 8)] [(3, 3)]
def mgh17429 : aw_H := [(81, mgx17428)]
def mgx17430 : aw_A := ms_o [(0, 8)] [(0, 4)] ar_t32 ar_t32 [(0, 180)] [(58, 58)] [(44, 60)] [(1, 8)] [(3, 3)]
def mgh17431 : aw_H := [(81, mgx17430)]
def mgx17432 : aw_A := ms_o [(0, 8)] [(0, 4)] ar_t32 ar_t32 [(0, 180)] [(59, 59)] [(44, 60)] [(1, 8)] [(3, 3)]
def mgh17433 : aw_H := [(81, mgx17432)]
def mgx17434 : aw_A := ms_o [(0, 8)] [(0, 4)] ar_t32 ar_t32 [(0, 180)] [(60, 60)] [(44, 60)] [(1, 8)] [(3, 3)]
def mgh17435 : aw_H := [(81, mgx17434)]
/-- MiceRegistersModel.skip -/
def mgh17436 : aw_H := [(81, mgx17400), (90, .inr (.inl (0, 240, [], [])))]
def mgc982 : ak_C := (122, [.inl 81], mgh17436, [81], [([], none, mgh17403), ([], none, mgh17405), ([], none, mgh17407), ([], none, mgh17409), ([], none, mgh17411), ([], none, mgh17413), ([], none, mgh17415), ([], none, mgh17417), ([], none, mgh17419), ([], none, mgh17421), ([], none, mgh17423), ([], none, mgh17425), ([], none, mgh17427), ([], none, mgh17429), ([], none, mgh17431), ([], none, mgh17433), ([], none, mgh17435)])
/-- MiceRegistersModel.readsLine -/
def mgx17437 : aw_A := ms_o [(0, 8)] [(0, 4)] ar_t32 ar_t32 [(0, 180)] [(41, 41)] [(42, 60)] [(1, 7)] [(3, 3)]
def mgh17438 : aw_H := [(81, mgx17437)]
def mgc983 : ak_C := (124, [.inl 81], mgh17438, [], [([], some (.inr (false, [(0, 0)])), [])])
theorem mgk983 : ai_chk [] mgc983 (fun pc => sm_ch sm_t124 pc, sm_Kn 3 3 none, fun x => sm_lk sm_ca3 x, some .boolean) [] 3 0 [] [] 2000 [] = true := by decide +kernel
/-- MiceRegistersModel.figure -/
def mgc984 : ak_C := (125, [.inl 81, .inr (false, [(0, 0)]), .inr (false, [(0, 6)])], mgh17231, [81], [([], some (.inr (false, [(-9, -9)])), mgh17012), ([], some (.inr (false, [(0, 6)])), mgh17230)])
def mgx17439 : aw_A := ms_o [(0, 8)] [(0, 4)] ar_t32 ar_t32 [(0, 180)] [(44, 44)] [(44, 60)] [(1, 7)] [(3, 3)]
def mgh17440 : aw_H := [(81, mgx17439)]
/-- MiceRegistersModel.figure -/
def mgh17441 : aw_H := [(81, mgx17229), (90, .inr (.inl (0, 240, [], [])))]
def mgc985 : ak_C := (125, [.inl 81, .inr (false, [(1, 1)]), .inr (false, [(9, 9)])], mgh17441, [81], [([], some (.inr (false, [(-9, -9)])), mgh17230), ([], some (.inr (false, [(1, 9)])), mgh17440)])
def mgh17442 : aw_H := [(81, mgx17437), (94, mgx6868)]
def mgx17443 : aw_A := ms_o [(0, 8)] [(0, 4)] ar_t32 ar_t32 [(0, 180)] [(44, 44)] [(44, 60)] [(1, 7)] [(4, 4)]
def mgh17444 : aw_H := [(81, mgx17443), (94, mgx8150)]
def mgh17445 : aw_H := [(81, mgx17229), (94, mgx6868)]
/-- MiceRegistersModel.readsMouse -/
def mgh17446 : aw_H := [(81, mgx17437), (90, .inr (.inl (0, 240, [], []))), (94, mgx6868)]
def mgc986 : ak_C := (127, [.inl 81], mgh17446, [81, 94], [([], some (.inr (false, [(0, 0)])), mgh17442), ([], some (.inr (false, [(1, 1)])), mgh17444), ([], some (.inr (false, [(0, 0)])), mgh17445), ([], some (.inr (false, [(0, 0)])), mgh17235)])
theorem mgk986 : ai_chk [mgc38, mgc148, mgc984, mgc985] mgc986 (fun pc => sm_ch sm_t127 pc, sm_Kn 3 5 none, fun x => sm_lk sm_ca3 x, some .boolean) [81, 94] 5 0 [] [] 2000 [] = true := by decide +kernel
def mgh17447 : aw_H := [(81, mgx17443)]
def mgx17448 : aw_A := ms_o [(0, 8)] [(0, 4)] ar_t32 ar_t32 [(0, 180)] [(45, 45)] [(44, 60)] [(1, 7)] [(4, 4)]
def mgh17449 : aw_H := [(81, mgx17448)]
def mgx17450 : aw_A := ms_o [(0, 8)] [(0, 4)] ar_t32 ar_t32 [(0, 180)] [(46, 46)] [(44, 60)] [(1, 7)] [(4, 4)]
def mgh17451 : aw_H := [(81, mgx17450)]
def mgx17452 : aw_A := ms_o [(0, 8)] [(0, 4)] ar_t32 ar_t32 [(0, 180)] [(47, 47)] [(44, 60)] [(1, 7)] [(4, 4)]
def mgh17453 : aw_H := [(81, mgx17452)]
def mgx17454 : aw_A := ms_o [(0, 8)] [(0, 4)] ar_t32 ar_t32 [(0, 180)] [(48, 48)] [(44, 60)] [(1, 7)] [(4, 4)]
def mgh17455 : aw_H := [(81, mgx17454)]
def mgx17456 : aw_A := ms_o [(0, 8)] [(0, 4)] ar_t32 ar_t32 [(0, 180)] [(49, 49)] [(44, 60)] [(1, 7)] [(4, 4)]
def mgh17457 : aw_H := [(81, mgx17456)]
def mgx17458 : aw_A := ms_o [(0, 8)] [(0, 4)] ar_t32 ar_t32 [(0, 180)] [(50, 50)] [(44, 60)] [(1, 7)] [(4, 4)]
def mgh17459 : aw_H := [(81, mgx17458)]
def mgx17460 : aw_A := ms_o [(0, 8)] [(0, 4)] ar_t32 ar_t32 [(0, 180)] [(51, 51)] [(44, 60)] [(1, 7)] [(4, 4)]
def mgh17461 : aw_H := [(81, mgx17460)]
def mgx17462 : aw_A := ms_o [(0, 8)] [(0, 4)] ar_t32 ar_t32 [(0, 180)] [(52, 52)] [(44, 60)] [(1, 7)] [(4, 4)]
def mgh17463 : aw_H := [(81, mgx17462)]
def mgx17464 : aw_A := ms_o [(0, 8)] [(0, 4)] ar_t32 ar_t32 [(0, 180)] [(53, 53)] [(44, 60)] [(1, 7)] [(4, 4)]
def mgh17465 : aw_H := [(81, mgx17464)]
def mgx17466 : aw_A := ms_o [(0, 8)] [(0, 4)] ar_t32 ar_t32 [(0, 180)] [(54, 54)] [(44, 60)] [(1, 7)] [(4, 4)]
def mgh17467 : aw_H := [(81, mgx17466)]
def mgx17468 : aw_A := ms_o [(0, 8)] [(0, 4)] ar_t32 ar_t32 [(0, 180)] [(55, 55)] [(44, 60)] [(1, 7)] [(4, 4)]
def mgh17469 : aw_H := [(81, mgx17468)]
def mgx17470 : aw_A := ms_o [(0, 8)] [(0, 4)] ar_t32 ar_t32 [(0, 180)] [(56, 56)] [(44, 60)] [(1, 7)] [(4, 4)]
def mgh17471 : aw_H := [(81, mgx17470)]
def mgx17472 : aw_A := ms_o [(0, 8)] [(0, 4)] ar_t32 ar_t32 [(0, 180)] [(57, 57)] [(44, 60)] [(1, 7)] [(4, 4)]
def mgh17473 : aw_H := [(81, mgx17472)]
def mgx17474 : aw_A := ms_o [(0, 8)] [(0, 4)] ar_t32 ar_t32 [(0, 180)] [(58, 58)] [(44, 60)] [(1, 7)] [(4, 4)]
def mgh17475 : aw_H := [(81, mgx17474)]
def mgx17476 : aw_A := ms_o [(0, 8)] [(0, 4)] ar_t32 ar_t32 [(0, 180)] [(59, 59)] [(44, 60)] [(1, 7)] [(4, 4)]
def mgh17477 : aw_H := [(81, mgx17476)]
def mgx17478 : aw_A := ms_o [(0, 8)] [(0, 4)] ar_t32 ar_t32 [(0, 180)] [(60, 60)] [(44, 60)] [(1, 7)] [(4, 4)]
def mgh17479 : aw_H := [(81, mgx17478)]
/-- MiceRegistersModel.skip -/
def mgh17480 : aw_H := [(81, mgx17443), (90, .inr (.inl (0, 240, [], [])))]
def mgc987 : ak_C := (122, [.inl 81], mgh17480, [81], [([], none, mgh17447), ([], none, mgh17449), ([], none, mgh17451), ([], none, mgh17453), ([], none, mgh17455), ([], none, mgh17457), ([], none, mgh17459), ([], none, mgh17461), ([], none, mgh17463), ([], none, mgh17465), ([], none, mgh17467), ([], none, mgh17469), ([], none, mgh17471), ([], none, mgh17473), ([], none, mgh17475), ([], none, mgh17477), ([], none, mgh17479)])
/-- MiceRegistersModel.readsLine -/
def mgx17481 : aw_A := ms_o [(0, 8)] [(0, 4)] ar_t32 ar_t32 [(0, 180)] [(41, 41)] [(42, 60)] [(1, 7)] [(4, 4)]
def mgh17482 : aw_H := [(81, mgx17481)]
def mgc988 : ak_C := (124, [.inl 81], mgh17482, [], [([], some (.inr (false, [(0, 0)])), [])])
theorem mgk988 : ai_chk [] mgc988 (fun pc => sm_ch sm_t124 pc, sm_Kn 3 3 none, fun x => sm_lk sm_ca3 x, some .boolean) [] 3 0 [] [] 2000 [] = true := by decide +kernel
/-- MiceRegistersModel.readsMouse -/
def mgh17483 : aw_H := [(81, mgx17481), (90, .inr (.inl (0, 240, [], [])))]
def mgc989 : ak_C := (127, [.inl 81], mgh17483, [], [([], some (.inr (false, [(0, 0)])), [])])
theorem mgk989 : ai_chk [mgc38, mgc148] mgc989 (fun pc => sm_ch sm_t127 pc, sm_Kn 3 5 none, fun x => sm_lk sm_ca3 x, some .boolean) [] 5 0 [] [] 2000 [] = true := by decide +kernel
def mgx17484 : aw_A := ms_o [(0, 8)] [(0, 4)] ar_t32 ar_t32 [(0, 180)] [(46, 46)] [(46, 60)] [(0, 7)] [(0, 0)]
def mgh17485 : aw_H := [(81, mgx17484)]
/-- MiceRegistersModel.figure -/
def mgh17486 : aw_H := [(81, mgx17276), (90, .inr (.inl (0, 240, [], [])))]
def mgc990 : ak_C := (125, [.inl 81, .inr (false, [(0, 0)]), .inr (false, [(9, 9)])], mgh17486, [81], [([], some (.inr (false, [(-9, -9)])), mgh17277), ([], some (.inr (false, [(0, 9)])), mgh17485)])
/-- MiceRegistersModel.twoFigures -/
def mgc991 : ak_C := (126, [.inl 81, .inr (false, [(1, 1)]), .inr (false, [(40, 40)])], mgh17278, [81], [([], some (.inr (false, [(-9, -9)])), mgh17059), ([], some (.inr (false, [(0, 99)])), mgh17485), ([], some (.inr (false, [(-9, -9)])), mgh17277)])
theorem mgk991 : ai_chk [mgc965, mgc990, mgc144] mgc991 (fun pc => sm_ch sm_t126 pc, sm_Kn 3 6 none, fun x => sm_lk sm_ca3 x, some .int) [81] 6 0 [] [] 2000 [] = true := by decide +kernel
def mgh17487 : aw_H := [(81, mgx17276), (92, .inr (.inl (0, 8, [], []))), (93, .inr (.inl (0, 8, [], [])))]
def mgx17488 : aw_A := ms_o [(0, 8)] [(0, 4)] ar_t32 ar_t32 [(0, 180)] [(46, 46)] [(46, 60)] [(1, 8)] [(0, 0)]
def mgh17489 : aw_H := [(81, mgx17488), (92, .inr (.inl (0, 8, [], []))), (93, .inr (.inl (0, 8, [], [])))]
def mgx17490 : aw_A := ms_o [(0, 8)] [(0, 4)] ar_t32 ar_t32 [(0, 180)] [(42, 42)] [(43, 60)] [(8, 8)] [(0, 0)]
def mgh17491 : aw_H := [(81, mgx17490), (92, .inr (.inl (0, 8, [], []))), (93, .inr (.inl (0, 8, [], [])))]
/-- MiceRegistersModel.readsLine -/
def mgx17492 : aw_A := ms_o [(0, 8)] [(0, 4)] ar_t32 ar_t32 [(0, 180)] [(42, 42)] [(43, 60)] [(0, 8)] [(0, 0)]
def mgh17493 : aw_H := [(81, mgx17492), (90, .inr (.inl (0, 240, [], []))), (92, .inr (.inl (0, 8, [], []))), (93, .inr (.inl (0, 8, [], [])))]
def mgc992 : ak_C := (124, [.inl 81], mgh17493, [81, 92, 93], [([], some (.inr (false, [(0, 0)])), mgh17487), ([], some (.inr (false, [(1, 1)])), mgh17489), ([], some (.inr (false, [(0, 0)])), mgh17279), ([], some (.inr (false, [(0, 0)])), mgh17061), ([], some (.inr (false, [(0, 0)])), mgh17491)])
theorem mgk992 : ai_chk [mgc940, mgc991] mgc992 (fun pc => sm_ch sm_t124 pc, sm_Kn 3 3 none, fun x => sm_lk sm_ca3 x, some .boolean) [81, 92, 93] 3 0 [] [] 2000 [] = true := by decide +kernel
def mgh17494 : aw_H := [(81, mgx17488)]
def mgx17495 : aw_A := ms_o [(0, 8)] [(0, 4)] ar_t32 ar_t32 [(0, 180)] [(47, 47)] [(46, 60)] [(1, 8)] [(0, 0)]
def mgh17496 : aw_H := [(81, mgx17495)]
def mgx17497 : aw_A := ms_o [(0, 8)] [(0, 4)] ar_t32 ar_t32 [(0, 180)] [(48, 48)] [(46, 60)] [(1, 8)] [(0, 0)]
def mgh17498 : aw_H := [(81, mgx17497)]
def mgx17499 : aw_A := ms_o [(0, 8)] [(0, 4)] ar_t32 ar_t32 [(0, 180)] [(49, 49)] [(46, 60)] [(1, 8)] [(0, 0)]
def mgh17500 : aw_H := [(81, mgx17499)]
def mgx17501 : aw_A := ms_o [(0, 8)] [(0, 4)] ar_t32 ar_t32 [(0, 180)] [(50, 50)] [(46, 60)] [(1, 8)] [(0, 0)]
def mgh17502 : aw_H := [(81, mgx17501)]
def mgx17503 : aw_A := ms_o [(0, 8)] [(0, 4)] ar_t32 ar_t32 [(0, 180)] [(51, 51)] [(46, 60)] [(1, 8)] [(0, 0)]
def mgh17504 : aw_H := [(81, mgx17503)]
def mgx17505 : aw_A := ms_o [(0, 8)] [(0, 4)] ar_t32 ar_t32 [(0, 180)] [(52, 52)] [(46, 60)] [(1, 8)] [(0, 0)]
def mgh17506 : aw_H := [(81, mgx17505)]
def mgx17507 : aw_A := ms_o [(0, 8)] [(0, 4)] ar_t32 ar_t32 [(0, 180)] [(53, 53)] [(46, 60)] [(1, 8)] [(0, 0)]
def mgh17508 : aw_H := [(81, mgx17507)]
def mgx17509 : aw_A := ms_o [(0, 8)] [(0, 4)] ar_t32 ar_t32 [(0, 180)] [(54, 54)] [(46, 60)] [(1, 8)] [(0, 0)]
def mgh17510 : aw_H := [(81, mgx17509)]
def mgx17511 : aw_A := ms_o [(0, 8)] [(0, 4)] ar_t32 ar_t32 [(0, 180)] [(55, 55)] [(46, 60)] [(1, 8)] [(0, 0)]
def mgh17512 : aw_H := [(81, mgx17511)]
def mgx17513 : aw_A := ms_o [(0, 8)] [(0, 4)] ar_t32 ar_t32 [(0, 180)] [(56, 56)] [(46, 60)] [(1, 8)] [(0, 0)]
def mgh17514 : aw_H := [(81, mgx17513)]
def mgx17515 : aw_A := ms_o [(0, 8)] [(0, 4)] ar_t32 ar_t32 [(0, 180)] [(57, 57)] [(46, 60)] [(1, 8)] [(0, 0)]
def mgh17516 : aw_H := [(81, mgx17515)]
def mgx17517 : aw_A := ms_o [(0, 8)] [(0, 4)] ar_t32 ar_t32 [(0, 180)] [(58, 58)] [(46, 60)] [(1, 8)] [(0, 0)]
def mgh17518 : aw_H := [(81, mgx17517)]
def mgx17519 : aw_A := ms_o [(0, 8)] [(0, 4)] ar_t32 ar_t32 [(0, 180)] [(59, 59)] [(46, 60)] [(1, 8)] [(0, 0)]
def mgh17520 : aw_H := [(81, mgx17519)]
def mgx17521 : aw_A := ms_o [(0, 8)] [(0, 4)] ar_t32 ar_t32 [(0, 180)] [(60, 60)] [(46, 60)] [(1, 8)] [(0, 0)]
def mgh17522 : aw_H := [(81, mgx17521)]
/-- MiceRegistersModel.skip -/
def mgh17523 : aw_H := [(81, mgx17488), (90, .inr (.inl (0, 240, [], [])))]
def mgc993 : ak_C := (122, [.inl 81], mgh17523, [81], [([], none, mgh17494), ([], none, mgh17496), ([], none, mgh17498), ([], none, mgh17500), ([], none, mgh17502), ([], none, mgh17504), ([], none, mgh17506), ([], none, mgh17508), ([], none, mgh17510), ([], none, mgh17512), ([], none, mgh17514), ([], none, mgh17516), ([], none, mgh17518), ([], none, mgh17520), ([], none, mgh17522)])
/-- MiceRegistersModel.figure -/
def mgc994 : ak_C := (125, [.inl 81, .inr (false, [(0, 0)]), .inr (false, [(0, 7)])], mgh16877, [81], [([], some (.inr (false, [(-9, -9)])), mgh16842), ([], some (.inr (false, [(0, 7)])), mgh17068)])
/-- MiceRegistersModel.figure -/
def mgc995 : ak_C := (125, [.inl 81, .inr (false, [(1, 1)]), .inr (false, [(9, 9)])], mgh17101, [81], [([], some (.inr (false, [(-9, -9)])), mgh17068), ([], some (.inr (false, [(1, 9)])), mgh17286)])
def mgh17524 : aw_H := [(81, mgx17492), (94, mgx5049)]
def mgx17525 : aw_A := ms_o [(0, 8)] [(0, 4)] ar_t32 ar_t32 [(0, 180)] [(45, 45)] [(45, 60)] [(1, 8)] [(1, 1)]
def mgh17526 : aw_H := [(81, mgx17525), (94, mgx5052)]
def mgh17527 : aw_H := [(81, mgx17062), (94, mgx5049)]
/-- MiceRegistersModel.readsMouse -/
def mgh17528 : aw_H := [(81, mgx17492), (90, .inr (.inl (0, 240, [], []))), (94, mgx5049)]
def mgc996 : ak_C := (127, [.inl 81], mgh17528, [81, 94], [([], some (.inr (false, [(0, 0)])), mgh17524), ([], some (.inr (false, [(1, 1)])), mgh17526), ([], some (.inr (false, [(0, 0)])), mgh17527), ([], some (.inr (false, [(0, 0)])), mgh17321)])
theorem mgk996 : ai_chk [mgc37, mgc148, mgc994, mgc995] mgc996 (fun pc => sm_ch sm_t127 pc, sm_Kn 3 5 none, fun x => sm_lk sm_ca3 x, some .boolean) [81, 94] 5 0 [] [] 2000 [] = true := by decide +kernel
def mgh17529 : aw_H := [(81, mgx17525)]
def mgx17530 : aw_A := ms_o [(0, 8)] [(0, 4)] ar_t32 ar_t32 [(0, 180)] [(46, 46)] [(45, 60)] [(1, 8)] [(1, 1)]
def mgh17531 : aw_H := [(81, mgx17530)]
def mgx17532 : aw_A := ms_o [(0, 8)] [(0, 4)] ar_t32 ar_t32 [(0, 180)] [(47, 47)] [(45, 60)] [(1, 8)] [(1, 1)]
def mgh17533 : aw_H := [(81, mgx17532)]
def mgx17534 : aw_A := ms_o [(0, 8)] [(0, 4)] ar_t32 ar_t32 [(0, 180)] [(48, 48)] [(45, 60)] [(1, 8)] [(1, 1)]
def mgh17535 : aw_H := [(81, mgx17534)]
def mgx17536 : aw_A := ms_o [(0, 8)] [(0, 4)] ar_t32 ar_t32 [(0, 180)] [(49, 49)] [(45, 60)] [(1, 8)] [(1, 1)]
def mgh17537 : aw_H := [(81, mgx17536)]
def mgx17538 : aw_A := ms_o [(0, 8)] [(0, 4)] ar_t32 ar_t32 [(0, 180)] [(50, 50)] [(45, 60)] [(1, 8)] [(1, 1)]
def mgh17539 : aw_H := [(81, mgx17538)]
def mgx17540 : aw_A := ms_o [(0, 8)] [(0, 4)] ar_t32 ar_t32 [(0, 180)] [(51, 51)] [(45, 60)] [(1, 8)] [(1, 1)]
def mgh17541 : aw_H := [(81, mgx17540)]
def mgx17542 : aw_A := ms_o [(0, 8)] [(0, 4)] ar_t32 ar_t32 [(0, 180)] [(52, 52)] [(45, 60)] [(1, 8)] [(1, 1)]
def mgh17543 : aw_H := [(81, mgx17542)]
def mgx17544 : aw_A := ms_o [(0, 8)] [(0, 4)] ar_t32 ar_t32 [(0, 180)] [(53, 53)] [(45, 60)] [(1, 8)] [(1, 1)]
def mgh17545 : aw_H := [(81, mgx17544)]
def mgx17546 : aw_A := ms_o [(0, 8)] [(0, 4)] ar_t32 ar_t32 [(0, 180)] [(54, 54)] [(45, 60)] [(1, 8)] [(1, 1)]
def mgh17547 : aw_H := [(81, mgx17546)]
def mgx17548 : aw_A := ms_o [(0, 8)] [(0, 4)] ar_t32 ar_t32 [(0, 180)] [(55, 55)] [(45, 60)] [(1, 8)] [(1, 1)]
def mgh17549 : aw_H := [(81, mgx17548)]
def mgx17550 : aw_A := ms_o [(0, 8)] [(0, 4)] ar_t32 ar_t32 [(0, 180)] [(56, 56)] [(45, 60)] [(1, 8)] [(1, 1)]
def mgh17551 : aw_H := [(81, mgx17550)]
def mgx17552 : aw_A := ms_o [(0, 8)] [(0, 4)] ar_t32 ar_t32 [(0, 180)] [(57, 57)] [(45, 60)] [(1, 8)] [(1, 1)]
def mgh17553 : aw_H := [(81, mgx17552)]
def mgx17554 : aw_A := ms_o [(0, 8)] [(0, 4)] ar_t32 ar_t32 [(0, 180)] [(58, 58)] [(45, 60)] [(1, 8)] [(1, 1)]
def mgh17555 : aw_H := [(81, mgx17554)]
def mgx17556 : aw_A := ms_o [(0, 8)] [(0, 4)] ar_t32 ar_t32 [(0, 180)] [(59, 59)] [(45, 60)] [(1, 8)] [(1, 1)]
def mgh17557 : aw_H := [(81, mgx17556)]
def mgx17558 : aw_A := ms_o [(0, 8)] [(0, 4)] ar_t32 ar_t32 [(0, 180)] [(60, 60)] [(45, 60)] [(1, 8)] [(1, 1)]
def mgh17559 : aw_H := [(81, mgx17558)]
/-- MiceRegistersModel.skip -/
def mgh17560 : aw_H := [(81, mgx17525), (90, .inr (.inl (0, 240, [], [])))]
def mgc997 : ak_C := (122, [.inl 81], mgh17560, [81], [([], none, mgh17529), ([], none, mgh17531), ([], none, mgh17533), ([], none, mgh17535), ([], none, mgh17537), ([], none, mgh17539), ([], none, mgh17541), ([], none, mgh17543), ([], none, mgh17545), ([], none, mgh17547), ([], none, mgh17549), ([], none, mgh17551), ([], none, mgh17553), ([], none, mgh17555), ([], none, mgh17557), ([], none, mgh17559)])
/-- MiceRegistersModel.readsLine -/
def mgx17561 : aw_A := ms_o [(0, 8)] [(0, 4)] ar_t32 ar_t32 [(0, 180)] [(42, 42)] [(43, 60)] [(1, 8)] [(1, 1)]
def mgh17562 : aw_H := [(81, mgx17561)]
def mgc998 : ak_C := (124, [.inl 81], mgh17562, [], [([], some (.inr (false, [(0, 0)])), [])])
theorem mgk998 : ai_chk [] mgc998 (fun pc => sm_ch sm_t124 pc, sm_Kn 3 3 none, fun x => sm_lk sm_ca3 x, some .boolean) [] 3 0 [] [] 2000 [] = true := by decide +kernel
/-- MiceRegistersModel.figure -/
def mgc999 : ak_C := (125, [.inl 81, .inr (false, [(0, 0)]), .inr (false, [(0, 7)])], mgh17142, [81], [([], some (.inr (false, [(-9, -9)])), mgh17107), ([], some (.inr (false, [(0, 7)])), mgh17323)])
/-- MiceRegistersModel.figure -/
def mgc1000 : ak_C := (125, [.inl 81, .inr (false, [(1, 1)]), .inr (false, [(9, 9)])], mgh17356, [81], [([], some (.inr (false, [(-9, -9)])), mgh17323), ([], some (.inr (false, [(1, 9)])), mgh17529)])
def mgh17563 : aw_H := [(81, mgx17561), (94, mgx5052)]
def mgx17564 : aw_A := ms_o [(0, 8)] [(0, 4)] ar_t32 ar_t32 [(0, 180)] [(45, 45)] [(45, 60)] [(1, 8)] [(2, 2)]
def mgh17565 : aw_H := [(81, mgx17564), (94, mgx5820)]
/-- MiceRegistersModel.readsMouse -/
def mgh17566 : aw_H := [(81, mgx17561), (90, .inr (.inl (0, 240, [], []))), (94, mgx5052)]
def mgc1001 : ak_C := (127, [.inl 81], mgh17566, [81, 94], [([], some (.inr (false, [(0, 0)])), mgh17563), ([], some (.inr (false, [(1, 1)])), mgh17565), ([], some (.inr (false, [(0, 0)])), mgh17320), ([], some (.inr (false, [(0, 0)])), mgh17104)])
theorem mgk1001 : ai_chk [mgc37, mgc148, mgc999, mgc1000] mgc1001 (fun pc => sm_ch sm_t127 pc, sm_Kn 3 5 none, fun x => sm_lk sm_ca3 x, some .boolean) [81, 94] 5 0 [] [] 2000 [] = true := by decide +kernel
def mgh17567 : aw_H := [(81, mgx17564)]
def mgx17568 : aw_A := ms_o [(0, 8)] [(0, 4)] ar_t32 ar_t32 [(0, 180)] [(46, 46)] [(45, 60)] [(1, 8)] [(2, 2)]
def mgh17569 : aw_H := [(81, mgx17568)]
def mgx17570 : aw_A := ms_o [(0, 8)] [(0, 4)] ar_t32 ar_t32 [(0, 180)] [(47, 47)] [(45, 60)] [(1, 8)] [(2, 2)]
def mgh17571 : aw_H := [(81, mgx17570)]
def mgx17572 : aw_A := ms_o [(0, 8)] [(0, 4)] ar_t32 ar_t32 [(0, 180)] [(48, 48)] [(45, 60)] [(1, 8)] [(2, 2)]
def mgh17573 : aw_H := [(81, mgx17572)]
def mgx17574 : aw_A := ms_o [(0, 8)] [(0, 4)] ar_t32 ar_t32 [(0, 180)] [(49, 49)] [(45, 60)] [(1, 8)] [(2, 2)]
def mgh17575 : aw_H := [(81, mgx17574)]
def mgx17576 : aw_A := ms_o [(0, 8)] [(0, 4)] ar_t32 ar_t32 [(0, 180)] [(50, 50)] [(45, 60)] [(1, 8)] [(2, 2)]
def mgh17577 : aw_H := [(81, mgx17576)]
def mgx17578 : aw_A := ms_o [(0, 8)] [(0, 4)] ar_t32 ar_t32 [(0, 180)] [(51, 51)] [(45, 60)] [(1, 8)] [(2, 2)]
def mgh17579 : aw_H := [(81, mgx17578)]
def mgx17580 : aw_A := ms_o [(0, 8)] [(0, 4)] ar_t32 ar_t32 [(0, 180)] [(52, 52)] [(45, 60)] [(1, 8)] [(2, 2)]
def mgh17581 : aw_H := [(81, mgx17580)]
def mgx17582 : aw_A := ms_o [(0, 8)] [(0, 4)] ar_t32 ar_t32 [(0, 180)] [(53, 53)] [(45, 60)] [(1, 8)] [(2, 2)]
def mgh17583 : aw_H := [(81, mgx17582)]
def mgx17584 : aw_A := ms_o [(0, 8)] [(0, 4)] ar_t32 ar_t32 [(0, 180)] [(54, 54)] [(45, 60)] [(1, 8)] [(2, 2)]
def mgh17585 : aw_H := [(81, mgx17584)]
def mgx17586 : aw_A := ms_o [(0, 8)] [(0, 4)] ar_t32 ar_t32 [(0, 180)] [(55, 55)] [(45, 60)] [(1, 8)] [(2, 2)]
def mgh17587 : aw_H := [(81, mgx17586)]
def mgx17588 : aw_A := ms_o [(0, 8)] [(0, 4)] ar_t32 ar_t32 [(0, 180)] [(56, 56)] [(45, 60)] [(1, 8)] [(2, 2)]
def mgh17589 : aw_H := [(81, mgx17588)]
def mgx17590 : aw_A := ms_o [(0, 8)] [(0, 4)] ar_t32 ar_t32 [(0, 180)] [(57, 57)] [(45, 60)] [(1, 8)] [(2, 2)]
def mgh17591 : aw_H := [(81, mgx17590)]
def mgx17592 : aw_A := ms_o [(0, 8)] [(0, 4)] ar_t32 ar_t32 [(0, 180)] [(58, 58)] [(45, 60)] [(1, 8)] [(2, 2)]
def mgh17593 : aw_H := [(81, mgx17592)]
def mgx17594 : aw_A := ms_o [(0, 8)] [(0, 4)] ar_t32 ar_t32 [(0, 180)] [(59, 59)] [(45, 60)] [(1, 8)] [(2, 2)]
def mgh17595 : aw_H := [(81, mgx17594)]
def mgx17596 : aw_A := ms_o [(0, 8)] [(0, 4)] ar_t32 ar_t32 [(0, 180)] [(60, 60)] [(45, 60)] [(1, 8)] [(2, 2)]
def mgh17597 : aw_H := [(81, mgx17596)]
/-- MiceRegistersModel.skip -/
def mgh17598 : aw_H := [(81, mgx17564), (90, .inr (.inl (0, 240, [], [])))]
def mgc1002 : ak_C := (122, [.inl 81], mgh17598, [81], [([], none, mgh17567), ([], none, mgh17569), ([], none, mgh17571), ([], none, mgh17573), ([], none, mgh17575), ([], none, mgh17577), ([], none, mgh17579), ([], none, mgh17581), ([], none, mgh17583), ([], none, mgh17585), ([], none, mgh17587), ([], none, mgh17589), ([], none, mgh17591), ([], none, mgh17593), ([], none, mgh17595), ([], none, mgh17597)])
/-- MiceRegistersModel.readsLine -/
def mgx17599 : aw_A := ms_o [(0, 8)] [(0, 4)] ar_t32 ar_t32 [(0, 180)] [(42, 42)] [(43, 60)] [(1, 8)] [(2, 2)]
def mgh17600 : aw_H := [(81, mgx17599)]
def mgc1003 : ak_C := (124, [.inl 81], mgh17600, [], [([], some (.inr (false, [(0, 0)])), [])])
theorem mgk1003 : ai_chk [] mgc1003 (fun pc => sm_ch sm_t124 pc, sm_Kn 3 3 none, fun x => sm_lk sm_ca3 x, some .boolean) [] 3 0 [] [] 2000 [] = true := by decide +kernel
/-- MiceRegistersModel.figure -/
def mgc1004 : ak_C := (125, [.inl 81, .inr (false, [(0, 0)]), .inr (false, [(0, 7)])], mgh17184, [81], [([], some (.inr (false, [(-9, -9)])), mgh17149), ([], some (.inr (false, [(0, 7)])), mgh17363)])
/-- MiceRegistersModel.figure -/
def mgc1005 : ak_C := (125, [.inl 81, .inr (false, [(1, 1)]), .inr (false, [(9, 9)])], mgh17396, [81], [([], some (.inr (false, [(-9, -9)])), mgh17363), ([], some (.inr (false, [(1, 9)])), mgh17567)])
def mgh17601 : aw_H := [(81, mgx17599), (94, mgx5820)]
def mgx17602 : aw_A := ms_o [(0, 8)] [(0, 4)] ar_t32 ar_t32 [(0, 180)] [(45, 45)] [(45, 60)] [(1, 8)] [(3, 3)]
def mgh17603 : aw_H := [(81, mgx17602), (94, mgx6868)]
/-- MiceRegistersModel.readsMouse -/
def mgh17604 : aw_H := [(81, mgx17599), (90, .inr (.inl (0, 240, [], []))), (94, mgx5820)]
def mgc1006 : ak_C := (127, [.inl 81], mgh17604, [81, 94], [([], some (.inr (false, [(0, 0)])), mgh17601), ([], some (.inr (false, [(1, 1)])), mgh17603), ([], some (.inr (false, [(0, 0)])), mgh17361), ([], some (.inr (false, [(0, 0)])), mgh17147)])
theorem mgk1006 : ai_chk [mgc37, mgc148, mgc1004, mgc1005] mgc1006 (fun pc => sm_ch sm_t127 pc, sm_Kn 3 5 none, fun x => sm_lk sm_ca3 x, some .boolean) [81, 94] 5 0 [] [] 2000 [] = true := by decide +kernel
def mgh17605 : aw_H := [(81, mgx17602)]
def mgx17606 : aw_A := ms_o [(0, 8)] [(0, 4)] ar_t32 ar_t32 [(0, 180)] [(46, 46)] [(45, 60)] [(1, 8)] [(3, 3)]
def mgh17607 : aw_H := [(81, mgx17606)]
def mgx17608 : aw_A := ms_o [(0, 8)] [(0, 4)] ar_t32 ar_t32 [(0, 180)] [(47, 47)] [(45, 60)] [(1, 8)] [(3, 3)]
def mgh17609 : aw_H := [(81, mgx17608)]
def mgx17610 : aw_A := ms_o [(0, 8)] [(0, 4)] ar_t32 ar_t32 [(0, 180)] [(48, 48)] [(45, 60)] [(1, 8)] [(3, 3)]
def mgh17611 : aw_H := [(81, mgx17610)]
def mgx17612 : aw_A := ms_o [(0, 8)] [(0, 4)] ar_t32 ar_t32 [(0, 180)] [(49, 49)] [(45, 60)] [(1, 8)] [(3, 3)]
def mgh17613 : aw_H := [(81, mgx17612)]
def mgx17614 : aw_A := ms_o [(0, 8)] [(0, 4)] ar_t32 ar_t32 [(0, 180)] [(50, 50)] [(45, 60)] [(1, 8)] [(3, 3)]
def mgh17615 : aw_H := [(81, mgx17614)]
def mgx17616 : aw_A := ms_o [(0, 8)] [(0, 4)] ar_t32 ar_t32 [(0, 180)] [(51, 51)] [(45, 60)] [(1, 8)] [(3, 3)]
def mgh17617 : aw_H := [(81, mgx17616)]
def mgx17618 : aw_A := ms_o [(0, 8)] [(0, 4)] ar_t32 ar_t32 [(0, 180)] [(52, 52)] [(45, 60)] [(1, 8)] [(3, 3)]
def mgh17619 : aw_H := [(81, mgx17618)]
def mgx17620 : aw_A := ms_o [(0, 8)] [(0, 4)] ar_t32 ar_t32 [(0, 180)] [(53, 53)] [(45, 60)] [(1, 8)] [(3, 3)]
def mgh17621 : aw_H := [(81, mgx17620)]
def mgx17622 : aw_A := ms_o [(0, 8)] [(0, 4)] ar_t32 ar_t32 [(0, 180)] [(54, 54)] [(45, 60)] [(1, 8)] [(3, 3)]
def mgh17623 : aw_H := [(81, mgx17622)]
def mgx17624 : aw_A := ms_o [(0, 8)] [(0, 4)] ar_t32 ar_t32 [(0, 180)] [(55, 55)] [(45, 60)] [(1, 8)] [(3, 3)]
def mgh17625 : aw_H := [(81, mgx17624)]
def mgx17626 : aw_A := ms_o [(0, 8)] [(0, 4)] ar_t32 ar_t32 [(0, 180)] [(56, 56)] [(45, 60)] [(1, 8)] [(3, 3)]
def mgh17627 : aw_H := [(81, mgx17626)]
def mgx17628 : aw_A := ms_o [(0, 8)] [(0, 4)] ar_t32 ar_t32 [(0, 180)] [(57, 57)] [(45, 60)] [(1, 8)] [(3, 3)]
def mgh17629 : aw_H := [(81, mgx17628)]
def mgx17630 : aw_A := ms_o [(0, 8)] [(0, 4)] ar_t32 ar_t32 [(0, 180)] [(58, 58)] [(45, 60)] [(1, 8)] [(3, 3)]
def mgh17631 : aw_H := [(81, mgx17630)]
def mgx17632 : aw_A := ms_o [(0, 8)] [(0, 4)] ar_t32 ar_t32 [(0, 180)] [(59, 59)] [(45, 60)] [(1, 8)] [(3, 3)]
def mgh17633 : aw_H := [(81, mgx17632)]
def mgx17634 : aw_A := ms_o [(0, 8)] [(0, 4)] ar_t32 ar_t32 [(0, 180)] [(60, 60)] [(45, 60)] [(1, 8)] [(3, 3)]
def mgh17635 : aw_H := [(81, mgx17634)]
/-- MiceRegistersModel.skip -/
def mgh17636 : aw_H := [(81, mgx17602), (90, .inr (.inl (0, 240, [], [])))]
def mgc1007 : ak_C := (122, [.inl 81], mgh17636, [81], [([], none, mgh17605), ([], none, mgh17607), ([], none, mgh17609), ([], none, mgh17611), ([], none, mgh17613), ([], none, mgh17615), ([], none, mgh17617), ([], none, mgh17619), ([], none, mgh17621), ([], none, mgh17623), ([], none, mgh17625), ([], none, mgh17627), ([], none, mgh17629), ([], none, mgh17631), ([], none, mgh17633), ([], none, mgh17635)])
/-- MiceRegistersModel.readsLine -/
def mgx17637 : aw_A := ms_o [(0, 8)] [(0, 4)] ar_t32 ar_t32 [(0, 180)] [(42, 42)] [(43, 60)] [(1, 8)] [(3, 3)]
def mgh17638 : aw_H := [(81, mgx17637)]
def mgc1008 : ak_C := (124, [.inl 81], mgh17638, [], [([], some (.inr (false, [(0, 0)])), [])])
theorem mgk1008 : ai_chk [] mgc1008 (fun pc => sm_ch sm_t124 pc, sm_Kn 3 3 none, fun x => sm_lk sm_ca3 x, some .boolean) [] 3 0 [] [] 2000 [] = true := by decide +kernel
/-- MiceRegistersModel.figure -/
def mgc1009 : ak_C := (125, [.inl 81, .inr (false, [(0, 0)]), .inr (false, [(0, 7)])], mgh17226, [81], [([], some (.inr (false, [(-9, -9)])), mgh17191), ([], some (.inr (false, [(0, 7)])), mgh17403)])
/-- MiceRegistersModel.figure -/
def mgc1010 : ak_C := (125, [.inl 81, .inr (false, [(1, 1)]), .inr (false, [(9, 9)])], mgh17436, [81], [([], some (.inr (false, [(-9, -9)])), mgh17403), ([], some (.inr (false, [(1, 9)])), mgh17605)])
def mgh17639 : aw_H := [(81, mgx17637), (94, mgx6868)]
def mgx17640 : aw_A := ms_o [(0, 8)] [(0, 4)] ar_t32 ar_t32 [(0, 180)] [(45, 45)] [(45, 60)] [(1, 8)] [(4, 4)]
def mgh17641 : aw_H := [(81, mgx17640), (94, mgx8150)]
/-- MiceRegistersModel.readsMouse -/
def mgh17642 : aw_H := [(81, mgx17637), (90, .inr (.inl (0, 240, [], []))), (94, mgx6868)]
def mgc1011 : ak_C := (127, [.inl 81], mgh17642, [81, 94], [([], some (.inr (false, [(0, 0)])), mgh17639), ([], some (.inr (false, [(1, 1)])), mgh17641), ([], some (.inr (false, [(0, 0)])), mgh17401), ([], some (.inr (false, [(0, 0)])), mgh17189)])
theorem mgk1011 : ai_chk [mgc37, mgc148, mgc1009, mgc1010] mgc1011 (fun pc => sm_ch sm_t127 pc, sm_Kn 3 5 none, fun x => sm_lk sm_ca3 x, some .boolean) [81, 94] 5 0 [] [] 2000 [] = true := by decide +kernel
def mgh17643 : aw_H := [(81, mgx17640)]
def mgx17644 : aw_A := ms_o [(0, 8)] [(0, 4)] ar_t32 ar_t32 [(0, 180)] [(46, 46)] [(45, 60)] [(1, 8)] [(4, 4)]
def mgh17645 : aw_H := [(81, mgx17644)]
def mgx17646 : aw_A := ms_o [(0, 8)] [(0, 4)] ar_t32 ar_t32 [(0, 180)] [(47, 47)] [(45, 60)] [(1, 8)] [(4, 4)]
def mgh17647 : aw_H := [(81, mgx17646)]
def mgx17648 : aw_A := ms_o [(0, 8)] [(0, 4)] ar_t32 ar_t32 [(0, 180)] [(48, 48)] [(45, 60)] [(1, 8)] [(4, 4)]
def mgh17649 : aw_H := [(81, mgx17648)]
def mgx17650 : aw_A := ms_o [(0, 8)] [(0, 4)] ar_t32 ar_t32 [(0, 180)] [(49, 49)] [(45, 60)] [(1, 8)] [(4, 4)]
def mgh17651 : aw_H := [(81, mgx17650)]
def mgx17652 : aw_A := ms_o [(0, 8)] [(0, 4)] ar_t32 ar_t32 [(0, 180)] [(50, 50)] [(45, 60)] [(1, 8)] [(4, 4)]
def mgh17653 : aw_H := [(81, mgx17652)]
def mgx17654 : aw_A := ms_o [(0, 8)] [(0, 4)] ar_t32 ar_t32 [(0, 180)] [(51, 51)] [(45, 60)] [(1, 8)] [(4, 4)]
def mgh17655 : aw_H := [(81, mgx17654)]
def mgx17656 : aw_A := ms_o [(0, 8)] [(0, 4)] ar_t32 ar_t32 [(0, 180)] [(52, 52)] [(45, 60)] [(1, 8)] [(4, 4)]
def mgh17657 : aw_H := [(81, mgx17656)]
def mgx17658 : aw_A := ms_o [(0, 8)] [(0, 4)] ar_t32 ar_t32 [(0, 180)] [(53, 53)] [(45, 60)] [(1, 8)] [(4, 4)]
def mgh17659 : aw_H := [(81, mgx17658)]
def mgx17660 : aw_A := ms_o [(0, 8)] [(0, 4)] ar_t32 ar_t32 [(0, 180)] [(54, 54)] [(45, 60)] [(1, 8)] [(4, 4)]
def mgh17661 : aw_H := [(81, mgx17660)]
def mgx17662 : aw_A := ms_o [(0, 8)] [(0, 4)] ar_t32 ar_t32 [(0, 180)] [(55, 55)] [(45, 60)] [(1, 8)] [(4, 4)]
def mgh17663 : aw_H := [(81, mgx17662)]
def mgx17664 : aw_A := ms_o [(0, 8)] [(0, 4)] ar_t32 ar_t32 [(0, 180)] [(56, 56)] [(45, 60)] [(1, 8)] [(4, 4)]
def mgh17665 : aw_H := [(81, mgx17664)]
def mgx17666 : aw_A := ms_o [(0, 8)] [(0, 4)] ar_t32 ar_t32 [(0, 180)] [(57, 57)] [(45, 60)] [(1, 8)] [(4, 4)]
def mgh17667 : aw_H := [(81, mgx17666)]
def mgx17668 : aw_A := ms_o [(0, 8)] [(0, 4)] ar_t32 ar_t32 [(0, 180)] [(58, 58)] [(45, 60)] [(1, 8)] [(4, 4)]
def mgh17669 : aw_H := [(81, mgx17668)]
def mgx17670 : aw_A := ms_o [(0, 8)] [(0, 4)] ar_t32 ar_t32 [(0, 180)] [(59, 59)] [(45, 60)] [(1, 8)] [(4, 4)]
def mgh17671 : aw_H := [(81, mgx17670)]
def mgx17672 : aw_A := ms_o [(0, 8)] [(0, 4)] ar_t32 ar_t32 [(0, 180)] [(60, 60)] [(45, 60)] [(1, 8)] [(4, 4)]
def mgh17673 : aw_H := [(81, mgx17672)]
/-- MiceRegistersModel.skip -/
def mgh17674 : aw_H := [(81, mgx17640), (90, .inr (.inl (0, 240, [], [])))]
def mgc1012 : ak_C := (122, [.inl 81], mgh17674, [81], [([], none, mgh17643), ([], none, mgh17645), ([], none, mgh17647), ([], none, mgh17649), ([], none, mgh17651), ([], none, mgh17653), ([], none, mgh17655), ([], none, mgh17657), ([], none, mgh17659), ([], none, mgh17661), ([], none, mgh17663), ([], none, mgh17665), ([], none, mgh17667), ([], none, mgh17669), ([], none, mgh17671), ([], none, mgh17673)])
/-- MiceRegistersModel.readsLine -/
def mgx17675 : aw_A := ms_o [(0, 8)] [(0, 4)] ar_t32 ar_t32 [(0, 180)] [(42, 42)] [(43, 60)] [(1, 7)] [(4, 4)]
def mgh17676 : aw_H := [(81, mgx17675)]
def mgc1013 : ak_C := (124, [.inl 81], mgh17676, [], [([], some (.inr (false, [(0, 0)])), [])])
theorem mgk1013 : ai_chk [] mgc1013 (fun pc => sm_ch sm_t124 pc, sm_Kn 3 3 none, fun x => sm_lk sm_ca3 x, some .boolean) [] 3 0 [] [] 2000 [] = true := by decide +kernel
/-- MiceRegistersModel.readsMouse -/
def mgh17677 : aw_H := [(81, mgx17675), (90, .inr (.inl (0, 240, [], [])))]
def mgc1014 : ak_C := (127, [.inl 81], mgh17677, [], [([], some (.inr (false, [(0, 0)])), [])])
theorem mgk1014 : ai_chk [mgc37, mgc148] mgc1014 (fun pc => sm_ch sm_t127 pc, sm_Kn 3 5 none, fun x => sm_lk sm_ca3 x, some .boolean) [] 5 0 [] [] 2000 [] = true := by decide +kernel
def mgx17678 : aw_A := ms_o [(0, 8)] [(0, 4)] ar_t32 ar_t32 [(0, 180)] [(47, 47)] [(47, 60)] [(0, 7)] [(0, 0)]
def mgh17679 : aw_H := [(81, mgx17678)]
/-- MiceRegistersModel.figure -/
def mgh17680 : aw_H := [(81, mgx17484), (90, .inr (.inl (0, 240, [], [])))]
def mgc1015 : ak_C := (125, [.inl 81, .inr (false, [(0, 0)]), .inr (false, [(9, 9)])], mgh17680, [81], [([], some (.inr (false, [(-9, -9)])), mgh17485), ([], some (.inr (false, [(0, 9)])), mgh17679)])
/-- MiceRegistersModel.twoFigures -/
def mgc1016 : ak_C := (126, [.inl 81, .inr (false, [(1, 1)]), .inr (false, [(40, 40)])], mgh17486, [81], [([], some (.inr (false, [(-9, -9)])), mgh17277), ([], some (.inr (false, [(0, 99)])), mgh17679), ([], some (.inr (false, [(-9, -9)])), mgh17485)])
theorem mgk1016 : ai_chk [mgc990, mgc1015, mgc144] mgc1016 (fun pc => sm_ch sm_t126 pc, sm_Kn 3 6 none, fun x => sm_lk sm_ca3 x, some .int) [81] 6 0 [] [] 2000 [] = true := by decide +kernel
def mgh17681 : aw_H := [(81, mgx17484), (92, .inr (.inl (0, 8, [], []))), (93, .inr (.inl (0, 8, [], [])))]
def mgx17682 : aw_A := ms_o [(0, 8)] [(0, 4)] ar_t32 ar_t32 [(0, 180)] [(47, 47)] [(47, 60)] [(1, 8)] [(0, 0)]
def mgh17683 : aw_H := [(81, mgx17682), (92, .inr (.inl (0, 8, [], []))), (93, .inr (.inl (0, 8, [], [])))]
def mgx17684 : aw_A := ms_o [(0, 8)] [(0, 4)] ar_t32 ar_t32 [(0, 180)] [(43, 43)] [(44, 60)] [(8, 8)] [(0, 0)]
def mgh17685 : aw_H := [(81, mgx17684), (92, .inr (.inl (0, 8, [], []))), (93, .inr (.inl (0, 8, [], [])))]
/-- MiceRegistersModel.readsLine -/
def mgx17686 : aw_A := ms_o [(0, 8)] [(0, 4)] ar_t32 ar_t32 [(0, 180)] [(43, 43)] [(44, 60)] [(0, 8)] [(0, 0)]
def mgh17687 : aw_H := [(81, mgx17686), (90, .inr (.inl (0, 240, [], []))), (92, .inr (.inl (0, 8, [], []))), (93, .inr (.inl (0, 8, [], [])))]
def mgc1017 : ak_C := (124, [.inl 81], mgh17687, [81, 92, 93], [([], some (.inr (false, [(0, 0)])), mgh17681), ([], some (.inr (false, [(1, 1)])), mgh17683), ([], some (.inr (false, [(0, 0)])), mgh17487), ([], some (.inr (false, [(0, 0)])), mgh17279), ([], some (.inr (false, [(0, 0)])), mgh17685)])
theorem mgk1017 : ai_chk [mgc965, mgc1016] mgc1017 (fun pc => sm_ch sm_t124 pc, sm_Kn 3 3 none, fun x => sm_lk sm_ca3 x, some .boolean) [81, 92, 93] 3 0 [] [] 2000 [] = true := by decide +kernel
def mgh17688 : aw_H := [(81, mgx17682)]
def mgx17689 : aw_A := ms_o [(0, 8)] [(0, 4)] ar_t32 ar_t32 [(0, 180)] [(48, 48)] [(47, 60)] [(1, 8)] [(0, 0)]
def mgh17690 : aw_H := [(81, mgx17689)]
def mgx17691 : aw_A := ms_o [(0, 8)] [(0, 4)] ar_t32 ar_t32 [(0, 180)] [(49, 49)] [(47, 60)] [(1, 8)] [(0, 0)]
def mgh17692 : aw_H := [(81, mgx17691)]
def mgx17693 : aw_A := ms_o [(0, 8)] [(0, 4)] ar_t32 ar_t32 [(0, 180)] [(50, 50)] [(47, 60)] [(1, 8)] [(0, 0)]
def mgh17694 : aw_H := [(81, mgx17693)]
def mgx17695 : aw_A := ms_o [(0, 8)] [(0, 4)] ar_t32 ar_t32 [(0, 180)] [(51, 51)] [(47, 60)] [(1, 8)] [(0, 0)]
def mgh17696 : aw_H := [(81, mgx17695)]
def mgx17697 : aw_A := ms_o [(0, 8)] [(0, 4)] ar_t32 ar_t32 [(0, 180)] [(52, 52)] [(47, 60)] [(1, 8)] [(0, 0)]
def mgh17698 : aw_H := [(81, mgx17697)]
def mgx17699 : aw_A := ms_o [(0, 8)] [(0, 4)] ar_t32 ar_t32 [(0, 180)] [(53, 53)] [(47, 60)] [(1, 8)] [(0, 0)]
def mgh17700 : aw_H := [(81, mgx17699)]
def mgx17701 : aw_A := ms_o [(0, 8)] [(0, 4)] ar_t32 ar_t32 [(0, 180)] [(54, 54)] [(47, 60)] [(1, 8)] [(0, 0)]
def mgh17702 : aw_H := [(81, mgx17701)]
def mgx17703 : aw_A := ms_o [(0, 8)] [(0, 4)] ar_t32 ar_t32 [(0, 180)] [(55, 55)] [(47, 60)] [(1, 8)] [(0, 0)]
def mgh17704 : aw_H := [(81, mgx17703)]
def mgx17705 : aw_A := ms_o [(0, 8)] [(0, 4)] ar_t32 ar_t32 [(0, 180)] [(56, 56)] [(47, 60)] [(1, 8)] [(0, 0)]
def mgh17706 : aw_H := [(81, mgx17705)]
def mgx17707 : aw_A := ms_o [(0, 8)] [(0, 4)] ar_t32 ar_t32 [(0, 180)] [(57, 57)] [(47, 60)] [(1, 8)] [(0, 0)]
def mgh17708 : aw_H := [(81, mgx17707)]
def mgx17709 : aw_A := ms_o [(0, 8)] [(0, 4)] ar_t32 ar_t32 [(0, 180)] [(58, 58)] [(47, 60)] [(1, 8)] [(0, 0)]
def mgh17710 : aw_H := [(81, mgx17709)]
def mgx17711 : aw_A := ms_o [(0, 8)] [(0, 4)] ar_t32 ar_t32 [(0, 180)] [(59, 59)] [(47, 60)] [(1, 8)] [(0, 0)]
def mgh17712 : aw_H := [(81, mgx17711)]
def mgx17713 : aw_A := ms_o [(0, 8)] [(0, 4)] ar_t32 ar_t32 [(0, 180)] [(60, 60)] [(47, 60)] [(1, 8)] [(0, 0)]
def mgh17714 : aw_H := [(81, mgx17713)]
/-- MiceRegistersModel.skip -/
def mgh17715 : aw_H := [(81, mgx17682), (90, .inr (.inl (0, 240, [], [])))]
def mgc1018 : ak_C := (122, [.inl 81], mgh17715, [81], [([], none, mgh17688), ([], none, mgh17690), ([], none, mgh17692), ([], none, mgh17694), ([], none, mgh17696), ([], none, mgh17698), ([], none, mgh17700), ([], none, mgh17702), ([], none, mgh17704), ([], none, mgh17706), ([], none, mgh17708), ([], none, mgh17710), ([], none, mgh17712), ([], none, mgh17714)])
/-- MiceRegistersModel.figure -/
def mgc1019 : ak_C := (125, [.inl 81, .inr (false, [(0, 0)]), .inr (false, [(0, 7)])], mgh17101, [81], [([], some (.inr (false, [(-9, -9)])), mgh17068), ([], some (.inr (false, [(0, 7)])), mgh17286)])
/-- MiceRegistersModel.figure -/
def mgc1020 : ak_C := (125, [.inl 81, .inr (false, [(1, 1)]), .inr (false, [(9, 9)])], mgh17317, [81], [([], some (.inr (false, [(-9, -9)])), mgh17286), ([], some (.inr (false, [(1, 9)])), mgh17494)])
def mgh17716 : aw_H := [(81, mgx17686), (94, mgx5049)]
def mgx17717 : aw_A := ms_o [(0, 8)] [(0, 4)] ar_t32 ar_t32 [(0, 180)] [(46, 46)] [(46, 60)] [(1, 8)] [(1, 1)]
def mgh17718 : aw_H := [(81, mgx17717), (94, mgx5052)]
def mgh17719 : aw_H := [(81, mgx17280), (94, mgx5049)]
/-- MiceRegistersModel.readsMouse -/
def mgh17720 : aw_H := [(81, mgx17686), (90, .inr (.inl (0, 240, [], []))), (94, mgx5049)]
def mgc1021 : ak_C := (127, [.inl 81], mgh17720, [81, 94], [([], some (.inr (false, [(0, 0)])), mgh17716), ([], some (.inr (false, [(1, 1)])), mgh17718), ([], some (.inr (false, [(0, 0)])), mgh17719), ([], some (.inr (false, [(0, 0)])), mgh17527)])
theorem mgk1021 : ai_chk [mgc36, mgc148, mgc1019, mgc1020] mgc1021 (fun pc => sm_ch sm_t127 pc, sm_Kn 3 5 none, fun x => sm_lk sm_ca3 x, some .boolean) [81, 94] 5 0 [] [] 2000 [] = true := by decide +kernel
def mgh17721 : aw_H := [(81, mgx17717)]
def mgx17722 : aw_A := ms_o [(0, 8)] [(0, 4)] ar_t32 ar_t32 [(0, 180)] [(47, 47)] [(46, 60)] [(1, 8)] [(1, 1)]
def mgh17723 : aw_H := [(81, mgx17722)]
def mgx17724 : aw_A := ms_o [(0, 8)] [(0, 4)] ar_t32 ar_t32 [(0, 180)] [(48, 48)] [(46, 60)] [(1, 8)] [(1, 1)]
def mgh17725 : aw_H := [(81, mgx17724)]
def mgx17726 : aw_A := ms_o [(0, 8)] [(0, 4)] ar_t32 ar_t32 [(0, 180)] [(49, 49)] [(46, 60)] [(1, 8)] [(1, 1)]
def mgh17727 : aw_H := [(81, mgx17726)]
def mgx17728 : aw_A := ms_o [(0, 8)] [(0, 4)] ar_t32 ar_t32 [(0, 180)] [(50, 50)] [(46, 60)] [(1, 8)] [(1, 1)]
def mgh17729 : aw_H := [(81, mgx17728)]
def mgx17730 : aw_A := ms_o [(0, 8)] [(0, 4)] ar_t32 ar_t32 [(0, 180)] [(51, 51)] [(46, 60)] [(1, 8)] [(1, 1)]
def mgh17731 : aw_H := [(81, mgx17730)]
def mgx17732 : aw_A := ms_o [(0, 8)] [(0, 4)] ar_t32 ar_t32 [(0, 180)] [(52, 52)] [(46, 60)] [(1, 8)] [(1, 1)]
def mgh17733 : aw_H := [(81, mgx17732)]
def mgx17734 : aw_A := ms_o [(0, 8)] [(0, 4)] ar_t32 ar_t32 [(0, 180)] [(53, 53)] [(46, 60)] [(1, 8)] [(1, 1)]
def mgh17735 : aw_H := [(81, mgx17734)]
def mgx17736 : aw_A := ms_o [(0, 8)] [(0, 4)] ar_t32 ar_t32 [(0, 180)] [(54, 54)] [(46, 60)] [(1, 8)] [(1, 1)]
def mgh17737 : aw_H := [(81, mgx17736)]
def mgx17738 : aw_A := ms_o [(0, 8)] [(0, 4)] ar_t32 ar_t32 [(0, 180)] [(55, 55)] [(46, 60)] [(1, 8)] [(1, 1)]
def mgh17739 : aw_H := [(81, mgx17738)]
def mgx17740 : aw_A := ms_o [(0, 8)] [(0, 4)] ar_t32 ar_t32 [(0, 180)] [(56, 56)] [(46, 60)] [(1, 8)] [(1, 1)]
def mgh17741 : aw_H := [(81, mgx17740)]
def mgx17742 : aw_A := ms_o [(0, 8)] [(0, 4)] ar_t32 ar_t32 [(0, 180)] [(57, 57)] [(46, 60)] [(1, 8)] [(1, 1)]
def mgh17743 : aw_H := [(81, mgx17742)]
def mgx17744 : aw_A := ms_o [(0, 8)] [(0, 4)] ar_t32 ar_t32 [(0, 180)] [(58, 58)] [(46, 60)] [(1, 8)] [(1, 1)]
def mgh17745 : aw_H := [(81, mgx17744)]
def mgx17746 : aw_A := ms_o [(0, 8)] [(0, 4)] ar_t32 ar_t32 [(0, 180)] [(59, 59)] [(46, 60)] [(1, 8)] [(1, 1)]
def mgh17747 : aw_H := [(81, mgx17746)]
def mgx17748 : aw_A := ms_o [(0, 8)] [(0, 4)] ar_t32 ar_t32 [(0, 180)] [(60, 60)] [(46, 60)] [(1, 8)] [(1, 1)]
def mgh17749 : aw_H := [(81, mgx17748)]
/-- MiceRegistersModel.skip -/
def mgh17750 : aw_H := [(81, mgx17717), (90, .inr (.inl (0, 240, [], [])))]
def mgc1022 : ak_C := (122, [.inl 81], mgh17750, [81], [([], none, mgh17721), ([], none, mgh17723), ([], none, mgh17725), ([], none, mgh17727), ([], none, mgh17729), ([], none, mgh17731), ([], none, mgh17733), ([], none, mgh17735), ([], none, mgh17737), ([], none, mgh17739), ([], none, mgh17741), ([], none, mgh17743), ([], none, mgh17745), ([], none, mgh17747), ([], none, mgh17749)])
/-- MiceRegistersModel.readsLine -/
def mgx17751 : aw_A := ms_o [(0, 8)] [(0, 4)] ar_t32 ar_t32 [(0, 180)] [(43, 43)] [(44, 60)] [(1, 8)] [(1, 1)]
def mgh17752 : aw_H := [(81, mgx17751)]
def mgc1023 : ak_C := (124, [.inl 81], mgh17752, [], [([], some (.inr (false, [(0, 0)])), [])])
theorem mgk1023 : ai_chk [] mgc1023 (fun pc => sm_ch sm_t124 pc, sm_Kn 3 3 none, fun x => sm_lk sm_ca3 x, some .boolean) [] 3 0 [] [] 2000 [] = true := by decide +kernel
/-- MiceRegistersModel.figure -/
def mgc1024 : ak_C := (125, [.inl 81, .inr (false, [(0, 0)]), .inr (false, [(0, 7)])], mgh17356, [81], [([], some (.inr (false, [(-9, -9)])), mgh17323), ([], some (.inr (false, [(0, 7)])), mgh17529)])
/-- MiceRegistersModel.figure -/
def mgc1025 : ak_C := (125, [.inl 81, .inr (false, [(1, 1)]), .inr (false, [(9, 9)])], mgh17560, [81], [([], some (.inr (false, [(-9, -9)])), mgh17529), ([], some (.inr (false, [(1, 9)])), mgh17721)])
def mgh17753 : aw_H := [(81, mgx17751), (94, mgx5052)]
def mgx17754 : aw_A := ms_o [(0, 8)] [(0, 4)] ar_t32 ar_t32 [(0, 180)] [(46, 46)] [(46, 60)] [(1, 8)] [(2, 2)]
def mgh17755 : aw_H := [(81, mgx17754), (94, mgx5820)]
/-- MiceRegistersModel.readsMouse -/
def mgh17756 : aw_H := [(81, mgx17751), (90, .inr (.inl (0, 240, [], []))), (94, mgx5052)]
def mgc1026 : ak_C := (127, [.inl 81], mgh17756, [81, 94], [([], some (.inr (false, [(0, 0)])), mgh17753), ([], some (.inr (false, [(1, 1)])), mgh17755), ([], some (.inr (false, [(0, 0)])), mgh17526), ([], some (.inr (false, [(0, 0)])), mgh17320)])
theorem mgk1026 : ai_chk [mgc36, mgc148, mgc1024, mgc1025] mgc1026 (fun pc => sm_ch sm_t127 pc, sm_Kn 3 5 none, fun x => sm_lk sm_ca3 x, some .boolean) [81, 94] 5 0 [] [] 2000 [] = true := by decide +kernel
def mgh17757 : aw_H := [(81, mgx17754)]
def mgx17758 : aw_A := ms_o [(0, 8)] [(0, 4)] ar_t32 ar_t32 [(0, 180)] [(47, 47)] [(46, 60)] [(1, 8)] [(2, 2)]
def mgh17759 : aw_H := [(81, mgx17758)]
def mgx17760 : aw_A := ms_o [(0, 8)] [(0, 4)] ar_t32 ar_t32 [(0, 180)] [(48, 48)] [(46, 60)] [(1, 8)] [(2, 2)]
def mgh17761 : aw_H := [(81, mgx17760)]
def mgx17762 : aw_A := ms_o [(0, 8)] [(0, 4)] ar_t32 ar_t32 [(0, 180)] [(49, 49)] [(46, 60)] [(1, 8)] [(2, 2)]
def mgh17763 : aw_H := [(81, mgx17762)]
def mgx17764 : aw_A := ms_o [(0, 8)] [(0, 4)] ar_t32 ar_t32 [(0, 180)] [(50, 50)] [(46, 60)] [(1, 8)] [(2, 2)]
def mgh17765 : aw_H := [(81, mgx17764)]
def mgx17766 : aw_A := ms_o [(0, 8)] [(0, 4)] ar_t32 ar_t32 [(0, 180)] [(51, 51)] [(46, 60)] [(1, 8)] [(2, 2)]
def mgh17767 : aw_H := [(81, mgx17766)]
def mgx17768 : aw_A := ms_o [(0, 8)] [(0, 4)] ar_t32 ar_t32 [(0, 180)] [(52, 52)] [(46, 60)] [(1, 8)] [(2, 2)]
def mgh17769 : aw_H := [(81, mgx17768)]
def mgx17770 : aw_A := ms_o [(0, 8)] [(0, 4)] ar_t32 ar_t32 [(0, 180)] [(53, 53)] [(46, 60)] [(1, 8)] [(2, 2)]
def mgh17771 : aw_H := [(81, mgx17770)]
def mgx17772 : aw_A := ms_o [(0, 8)] [(0, 4)] ar_t32 ar_t32 [(0, 180)] [(54, 54)] [(46, 60)] [(1, 8)] [(2, 2)]
def mgh17773 : aw_H := [(81, mgx17772)]
def mgx17774 : aw_A := ms_o [(0, 8)] [(0, 4)] ar_t32 ar_t32 [(0, 180)] [(55, 55)] [(46, 60)] [(1, 8)] [(2, 2)]
def mgh17775 : aw_H := [(81, mgx17774)]
def mgx17776 : aw_A := ms_o [(0, 8)] [(0, 4)] ar_t32 ar_t32 [(0, 180)] [(56, 56)] [(46, 60)] [(1, 8)] [(2, 2)]
def mgh17777 : aw_H := [(81, mgx17776)]
def mgx17778 : aw_A := ms_o [(0, 8)] [(0, 4)] ar_t32 ar_t32 [(0, 180)] [(57, 57)] [(46, 60)] [(1, 8)] [(2, 2)]
def mgh17779 : aw_H := [(81, mgx17778)]
def mgx17780 : aw_A := ms_o [(0, 8)] [(0, 4)] ar_t32 ar_t32 [(0, 180)] [(58, 58)] [(46, 60)] [(1, 8)] [(2, 2)]
def mgh17781 : aw_H := [(81, mgx17780)]
def mgx17782 : aw_A := ms_o [(0, 8)] [(0, 4)] ar_t32 ar_t32 [(0, 180)] [(59, 59)] [(46, 60)] [(1, 8)] [(2, 2)]
def mgh17783 : aw_H := [(81, mgx17782)]
def mgx17784 : aw_A := ms_o [(0, 8)] [(0, 4)] ar_t32 ar_t32 [(0, 180)] [(60, 60)] [(46, 60)] [(1, 8)] [(2, 2)]
def mgh17785 : aw_H := [(81, mgx17784)]
/-- MiceRegistersModel.skip -/
def mgh17786 : aw_H := [(81, mgx17754), (90, .inr (.inl (0, 240, [], [])))]
def mgc1027 : ak_C := (122, [.inl 81], mgh17786, [81], [([], none, mgh17757), ([], none, mgh17759), ([], none, mgh17761), ([], none, mgh17763), ([], none, mgh17765), ([], none, mgh17767), ([], none, mgh17769), ([], none, mgh17771), ([], none, mgh17773), ([], none, mgh17775), ([], none, mgh17777), ([], none, mgh17779), ([], none, mgh17781), ([], none, mgh17783), ([], none, mgh17785)])
/-- MiceRegistersModel.readsLine -/
def mgx17787 : aw_A := ms_o [(0, 8)] [(0, 4)] ar_t32 ar_t32 [(0, 180)] [(43, 43)] [(44, 60)] [(1, 8)] [(2, 2)]
def mgh17788 : aw_H := [(81, mgx17787)]
def mgc1028 : ak_C := (124, [.inl 81], mgh17788, [], [([], some (.inr (false, [(0, 0)])), [])])
theorem mgk1028 : ai_chk [] mgc1028 (fun pc => sm_ch sm_t124 pc, sm_Kn 3 3 none, fun x => sm_lk sm_ca3 x, some .boolean) [] 3 0 [] [] 2000 [] = true := by decide +kernel
/-- MiceRegistersModel.figure -/
def mgc1029 : ak_C := (125, [.inl 81, .inr (false, [(0, 0)]), .inr (false, [(0, 7)])], mgh17396, [81], [([], some (.inr (false, [(-9, -9)])), mgh17363), ([], some (.inr (false, [(0, 7)])), mgh17567)])
/-- MiceRegistersModel.figure -/
def mgc1030 : ak_C := (125, [.inl 81, .inr (false, [(1, 1)]), .inr (false, [(9, 9)])], mgh17598, [81], [([], some (.inr (false, [(-9, -9)])), mgh17567), ([], some (.inr (false, [(1, 9)])), mgh17757)])
def mgh17789 : aw_H := [(81, mgx17787), (94, mgx5820)]
def mgx17790 : aw_A := ms_o [(0, 8)] [(0, 4)] ar_t32 ar_t32 [(0, 180)] [(46, 46)] [(46, 60)] [(1, 8)] [(3, 3)]
def mgh17791 : aw_H := [(81, mgx17790), (94, mgx6868)]
/-- MiceRegistersModel.readsMouse -/
def mgh17792 : aw_H := [(81, mgx17787), (90, .inr (.inl (0, 240, [], []))), (94, mgx5820)]
def mgc1031 : ak_C := (127, [.inl 81], mgh17792, [81, 94], [([], some (.inr (false, [(0, 0)])), mgh17789), ([], some (.inr (false, [(1, 1)])), mgh17791), ([], some (.inr (false, [(0, 0)])), mgh17565), ([], some (.inr (false, [(0, 0)])), mgh17361)])
theorem mgk1031 : ai_chk [mgc36, mgc148, mgc1029, mgc1030] mgc1031 (fun pc => sm_ch sm_t127 pc, sm_Kn 3 5 none, fun x => sm_lk sm_ca3 x, some .boolean) [81, 94] 5 0 [] [] 2000 [] = true := by decide +kernel
def mgh17793 : aw_H := [(81, mgx17790)]
def mgx17794 : aw_A := ms_o [(0, 8)] [(0, 4)] ar_t32 ar_t32 [(0, 180)] [(47, 47)] [(46, 60)] [(1, 8)] [(3, 3)]
def mgh17795 : aw_H := [(81, mgx17794)]
def mgx17796 : aw_A := ms_o [(0, 8)] [(0, 4)] ar_t32 ar_t32 [(0, 180)] [(48, 48)] [(46, 60)] [(1, 8)] [(3, 3)]
def mgh17797 : aw_H := [(81, mgx17796)]
def mgx17798 : aw_A := ms_o [(0, 8)] [(0, 4)] ar_t32 ar_t32 [(0, 180)] [(49, 49)] [(46, 60)] [(1, 8)] [(3, 3)]
def mgh17799 : aw_H := [(81, mgx17798)]
def mgx17800 : aw_A := ms_o [(0, 8)] [(0, 4)] ar_t32 ar_t32 [(0, 180)] [(50, 50)] [(46, 60)] [(1, 8)] [(3, 3)]
def mgh17801 : aw_H := [(81, mgx17800)]
def mgx17802 : aw_A := ms_o [(0, 8)] [(0, 4)] ar_t32 ar_t32 [(0, 180)] [(51, 51)] [(46, 60)] [(1, 8)] [(3, 3)]
def mgh17803 : aw_H := [(81, mgx17802)]
def mgx17804 : aw_A := ms_o [(0, 8)] [(0, 4)] ar_t32 ar_t32 [(0, 180)] [(52, 52)] [(46, 60)] [(1, 8)] [(3, 3)]
def mgh17805 : aw_H := [(81, mgx17804)]
def mgx17806 : aw_A := ms_o [(0, 8)] [(0, 4)] ar_t32 ar_t32 [(0, 180)] [(53, 53)] [(46, 60)] [(1, 8)] [(3, 3)]
def mgh17807 : aw_H := [(81, mgx17806)]
def mgx17808 : aw_A := ms_o [(0, 8)] [(0, 4)] ar_t32 ar_t32 [(0, 180)] [(54, 54)] [(46, 60)] [(1, 8)] [(3, 3)]
def mgh17809 : aw_H := [(81, mgx17808)]
def mgx17810 : aw_A := ms_o [(0, 8)] [(0, 4)] ar_t32 ar_t32 [(0, 180)] [(55, 55)] [(46, 60)] [(1, 8)] [(3, 3)]
def mgh17811 : aw_H := [(81, mgx17810)]
def mgx17812 : aw_A := ms_o [(0, 8)] [(0, 4)] ar_t32 ar_t32 [(0, 180)] [(56, 56)] [(46, 60)] [(1, 8)] [(3, 3)]
def mgh17813 : aw_H := [(81, mgx17812)]
def mgx17814 : aw_A := ms_o [(0, 8)] [(0, 4)] ar_t32 ar_t32 [(0, 180)] [(57, 57)] [(46, 60)] [(1, 8)] [(3, 3)]
def mgh17815 : aw_H := [(81, mgx17814)]
def mgx17816 : aw_A := ms_o [(0, 8)] [(0, 4)] ar_t32 ar_t32 [(0, 180)] [(58, 58)] [(46, 60)] [(1, 8)] [(3, 3)]
def mgh17817 : aw_H := [(81, mgx17816)]
def mgx17818 : aw_A := ms_o [(0, 8)] [(0, 4)] ar_t32 ar_t32 [(0, 180)] [(59, 59)] [(46, 60)] [(1, 8)] [(3, 3)]
def mgh17819 : aw_H := [(81, mgx17818)]
def mgx17820 : aw_A := ms_o [(0, 8)] [(0, 4)] ar_t32 ar_t32 [(0, 180)] [(60, 60)] [(46, 60)] [(1, 8)] [(3, 3)]
def mgh17821 : aw_H := [(81, mgx17820)]
/-- MiceRegistersModel.skip -/
def mgh17822 : aw_H := [(81, mgx17790), (90, .inr (.inl (0, 240, [], [])))]
def mgc1032 : ak_C := (122, [.inl 81], mgh17822, [81], [([], none, mgh17793), ([], none, mgh17795), ([], none, mgh17797), ([], none, mgh17799), ([], none, mgh17801), ([], none, mgh17803), ([], none, mgh17805), ([], none, mgh17807), ([], none, mgh17809), ([], none, mgh17811), ([], none, mgh17813), ([], none, mgh17815), ([], none, mgh17817), ([], none, mgh17819), ([], none, mgh17821)])
/-- MiceRegistersModel.readsLine -/
def mgx17823 : aw_A := ms_o [(0, 8)] [(0, 4)] ar_t32 ar_t32 [(0, 180)] [(43, 43)] [(44, 60)] [(1, 8)] [(3, 3)]
def mgh17824 : aw_H := [(81, mgx17823)]
def mgc1033 : ak_C := (124, [.inl 81], mgh17824, [], [([], some (.inr (false, [(0, 0)])), [])])
theorem mgk1033 : ai_chk [] mgc1033 (fun pc => sm_ch sm_t124 pc, sm_Kn 3 3 none, fun x => sm_lk sm_ca3 x, some .boolean) [] 3 0 [] [] 2000 [] = true := by decide +kernel
/-- MiceRegistersModel.figure -/
def mgc1034 : ak_C := (125, [.inl 81, .inr (false, [(0, 0)]), .inr (false, [(0, 7)])], mgh17436, [81], [([], some (.inr (false, [(-9, -9)])), mgh17403), ([], some (.inr (false, [(0, 7)])), mgh17605)])
/-- MiceRegistersModel.figure -/
def mgc1035 : ak_C := (125, [.inl 81, .inr (false, [(1, 1)]), .inr (false, [(9, 9)])], mgh17636, [81], [([], some (.inr (false, [(-9, -9)])), mgh17605), ([], some (.inr (false, [(1, 9)])), mgh17793)])
def mgh17825 : aw_H := [(81, mgx17823), (94, mgx6868)]
def mgx17826 : aw_A := ms_o [(0, 8)] [(0, 4)] ar_t32 ar_t32 [(0, 180)] [(46, 46)] [(46, 60)] [(1, 8)] [(4, 4)]
def mgh17827 : aw_H := [(81, mgx17826), (94, mgx8150)]
/-- MiceRegistersModel.readsMouse -/
def mgh17828 : aw_H := [(81, mgx17823), (90, .inr (.inl (0, 240, [], []))), (94, mgx6868)]
def mgc1036 : ak_C := (127, [.inl 81], mgh17828, [81, 94], [([], some (.inr (false, [(0, 0)])), mgh17825), ([], some (.inr (false, [(1, 1)])), mgh17827), ([], some (.inr (false, [(0, 0)])), mgh17603), ([], some (.inr (false, [(0, 0)])), mgh17401)])
theorem mgk1036 : ai_chk [mgc36, mgc148, mgc1034, mgc1035] mgc1036 (fun pc => sm_ch sm_t127 pc, sm_Kn 3 5 none, fun x => sm_lk sm_ca3 x, some .boolean) [81, 94] 5 0 [] [] 2000 [] = true := by decide +kernel
def mgh17829 : aw_H := [(81, mgx17826)]
def mgx17830 : aw_A := ms_o [(0, 8)] [(0, 4)] ar_t32 ar_t32 [(0, 180)] [(47, 47)] [(46, 60)] [(1, 8)] [(4, 4)]
def mgh17831 : aw_H := [(81, mgx17830)]
def mgx17832 : aw_A := ms_o [(0, 8)] [(0, 4)] ar_t32 ar_t32 [(0, 180)] [(48, 48)] [(46, 60)] [(1, 8)] [(4, 4)]
def mgh17833 : aw_H := [(81, mgx17832)]
def mgx17834 : aw_A := ms_o [(0, 8)] [(0, 4)] ar_t32 ar_t32 [(0, 180)] [(49, 49)] [(46, 60)] [(1, 8)] [(4, 4)]
def mgh17835 : aw_H := [(81, mgx17834)]
def mgx17836 : aw_A := ms_o [(0, 8)] [(0, 4)] ar_t32 ar_t32 [(0, 180)] [(50, 50)] [(46, 60)] [(1, 8)] [(4, 4)]
def mgh17837 : aw_H := [(81, mgx17836)]
def mgx17838 : aw_A := ms_o [(0, 8)] [(0, 4)] ar_t32 ar_t32 [(0, 180)] [(51, 51)] [(46, 60)] [(1, 8)] [(4, 4)]
def mgh17839 : aw_H := [(81, mgx17838)]
def mgx17840 : aw_A := ms_o [(0, 8)] [(0, 4)] ar_t32 ar_t32 [(0, 180)] [(52, 52)] [(46, 60)] [(1, 8)] [(4, 4)]
def mgh17841 : aw_H := [(81, mgx17840)]
def mgx17842 : aw_A := ms_o [(0, 8)] [(0, 4)] ar_t32 ar_t32 [(0, 180)] [(53, 53)] [(46, 60)] [(1, 8)] [(4, 4)]
def mgh17843 : aw_H := [(81, mgx17842)]
def mgx17844 : aw_A := ms_o [(0, 8)] [(0, 4)] ar_t32 ar_t32 [(0, 180)] [(54, 54)] [(46, 60)] [(1, 8)] [(4, 4)]
def mgh17845 : aw_H := [(81, mgx17844)]
def mgx17846 : aw_A := ms_o [(0, 8)] [(0, 4)] ar_t32 ar_t32 [(0, 180)] [(55, 55)] [(46, 60)] [(1, 8)] [(4, 4)]
def mgh17847 : aw_H := [(81, mgx17846)]
def mgx17848 : aw_A := ms_o [(0, 8)] [(0, 4)] ar_t32 ar_t32 [(0, 180)] [(56, 56)] [(46, 60)] [(1, 8)] [(4, 4)]
def mgh17849 : aw_H := [(81, mgx17848)]
def mgx17850 : aw_A := ms_o [(0, 8)] [(0, 4)] ar_t32 ar_t32 [(0, 180)] [(57, 57)] [(46, 60)] [(1, 8)] [(4, 4)]
def mgh17851 : aw_H := [(81, mgx17850)]
def mgx17852 : aw_A := ms_o [(0, 8)] [(0, 4)] ar_t32 ar_t32 [(0, 180)] [(58, 58)] [(46, 60)] [(1, 8)] [(4, 4)]
def mgh17853 : aw_H := [(81, mgx17852)]
def mgx17854 : aw_A := ms_o [(0, 8)] [(0, 4)] ar_t32 ar_t32 [(0, 180)] [(59, 59)] [(46, 60)] [(1, 8)] [(4, 4)]
def mgh17855 : aw_H := [(81, mgx17854)]
def mgx17856 : aw_A := ms_o [(0, 8)] [(0, 4)] ar_t32 ar_t32 [(0, 180)] [(60, 60)] [(46, 60)] [(1, 8)] [(4, 4)]
def mgh17857 : aw_H := [(81, mgx17856)]
/-- MiceRegistersModel.skip -/
def mgh17858 : aw_H := [(81, mgx17826), (90, .inr (.inl (0, 240, [], [])))]
def mgc1037 : ak_C := (122, [.inl 81], mgh17858, [81], [([], none, mgh17829), ([], none, mgh17831), ([], none, mgh17833), ([], none, mgh17835), ([], none, mgh17837), ([], none, mgh17839), ([], none, mgh17841), ([], none, mgh17843), ([], none, mgh17845), ([], none, mgh17847), ([], none, mgh17849), ([], none, mgh17851), ([], none, mgh17853), ([], none, mgh17855), ([], none, mgh17857)])
/-- MiceRegistersModel.readsLine -/
def mgx17859 : aw_A := ms_o [(0, 8)] [(0, 4)] ar_t32 ar_t32 [(0, 180)] [(43, 43)] [(44, 60)] [(1, 7)] [(4, 4)]
def mgh17860 : aw_H := [(81, mgx17859)]
def mgc1038 : ak_C := (124, [.inl 81], mgh17860, [], [([], some (.inr (false, [(0, 0)])), [])])
theorem mgk1038 : ai_chk [] mgc1038 (fun pc => sm_ch sm_t124 pc, sm_Kn 3 3 none, fun x => sm_lk sm_ca3 x, some .boolean) [] 3 0 [] [] 2000 [] = true := by decide +kernel
/-- MiceRegistersModel.readsMouse -/
def mgh17861 : aw_H := [(81, mgx17859), (90, .inr (.inl (0, 240, [], [])))]
def mgc1039 : ak_C := (127, [.inl 81], mgh17861, [], [([], some (.inr (false, [(0, 0)])), [])])
theorem mgk1039 : ai_chk [mgc36, mgc148] mgc1039 (fun pc => sm_ch sm_t127 pc, sm_Kn 3 5 none, fun x => sm_lk sm_ca3 x, some .boolean) [] 5 0 [] [] 2000 [] = true := by decide +kernel
def mgx17862 : aw_A := ms_o [(0, 8)] [(0, 4)] ar_t32 ar_t32 [(0, 180)] [(48, 48)] [(48, 60)] [(0, 7)] [(0, 0)]
def mgh17863 : aw_H := [(81, mgx17862)]
/-- MiceRegistersModel.figure -/
def mgh17864 : aw_H := [(81, mgx17678), (90, .inr (.inl (0, 240, [], [])))]
def mgc1040 : ak_C := (125, [.inl 81, .inr (false, [(0, 0)]), .inr (false, [(9, 9)])], mgh17864, [81], [([], some (.inr (false, [(-9, -9)])), mgh17679), ([], some (.inr (false, [(0, 9)])), mgh17863)])
/-- MiceRegistersModel.twoFigures -/
def mgc1041 : ak_C := (126, [.inl 81, .inr (false, [(1, 1)]), .inr (false, [(40, 40)])], mgh17680, [81], [([], some (.inr (false, [(-9, -9)])), mgh17485), ([], some (.inr (false, [(0, 99)])), mgh17863), ([], some (.inr (false, [(-9, -9)])), mgh17679)])
theorem mgk1041 : ai_chk [mgc1015, mgc1040, mgc144] mgc1041 (fun pc => sm_ch sm_t126 pc, sm_Kn 3 6 none, fun x => sm_lk sm_ca3 x, some .int) [81] 6 0 [] [] 2000 [] = true := by decide +kernel
def mgh17865 : aw_H := [(81, mgx17678), (92, .inr (.inl (0, 8, [], []))), (93, .inr (.inl (0, 8, [], [])))]
def mgx17866 : aw_A := ms_o [(0, 8)] [(0, 4)] ar_t32 ar_t32 [(0, 180)] [(48, 48)] [(48, 60)] [(1, 8)] [(0, 0)]
def mgh17867 : aw_H := [(81, mgx17866), (92, .inr (.inl (0, 8, [], []))), (93, .inr (.inl (0, 8, [], [])))]
def mgx17868 : aw_A := ms_o [(0, 8)] [(0, 4)] ar_t32 ar_t32 [(0, 180)] [(44, 44)] [(45, 60)] [(8, 8)] [(0, 0)]
def mgh17869 : aw_H := [(81, mgx17868), (92, .inr (.inl (0, 8, [], []))), (93, .inr (.inl (0, 8, [], [])))]
/-- MiceRegistersModel.readsLine -/
def mgx17870 : aw_A := ms_o [(0, 8)] [(0, 4)] ar_t32 ar_t32 [(0, 180)] [(44, 44)] [(45, 60)] [(0, 8)] [(0, 0)]
def mgh17871 : aw_H := [(81, mgx17870), (90, .inr (.inl (0, 240, [], []))), (92, .inr (.inl (0, 8, [], []))), (93, .inr (.inl (0, 8, [], [])))]
def mgc1042 : ak_C := (124, [.inl 81], mgh17871, [81, 92, 93], [([], some (.inr (false, [(0, 0)])), mgh17865), ([], some (.inr (false, [(1, 1)])), mgh17867), ([], some (.inr (false, [(0, 0)])), mgh17681), ([], some (.inr (false, [(0, 0)])), mgh17487), ([], some (.inr (false, [(0, 0)])), mgh17869)])
theorem mgk1042 : ai_chk [mgc990, mgc1041] mgc1042 (fun pc => sm_ch sm_t124 pc, sm_Kn 3 3 none, fun x => sm_lk sm_ca3 x, some .boolean) [81, 92, 93] 3 0 [] [] 2000 [] = true := by decide +kernel
def mgh17872 : aw_H := [(81, mgx17866)]
def mgx17873 : aw_A := ms_o [(0, 8)] [(0, 4)] ar_t32 ar_t32 [(0, 180)] [(49, 49)] [(48, 60)] [(1, 8)] [(0, 0)]
def mgh17874 : aw_H := [(81, mgx17873)]
def mgx17875 : aw_A := ms_o [(0, 8)] [(0, 4)] ar_t32 ar_t32 [(0, 180)] [(50, 50)] [(48, 60)] [(1, 8)] [(0, 0)]
def mgh17876 : aw_H := [(81, mgx17875)]
def mgx17877 : aw_A := ms_o [(0, 8)] [(0, 4)] ar_t32 ar_t32 [(0, 180)] [(51, 51)] [(48, 60)] [(1, 8)] [(0, 0)]
def mgh17878 : aw_H := [(81, mgx17877)]
def mgx17879 : aw_A := ms_o [(0, 8)] [(0, 4)] ar_t32 ar_t32 [(0, 180)] [(52, 52)] [(48, 60)] [(1, 8)] [(0, 0)]
def mgh17880 : aw_H := [(81, mgx17879)]
def mgx17881 : aw_A := ms_o [(0, 8)] [(0, 4)] ar_t32 ar_t32 [(0, 180)] [(53, 53)] [(48, 60)] [(1, 8)] [(0, 0)]
def mgh17882 : aw_H := [(81, mgx17881)]
def mgx17883 : aw_A := ms_o [(0, 8)] [(0, 4)] ar_t32 ar_t32 [(0, 180)] [(54, 54)] [(48, 60)] [(1, 8)] [(0, 0)]
def mgh17884 : aw_H := [(81, mgx17883)]
def mgx17885 : aw_A := ms_o [(0, 8)] [(0, 4)] ar_t32 ar_t32 [(0, 180)] [(55, 55)] [(48, 60)] [(1, 8)] [(0, 0)]
def mgh17886 : aw_H := [(81, mgx17885)]
def mgx17887 : aw_A := ms_o [(0, 8)] [(0, 4)] ar_t32 ar_t32 [(0, 180)] [(56, 56)] [(48, 60)] [(1, 8)] [(0, 0)]
def mgh17888 : aw_H := [(81, mgx17887)]
def mgx17889 : aw_A := ms_o [(0, 8)] [(0, 4)] ar_t32 ar_t32 [(0, 180)] [(57, 57)] [(48, 60)] [(1, 8)] [(0, 0)]
def mgh17890 : aw_H := [(81, mgx17889)]
def mgx17891 : aw_A := ms_o [(0, 8)] [(0, 4)] ar_t32 ar_t32 [(0, 180)] [(58, 58)] [(48, 60)] [(1, 8)] [(0, 0)]
def mgh17892 : aw_H := [(81, mgx17891)]
def mgx17893 : aw_A := ms_o [(0, 8)] [(0, 4)] ar_t32 ar_t32 [(0, 180)] [(59, 59)] [(48, 60)] [(1, 8)] [(0, 0)]
def mgh17894 : aw_H := [(81, mgx17893)]
def mgx17895 : aw_A := ms_o [(0, 8)] [(0, 4)] ar_t32 ar_t32 [(0, 180)] [(60, 60)] [(48, 60)] [(1, 8)] [(0, 0)]
def mgh17896 : aw_H := [(81, mgx17895)]
/-- MiceRegistersModel.skip -/
def mgh17897 : aw_H := [(81, mgx17866), (90, .inr (.inl (0, 240, [], [])))]
def mgc1043 : ak_C := (122, [.inl 81], mgh17897, [81], [([], none, mgh17872), ([], none, mgh17874), ([], none, mgh17876), ([], none, mgh17878), ([], none, mgh17880), ([], none, mgh17882), ([], none, mgh17884), ([], none, mgh17886), ([], none, mgh17888), ([], none, mgh17890), ([], none, mgh17892), ([], none, mgh17894), ([], none, mgh17896)])
/-- MiceRegistersModel.figure -/
def mgc1044 : ak_C := (125, [.inl 81, .inr (false, [(0, 0)]), .inr (false, [(0, 7)])], mgh17317, [81], [([], some (.inr (false, [(-9, -9)])), mgh17286), ([], some (.inr (false, [(0, 7)])), mgh17494)])
/-- MiceRegistersModel.figure -/
def mgc1045 : ak_C := (125, [.inl 81, .inr (false, [(1, 1)]), .inr (false, [(9, 9)])], mgh17523, [81], [([], some (.inr (false, [(-9, -9)])), mgh17494), ([], some (.inr (false, [(1, 9)])), mgh17688)])
def mgh17898 : aw_H := [(81, mgx17870), (94, mgx5049)]
def mgx17899 : aw_A := ms_o [(0, 8)] [(0, 4)] ar_t32 ar_t32 [(0, 180)] [(47, 47)] [(47, 60)] [(1, 8)] [(1, 1)]
def mgh17900 : aw_H := [(81, mgx17899), (94, mgx5052)]
def mgh17901 : aw_H := [(81, mgx17488), (94, mgx5049)]
/-- MiceRegistersModel.readsMouse -/
def mgh17902 : aw_H := [(81, mgx17870), (90, .inr (.inl (0, 240, [], []))), (94, mgx5049)]
def mgc1046 : ak_C := (127, [.inl 81], mgh17902, [81, 94], [([], some (.inr (false, [(0, 0)])), mgh17898), ([], some (.inr (false, [(1, 1)])), mgh17900), ([], some (.inr (false, [(0, 0)])), mgh17901), ([], some (.inr (false, [(0, 0)])), mgh17719)])
theorem mgk1046 : ai_chk [mgc35, mgc148, mgc1044, mgc1045] mgc1046 (fun pc => sm_ch sm_t127 pc, sm_Kn 3 5 none, fun x => sm_lk sm_ca3 x, some .boolean) [81, 94] 5 0 [] [] 2000 [] = true := by decide +kernel
def mgh17903 : aw_H := [(81, mgx17899)]
def mgx17904 : aw_A := ms_o [(0, 8)] [(0, 4)] ar_t32 ar_t32 [(0, 180)] [(48, 48)] [(47, 60)] [(1, 8)] [(1, 1)]
def mgh17905 : aw_H := [(81, mgx17904)]
def mgx17906 : aw_A := ms_o [(0, 8)] [(0, 4)] ar_t32 ar_t32 [(0, 180)] [(49, 49)] [(47, 60)] [(1, 8)] [(1, 1)]
def mgh17907 : aw_H := [(81, mgx17906)]
def mgx17908 : aw_A := ms_o [(0, 8)] [(0, 4)] ar_t32 ar_t32 [(0, 180)] [(50, 50)] [(47, 60)] [(1, 8)] [(1, 1)]
def mgh17909 : aw_H := [(81, mgx17908)]
def mgx17910 : aw_A := ms_o [(0, 8)] [(0, 4)] ar_t32 ar_t32 [(0, 180)] [(51, 51)] [(47, 60)] [(1, 8)] [(1, 1)]
def mgh17911 : aw_H := [(81, mgx17910)]
def mgx17912 : aw_A := ms_o [(0, 8)] [(0, 4)] ar_t32 ar_t32 [(0, 180)] [(52, 52)] [(47, 60)] [(1, 8)] [(1, 1)]
def mgh17913 : aw_H := [(81, mgx17912)]
def mgx17914 : aw_A := ms_o [(0, 8)] [(0, 4)] ar_t32 ar_t32 [(0, 180)] [(53, 53)] [(47, 60)] [(1, 8)] [(1, 1)]
def mgh17915 : aw_H := [(81, mgx17914)]
def mgx17916 : aw_A := ms_o [(0, 8)] [(0, 4)] ar_t32 ar_t32 [(0, 180)] [(54, 54)] [(47, 60)] [(1, 8)] [(1, 1)]
def mgh17917 : aw_H := [(81, mgx17916)]
def mgx17918 : aw_A := ms_o [(0, 8)] [(0, 4)] ar_t32 ar_t32 [(0, 180)] [(55, 55)] [(47, 60)] [(1, 8)] [(1, 1)]
def mgh17919 : aw_H := [(81, mgx17918)]
def mgx17920 : aw_A := ms_o [(0, 8)] [(0, 4)] ar_t32 ar_t32 [(0, 180)] [(56, 56)] [(47, 60)] [(1, 8)] [(1, 1)]
def mgh17921 : aw_H := [(81, mgx17920)]
def mgx17922 : aw_A := ms_o [(0, 8)] [(0, 4)] ar_t32 ar_t32 [(0, 180)] [(57, 57)] [(47, 60)] [(1, 8)] [(1, 1)]
def mgh17923 : aw_H := [(81, mgx17922)]
def mgx17924 : aw_A := ms_o [(0, 8)] [(0, 4)] ar_t32 ar_t32 [(0, 180)] [(58, 58)] [(47, 60)] [(1, 8)] [(1, 1)]
def mgh17925 : aw_H := [(81, mgx17924)]
def mgx17926 : aw_A := ms_o [(0, 8)] [(0, 4)] ar_t32 ar_t32 [(0, 180)] [(59, 59)] [(47, 60)] [(1, 8)] [(1, 1)]
def mgh17927 : aw_H := [(81, mgx17926)]
def mgx17928 : aw_A := ms_o [(0, 8)] [(0, 4)] ar_t32 ar_t32 [(0, 180)] [(60, 60)] [(47, 60)] [(1, 8)] [(1, 1)]
def mgh17929 : aw_H := [(81, mgx17928)]
/-- MiceRegistersModel.skip -/
def mgh17930 : aw_H := [(81, mgx17899), (90, .inr (.inl (0, 240, [], [])))]
def mgc1047 : ak_C := (122, [.inl 81], mgh17930, [81], [([], none, mgh17903), ([], none, mgh17905), ([], none, mgh17907), ([], none, mgh17909), ([], none, mgh17911), ([], none, mgh17913), ([], none, mgh17915), ([], none, mgh17917), ([], none, mgh17919), ([], none, mgh17921), ([], none, mgh17923), ([], none, mgh17925), ([], none, mgh17927), ([], none, mgh17929)])
/-- MiceRegistersModel.readsLine -/
def mgx17931 : aw_A := ms_o [(0, 8)] [(0, 4)] ar_t32 ar_t32 [(0, 180)] [(44, 44)] [(45, 60)] [(1, 8)] [(1, 1)]
def mgh17932 : aw_H := [(81, mgx17931)]
def mgc1048 : ak_C := (124, [.inl 81], mgh17932, [], [([], some (.inr (false, [(0, 0)])), [])])
theorem mgk1048 : ai_chk [] mgc1048 (fun pc => sm_ch sm_t124 pc, sm_Kn 3 3 none, fun x => sm_lk sm_ca3 x, some .boolean) [] 3 0 [] [] 2000 [] = true := by decide +kernel
/-- MiceRegistersModel.figure -/
def mgc1049 : ak_C := (125, [.inl 81, .inr (false, [(0, 0)]), .inr (false, [(0, 7)])], mgh17560, [81], [([], some (.inr (false, [(-9, -9)])), mgh17529), ([], some (.inr (false, [(0, 7)])), mgh17721)])
/-- MiceRegistersModel.figure -/
def mgc1050 : ak_C := (125, [.inl 81, .inr (false, [(1, 1)]), .inr (false, [(9, 9)])], mgh17750, [81], [([], some (.inr (false, [(-9, -9)])), mgh17721), ([], some (.inr (false, [(1, 9)])), mgh17903)])
def mgh17933 : aw_H := [(81, mgx17931), (94, mgx5052)]
def mgx17934 : aw_A := ms_o [(0, 8)] [(0, 4)] ar_t32 ar_t32 [(0, 180)] [(47, 47)] [(47, 60)] [(1, 8)] [(2, 2)]
def mgh17935 : aw_H := [(81, mgx17934), (94, mgx5820)]
/-- MiceRegistersModel.readsMouse -/
def mgh17936 : aw_H := [(81, mgx17931), (90, .inr (.inl (0, 240, [], []))), (94, mgx5052)]
def mgc1051 : ak_C := (127, [.inl 81], mgh17936, [81, 94], [([], some (.inr (false, [(0, 0)])), mgh17933), ([], some (.inr (false, [(1, 1)])), mgh17935), ([], some (.inr (false, [(0, 0)])), mgh17718), ([], some (.inr (false, [(0, 0)])), mgh17526)])
theorem mgk1051 : ai_chk [mgc35, mgc148, mgc1049, mgc1050] mgc1051 (fun pc => sm_ch sm_t127 pc, sm_Kn 3 5 none, fun x => sm_lk sm_ca3 x, some .boolean) [81, 94] 5 0 [] [] 2000 [] = true := by decide +kernel
def mgh17937 : aw_H := [(81, mgx17934)]
def mgx17938 : aw_A := ms_o [(0, 8)] [(0, 4)] ar_t32 ar_t32 [(0, 180)] [(48, 48)] [(47, 60)] [(1, 8)] [(2, 2)]
def mgh17939 : aw_H := [(81, mgx17938)]
def mgx17940 : aw_A := ms_o [(0, 8)] [(0, 4)] ar_t32 ar_t32 [(0, 180)] [(49, 49)] [(47, 60)] [(1, 8)] [(2, 2)]
def mgh17941 : aw_H := [(81, mgx17940)]
def mgx17942 : aw_A := ms_o [(0, 8)] [(0, 4)] ar_t32 ar_t32 [(0, 180)] [(50, 50)] [(47, 60)] [(1, 8)] [(2, 2)]
def mgh17943 : aw_H := [(81, mgx17942)]
def mgx17944 : aw_A := ms_o [(0, 8)] [(0, 4)] ar_t32 ar_t32 [(0, 180)] [(51, 51)] [(47, 60)] [(1, 8)] [(2, 2)]
def mgh17945 : aw_H := [(81, mgx17944)]
def mgx17946 : aw_A := ms_o [(0, 8)] [(0, 4)] ar_t32 ar_t32 [(0, 180)] [(52, 52)] [(47, 60)] [(1, 8)] [(2, 2)]
def mgh17947 : aw_H := [(81, mgx17946)]
def mgx17948 : aw_A := ms_o [(0, 8)] [(0, 4)] ar_t32 ar_t32 [(0, 180)] [(53, 53)] [(47, 60)] [(1, 8)] [(2, 2)]
def mgh17949 : aw_H := [(81, mgx17948)]
def mgx17950 : aw_A := ms_o [(0, 8)] [(0, 4)] ar_t32 ar_t32 [(0, 180)] [(54, 54)] [(47, 60)] [(1, 8)] [(2, 2)]
def mgh17951 : aw_H := [(81, mgx17950)]
def mgx17952 : aw_A := ms_o [(0, 8)] [(0, 4)] ar_t32 ar_t32 [(0, 180)] [(55, 55)] [(47, 60)] [(1, 8)] [(2, 2)]
def mgh17953 : aw_H := [(81, mgx17952)]
def mgx17954 : aw_A := ms_o [(0, 8)] [(0, 4)] ar_t32 ar_t32 [(0, 180)] [(56, 56)] [(47, 60)] [(1, 8)] [(2, 2)]
def mgh17955 : aw_H := [(81, mgx17954)]
def mgx17956 : aw_A := ms_o [(0, 8)] [(0, 4)] ar_t32 ar_t32 [(0, 180)] [(57, 57)] [(47, 60)] [(1, 8)] [(2, 2)]
def mgh17957 : aw_H := [(81, mgx17956)]
def mgx17958 : aw_A := ms_o [(0, 8)] [(0, 4)] ar_t32 ar_t32 [(0, 180)] [(58, 58)] [(47, 60)] [(1, 8)] [(2, 2)]
def mgh17959 : aw_H := [(81, mgx17958)]
def mgx17960 : aw_A := ms_o [(0, 8)] [(0, 4)] ar_t32 ar_t32 [(0, 180)] [(59, 59)] [(47, 60)] [(1, 8)] [(2, 2)]
def mgh17961 : aw_H := [(81, mgx17960)]
def mgx17962 : aw_A := ms_o [(0, 8)] [(0, 4)] ar_t32 ar_t32 [(0, 180)] [(60, 60)] [(47, 60)] [(1, 8)] [(2, 2)]
def mgh17963 : aw_H := [(81, mgx17962)]
/-- MiceRegistersModel.skip -/
def mgh17964 : aw_H := [(81, mgx17934), (90, .inr (.inl (0, 240, [], [])))]
def mgc1052 : ak_C := (122, [.inl 81], mgh17964, [81], [([], none, mgh17937), ([], none, mgh17939), ([], none, mgh17941), ([], none, mgh17943), ([], none, mgh17945), ([], none, mgh17947), ([], none, mgh17949), ([], none, mgh17951), ([], none, mgh17953), ([], none, mgh17955), ([], none, mgh17957), ([], none, mgh17959), ([], none, mgh17961), ([], none, mgh17963)])
/-- MiceRegistersModel.readsLine -/
def mgx17965 : aw_A := ms_o [(0, 8)] [(0, 4)] ar_t32 ar_t32 [(0, 180)] [(44, 44)] [(45, 60)] [(1, 8)] [(2, 2)]
def mgh17966 : aw_H := [(81, mgx17965)]
def mgc1053 : ak_C := (124, [.inl 81], mgh17966, [], [([], some (.inr (false, [(0, 0)])), [])])
theorem mgk1053 : ai_chk [] mgc1053 (fun pc => sm_ch sm_t124 pc, sm_Kn 3 3 none, fun x => sm_lk sm_ca3 x, some .boolean) [] 3 0 [] [] 2000 [] = true := by decide +kernel
/-- MiceRegistersModel.figure -/
def mgc1054 : ak_C := (125, [.inl 81, .inr (false, [(0, 0)]), .inr (false, [(0, 7)])], mgh17598, [81], [([], some (.inr (false, [(-9, -9)])), mgh17567), ([], some (.inr (false, [(0, 7)])), mgh17757)])
/-- MiceRegistersModel.figure -/
def mgc1055 : ak_C := (125, [.inl 81, .inr (false, [(1, 1)]), .inr (false, [(9, 9)])], mgh17786, [81], [([], some (.inr (false, [(-9, -9)])), mgh17757), ([], some (.inr (false, [(1, 9)])), mgh17937)])
def mgh17967 : aw_H := [(81, mgx17965), (94, mgx5820)]
def mgx17968 : aw_A := ms_o [(0, 8)] [(0, 4)] ar_t32 ar_t32 [(0, 180)] [(47, 47)] [(47, 60)] [(1, 8)] [(3, 3)]
def mgh17969 : aw_H := [(81, mgx17968), (94, mgx6868)]
/-- MiceRegistersModel.readsMouse -/
def mgh17970 : aw_H := [(81, mgx17965), (90, .inr (.inl (0, 240, [], []))), (94, mgx5820)]
def mgc1056 : ak_C := (127, [.inl 81], mgh17970, [81, 94], [([], some (.inr (false, [(0, 0)])), mgh17967), ([], some (.inr (false, [(1, 1)])), mgh17969), ([], some (.inr (false, [(0, 0)])), mgh17755), ([], some (.inr (false, [(0, 0)])), mgh17565)])
theorem mgk1056 : ai_chk [mgc35, mgc148, mgc1054, mgc1055] mgc1056 (fun pc => sm_ch sm_t127 pc, sm_Kn 3 5 none, fun x => sm_lk sm_ca3 x, some .boolean) [81, 94] 5 0 [] [] 2000 [] = true := by decide +kernel
def mgh17971 : aw_H := [(81, mgx17968)]
def mgx17972 : aw_A := ms_o [(0, 8)] [(0, 4)] ar_t32 ar_t32 [(0, 180)] [(48, 48)] [(47, 60)] [(1, 8)] [(3, 3)]
def mgh17973 : aw_H := [(81, mgx17972)]
def mgx17974 : aw_A := ms_o [(0, 8)] [(0, 4)] ar_t32 ar_t32 [(0, 180)] [(49, 49)] [(47, 60)] [(1, 8)] [(3, 3)]
def mgh17975 : aw_H := [(81, mgx17974)]
def mgx17976 : aw_A := ms_o [(0, 8)] [(0, 4)] ar_t32 ar_t32 [(0, 180)] [(50, 50)] [(47, 60)] [(1, 8)] [(3, 3)]
def mgh17977 : aw_H := [(81, mgx17976)]
def mgx17978 : aw_A := ms_o [(0, 8)] [(0, 4)] ar_t32 ar_t32 [(0, 180)] [(51, 51)] [(47, 60)] [(1, 8)] [(3, 3)]
def mgh17979 : aw_H := [(81, mgx17978)]
def mgx17980 : aw_A := ms_o [(0, 8)] [(0, 4)] ar_t32 ar_t32 [(0, 180)] [(52, 52)] [(47, 60)] [(1, 8)] [(3, 3)]
def mgh17981 : aw_H := [(81, mgx17980)]
def mgx17982 : aw_A := ms_o [(0, 8)] [(0, 4)] ar_t32 ar_t32 [(0, 180)] [(53, 53)] [(47, 60)] [(1, 8)] [(3, 3)]
def mgh17983 : aw_H := [(81, mgx17982)]
def mgx17984 : aw_A := ms_o [(0, 8)] [(0, 4)] ar_t32 ar_t32 [(0, 180)] [(54, 54)] [(47, 60)] [(1, 8)] [(3, 3)]
def mgh17985 : aw_H := [(81, mgx17984)]
def mgx17986 : aw_A := ms_o [(0, 8)] [(0, 4)] ar_t32 ar_t32 [(0, 180)] [(55, 55)] [(47, 60)] [(1, 8)] [(3, 3)]
def mgh17987 : aw_H := [(81, mgx17986)]
def mgx17988 : aw_A := ms_o [(0, 8)] [(0, 4)] ar_t32 ar_t32 [(0, 180)] [(56, 56)] [(47, 60)] [(1, 8)] [(3, 3)]
def mgh17989 : aw_H := [(81, mgx17988)]
def mgx17990 : aw_A := ms_o [(0, 8)] [(0, 4)] ar_t32 ar_t32 [(0, 180)] [(57, 57)] [(47, 60)] [(1, 8)] [(3, 3)]
def mgh17991 : aw_H := [(81, mgx17990)]
def mgx17992 : aw_A := ms_o [(0, 8)] [(0, 4)] ar_t32 ar_t32 [(0, 180)] [(58, 58)] [(47, 60)] [(1, 8)] [(3, 3)]
def mgh17993 : aw_H := [(81, mgx17992)]
def mgx17994 : aw_A := ms_o [(0, 8)] [(0, 4)] ar_t32 ar_t32 [(0, 180)] [(59, 59)] [(47, 60)] [(1, 8)] [(3, 3)]
def mgh17995 : aw_H := [(81, mgx17994)]
def mgx17996 : aw_A := ms_o [(0, 8)] [(0, 4)] ar_t32 ar_t32 [(0, 180)] [(60, 60)] [(47, 60)] [(1, 8)] [(3, 3)]
def mgh17997 : aw_H := [(81, mgx17996)]
/-- MiceRegistersModel.skip -/
def mgh17998 : aw_H := [(81, mgx17968), (90, .inr (.inl (0, 240, [], [])))]
def mgc1057 : ak_C := (122, [.inl 81], mgh17998, [81], [([], none, mgh17971), ([], none, mgh17973), ([], none, mgh17975), ([], none, mgh17977), ([], none, mgh17979), ([], none, mgh17981), ([], none, mgh17983), ([], none, mgh17985), ([], none, mgh17987), ([], none, mgh17989), ([], none, mgh17991), ([], none, mgh17993), ([], none, mgh17995), ([], none, mgh17997)])
/-- MiceRegistersModel.readsLine -/
def mgx17999 : aw_A := ms_o [(0, 8)] [(0, 4)] ar_t32 ar_t32 [(0, 180)] [(44, 44)] [(45, 60)] [(1, 8)] [(3, 3)]
def mgh18000 : aw_H := [(81, mgx17999)]
def mgc1058 : ak_C := (124, [.inl 81], mgh18000, [], [([], some (.inr (false, [(0, 0)])), [])])
theorem mgk1058 : ai_chk [] mgc1058 (fun pc => sm_ch sm_t124 pc, sm_Kn 3 3 none, fun x => sm_lk sm_ca3 x, some .boolean) [] 3 0 [] [] 2000 [] = true := by decide +kernel
/-- MiceRegistersModel.figure -/
def mgc1059 : ak_C := (125, [.inl 81, .inr (false, [(0, 0)]), .inr (false, [(0, 7)])], mgh17636, [81], [([], some (.inr (false, [(-9, -9)])), mgh17605), ([], some (.inr (false, [(0, 7)])), mgh17793)])
/-- MiceRegistersModel.figure -/
def mgc1060 : ak_C := (125, [.inl 81, .inr (false, [(1, 1)]), .inr (false, [(9, 9)])], mgh17822, [81], [([], some (.inr (false, [(-9, -9)])), mgh17793), ([], some (.inr (false, [(1, 9)])), mgh17971)])
def mgh18001 : aw_H := [(81, mgx17999), (94, mgx6868)]
def mgx18002 : aw_A := ms_o [(0, 8)] [(0, 4)] ar_t32 ar_t32 [(0, 180)] [(47, 47)] [(47, 60)] [(1, 8)] [(4, 4)]
def mgh18003 : aw_H := [(81, mgx18002), (94, mgx8150)]
/-- MiceRegistersModel.readsMouse -/
def mgh18004 : aw_H := [(81, mgx17999), (90, .inr (.inl (0, 240, [], []))), (94, mgx6868)]
def mgc1061 : ak_C := (127, [.inl 81], mgh18004, [81, 94], [([], some (.inr (false, [(0, 0)])), mgh18001), ([], some (.inr (false, [(1, 1)])), mgh18003), ([], some (.inr (false, [(0, 0)])), mgh17791), ([], some (.inr (false, [(0, 0)])), mgh17603)])
theorem mgk1061 : ai_chk [mgc35, mgc148, mgc1059, mgc1060] mgc1061 (fun pc => sm_ch sm_t127 pc, sm_Kn 3 5 none, fun x => sm_lk sm_ca3 x, some .boolean) [81, 94] 5 0 [] [] 2000 [] = true := by decide +kernel
def mgh18005 : aw_H := [(81, mgx18002)]
def mgx18006 : aw_A := ms_o [(0, 8)] [(0, 4)] ar_t32 ar_t32 [(0, 180)] [(48, 48)] [(47, 60)] [(1, 8)] [(4, 4)]
def mgh18007 : aw_H := [(81, mgx18006)]
def mgx18008 : aw_A := ms_o [(0, 8)] [(0, 4)] ar_t32 ar_t32 [(0, 180)] [(49, 49)] [(47, 60)] [(1, 8)] [(4, 4)]
def mgh18009 : aw_H := [(81, mgx18008)]
def mgx18010 : aw_A := ms_o [(0, 8)] [(0, 4)] ar_t32 ar_t32 [(0, 180)] [(50, 50)] [(47, 60)] [(1, 8)] [(4, 4)]
def mgh18011 : aw_H := [(81, mgx18010)]
def mgx18012 : aw_A := ms_o [(0, 8)] [(0, 4)] ar_t32 ar_t32 [(0, 180)] [(51, 51)] [(47, 60)] [(1, 8)] [(4, 4)]
def mgh18013 : aw_H := [(81, mgx18012)]
def mgx18014 : aw_A := ms_o [(0, 8)] [(0, 4)] ar_t32 ar_t32 [(0, 180)] [(52, 52)] [(47, 60)] [(1, 8)] [(4, 4)]
def mgh18015 : aw_H := [(81, mgx18014)]
def mgx18016 : aw_A := ms_o [(0, 8)] [(0, 4)] ar_t32 ar_t32 [(0, 180)] [(53, 53)] [(47, 60)] [(1, 8)] [(4, 4)]
def mgh18017 : aw_H := [(81, mgx18016)]
def mgx18018 : aw_A := ms_o [(0, 8)] [(0, 4)] ar_t32 ar_t32 [(0, 180)] [(54, 54)] [(47, 60)] [(1, 8)] [(4, 4)]
def mgh18019 : aw_H := [(81, mgx18018)]
def mgx18020 : aw_A := ms_o [(0, 8)] [(0, 4)] ar_t32 ar_t32 [(0, 180)] [(55, 55)] [(47, 60)] [(1, 8)] [(4, 4)]
def mgh18021 : aw_H := [(81, mgx18020)]
def mgx18022 : aw_A := ms_o [(0, 8)] [(0, 4)] ar_t32 ar_t32 [(0, 180)] [(56, 56)] [(47, 60)] [(1, 8)] [(4, 4)]
def mgh18023 : aw_H := [(81, mgx18022)]
def mgx18024 : aw_A := ms_o [(0, 8)] [(0, 4)] ar_t32 ar_t32 [(0, 180)] [(57, 57)] [(47, 60)] [(1, 8)] [(4, 4)]
def mgh18025 : aw_H := [(81, mgx18024)]
def mgx18026 : aw_A := ms_o [(0, 8)] [(0, 4)] ar_t32 ar_t32 [(0, 180)] [(58, 58)] [(47, 60)] [(1, 8)] [(4, 4)]
def mgh18027 : aw_H := [(81, mgx18026)]
def mgx18028 : aw_A := ms_o [(0, 8)] [(0, 4)] ar_t32 ar_t32 [(0, 180)] [(59, 59)] [(47, 60)] [(1, 8)] [(4, 4)]
def mgh18029 : aw_H := [(81, mgx18028)]
def mgx18030 : aw_A := ms_o [(0, 8)] [(0, 4)] ar_t32 ar_t32 [(0, 180)] [(60, 60)] [(47, 60)] [(1, 8)] [(4, 4)]
def mgh18031 : aw_H := [(81, mgx18030)]
/-- MiceRegistersModel.skip -/
def mgh18032 : aw_H := [(81, mgx18002), (90, .inr (.inl (0, 240, [], [])))]
def mgc1062 : ak_C := (122, [.inl 81], mgh18032, [81], [([], none, mgh18005), ([], none, mgh18007), ([], none, mgh18009), ([], none, mgh18011), ([], none, mgh18013), ([], none, mgh18015), ([], none, mgh18017), ([], none, mgh18019), ([], none, mgh18021), ([], none, mgh18023), ([], none, mgh18025), ([], none, mgh18027), ([], none, mgh18029), ([], none, mgh18031)])
/-- MiceRegistersModel.readsLine -/
def mgx18033 : aw_A := ms_o [(0, 8)] [(0, 4)] ar_t32 ar_t32 [(0, 180)] [(44, 44)] [(45, 60)] [(1, 7)] [(4, 4)]
def mgh18034 : aw_H := [(81, mgx18033)]
def mgc1063 : ak_C := (124, [.inl 81], mgh18034, [], [([], some (.inr (false, [(0, 0)])), [])])
theorem mgk1063 : ai_chk [] mgc1063 (fun pc => sm_ch sm_t124 pc, sm_Kn 3 3 none, fun x => sm_lk sm_ca3 x, some .boolean) [] 3 0 [] [] 2000 [] = true := by decide +kernel
/-- MiceRegistersModel.readsMouse -/
def mgh18035 : aw_H := [(81, mgx18033), (90, .inr (.inl (0, 240, [], [])))]
def mgc1064 : ak_C := (127, [.inl 81], mgh18035, [], [([], some (.inr (false, [(0, 0)])), [])])
theorem mgk1064 : ai_chk [mgc35, mgc148] mgc1064 (fun pc => sm_ch sm_t127 pc, sm_Kn 3 5 none, fun x => sm_lk sm_ca3 x, some .boolean) [] 5 0 [] [] 2000 [] = true := by decide +kernel
def mgx18036 : aw_A := ms_o [(0, 8)] [(0, 4)] ar_t32 ar_t32 [(0, 180)] [(49, 49)] [(49, 60)] [(0, 7)] [(0, 0)]
def mgh18037 : aw_H := [(81, mgx18036)]
/-- MiceRegistersModel.figure -/
def mgh18038 : aw_H := [(81, mgx17862), (90, .inr (.inl (0, 240, [], [])))]
def mgc1065 : ak_C := (125, [.inl 81, .inr (false, [(0, 0)]), .inr (false, [(9, 9)])], mgh18038, [81], [([], some (.inr (false, [(-9, -9)])), mgh17863), ([], some (.inr (false, [(0, 9)])), mgh18037)])
/-- MiceRegistersModel.twoFigures -/
def mgc1066 : ak_C := (126, [.inl 81, .inr (false, [(1, 1)]), .inr (false, [(40, 40)])], mgh17864, [81], [([], some (.inr (false, [(-9, -9)])), mgh17679), ([], some (.inr (false, [(0, 99)])), mgh18037), ([], some (.inr (false, [(-9, -9)])), mgh17863)])
theorem mgk1066 : ai_chk [mgc1040, mgc1065, mgc144] mgc1066 (fun pc => sm_ch sm_t126 pc, sm_Kn 3 6 none, fun x => sm_lk sm_ca3 x, some .int) [81] 6 0 [] [] 2000 [] = true := by decide +kernel
def mgh18039 : aw_H := [(81, mgx17862), (92, .inr (.inl (0, 8, [], []))), (93, .inr (.inl (0, 8, [], [])))]
def mgx18040 : aw_A := ms_o [(0, 8)] [(0, 4)] ar_t32 ar_t32 [(0, 180)] [(49, 49)] [(49, 60)] [(1, 8)] [(0, 0)]
def mgh18041 : aw_H := [(81, mgx18040), (92, .inr (.inl (0, 8, [], []))), (93, .inr (.inl (0, 8, [], [])))]
def mgx18042 : aw_A := ms_o [(0, 8)] [(0, 4)] ar_t32 ar_t32 [(0, 180)] [(45, 45)] [(46, 60)] [(8, 8)] [(0, 0)]
def mgh18043 : aw_H := [(81, mgx18042), (92, .inr (.inl (0, 8, [], []))), (93, .inr (.inl (0, 8, [], [])))]
/-- MiceRegistersModel.readsLine -/
def mgx18044 : aw_A := ms_o [(0, 8)] [(0, 4)] ar_t32 ar_t32 [(0, 180)] [(45, 45)] [(46, 60)] [(0, 8)] [(0, 0)]
def mgh18045 : aw_H := [(81, mgx18044), (90, .inr (.inl (0, 240, [], []))), (92, .inr (.inl (0, 8, [], []))), (93, .inr (.inl (0, 8, [], [])))]
def mgc1067 : ak_C := (124, [.inl 81], mgh18045, [81, 92, 93], [([], some (.inr (false, [(0, 0)])), mgh18039), ([], some (.inr (false, [(1, 1)])), mgh18041), ([], some (.inr (false, [(0, 0)])), mgh17865), ([], some (.inr (false, [(0, 0)])), mgh17681), ([], some (.inr (false, [(0, 0)])), mgh18043)])
theorem mgk1067 : ai_chk [mgc1015, mgc1066] mgc1067 (fun pc => sm_ch sm_t124 pc, sm_Kn 3 3 none, fun x => sm_lk sm_ca3 x, some .boolean) [81, 92, 93] 3 0 [] [] 2000 [] = true := by decide +kernel
def mgh18046 : aw_H := [(81, mgx18040)]
def mgx18047 : aw_A := ms_o [(0, 8)] [(0, 4)] ar_t32 ar_t32 [(0, 180)] [(50, 50)] [(49, 60)] [(1, 8)] [(0, 0)]
def mgh18048 : aw_H := [(81, mgx18047)]
def mgx18049 : aw_A := ms_o [(0, 8)] [(0, 4)] ar_t32 ar_t32 [(0, 180)] [(51, 51)] [(49, 60)] [(1, 8)] [(0, 0)]
def mgh18050 : aw_H := [(81, mgx18049)]
def mgx18051 : aw_A := ms_o [(0, 8)] [(0, 4)] ar_t32 ar_t32 [(0, 180)] [(52, 52)] [(49, 60)] [(1, 8)] [(0, 0)]
def mgh18052 : aw_H := [(81, mgx18051)]
def mgx18053 : aw_A := ms_o [(0, 8)] [(0, 4)] ar_t32 ar_t32 [(0, 180)] [(53, 53)] [(49, 60)] [(1, 8)] [(0, 0)]
def mgh18054 : aw_H := [(81, mgx18053)]
def mgx18055 : aw_A := ms_o [(0, 8)] [(0, 4)] ar_t32 ar_t32 [(0, 180)] [(54, 54)] [(49, 60)] [(1, 8)] [(0, 0)]
def mgh18056 : aw_H := [(81, mgx18055)]
def mgx18057 : aw_A := ms_o [(0, 8)] [(0, 4)] ar_t32 ar_t32 [(0, 180)] [(55, 55)] [(49, 60)] [(1, 8)] [(0, 0)]
def mgh18058 : aw_H := [(81, mgx18057)]
def mgx18059 : aw_A := ms_o [(0, 8)] [(0, 4)] ar_t32 ar_t32 [(0, 180)] [(56, 56)] [(49, 60)] [(1, 8)] [(0, 0)]
def mgh18060 : aw_H := [(81, mgx18059)]
def mgx18061 : aw_A := ms_o [(0, 8)] [(0, 4)] ar_t32 ar_t32 [(0, 180)] [(57, 57)] [(49, 60)] [(1, 8)] [(0, 0)]
def mgh18062 : aw_H := [(81, mgx18061)]
def mgx18063 : aw_A := ms_o [(0, 8)] [(0, 4)] ar_t32 ar_t32 [(0, 180)] [(58, 58)] [(49, 60)] [(1, 8)] [(0, 0)]
def mgh18064 : aw_H := [(81, mgx18063)]
def mgx18065 : aw_A := ms_o [(0, 8)] [(0, 4)] ar_t32 ar_t32 [(0, 180)] [(59, 59)] [(49, 60)] [(1, 8)] [(0, 0)]
def mgh18066 : aw_H := [(81, mgx18065)]
def mgx18067 : aw_A := ms_o [(0, 8)] [(0, 4)] ar_t32 ar_t32 [(0, 180)] [(60, 60)] [(49, 60)] [(1, 8)] [(0, 0)]
def mgh18068 : aw_H := [(81, mgx18067)]
/-- MiceRegistersModel.skip -/
def mgh18069 : aw_H := [(81, mgx18040), (90, .inr (.inl (0, 240, [], [])))]
def mgc1068 : ak_C := (122, [.inl 81], mgh18069, [81], [([], none, mgh18046), ([], none, mgh18048), ([], none, mgh18050), ([], none, mgh18052), ([], none, mgh18054), ([], none, mgh18056), ([], none, mgh18058), ([], none, mgh18060), ([], none, mgh18062), ([], none, mgh18064), ([], none, mgh18066), ([], none, mgh18068)])
/-- MiceRegistersModel.figure -/
def mgc1069 : ak_C := (125, [.inl 81, .inr (false, [(0, 0)]), .inr (false, [(0, 7)])], mgh17523, [81], [([], some (.inr (false, [(-9, -9)])), mgh17494), ([], some (.inr (false, [(0, 7)])), mgh17688)])
/-- MiceRegistersModel.figure -/
def mgc1070 : ak_C := (125, [.inl 81, .inr (false, [(1, 1)]), .inr (false, [(9, 9)])], mgh17715, [81], [([], some (.inr (false, [(-9, -9)])), mgh17688), ([], some (.inr (false, [(1, 9)])), mgh17872)])
def mgh18070 : aw_H := [(81, mgx18044), (94, mgx5049)]
def mgx18071 : aw_A := ms_o [(0, 8)] [(0, 4)] ar_t32 ar_t32 [(0, 180)] [(48, 48)] [(48, 60)] [(1, 8)] [(1, 1)]
def mgh18072 : aw_H := [(81, mgx18071), (94, mgx5052)]
def mgh18073 : aw_H := [(81, mgx17682), (94, mgx5049)]
/-- MiceRegistersModel.readsMouse -/
def mgh18074 : aw_H := [(81, mgx18044), (90, .inr (.inl (0, 240, [], []))), (94, mgx5049)]
def mgc1071 : ak_C := (127, [.inl 81], mgh18074, [81, 94], [([], some (.inr (false, [(0, 0)])), mgh18070), ([], some (.inr (false, [(1, 1)])), mgh18072), ([], some (.inr (false, [(0, 0)])), mgh18073), ([], some (.inr (false, [(0, 0)])), mgh17901)])
theorem mgk1071 : ai_chk [mgc34, mgc148, mgc1069, mgc1070] mgc1071 (fun pc => sm_ch sm_t127 pc, sm_Kn 3 5 none, fun x => sm_lk sm_ca3 x, some .boolean) [81, 94] 5 0 [] [] 2000 [] = true := by decide +kernel
def mgh18075 : aw_H := [(81, mgx18071)]
def mgx18076 : aw_A := ms_o [(0, 8)] [(0, 4)] ar_t32 ar_t32 [(0, 180)] [(49, 49)] [(48, 60)] [(1, 8)] [(1, 1)]
def mgh18077 : aw_H := [(81, mgx18076)]
def mgx18078 : aw_A := ms_o [(0, 8)] [(0, 4)] ar_t32 ar_t32 [(0, 180)] [(50, 50)] [(48, 60)] [(1, 8)] [(1, 1)]
def mgh18079 : aw_H := [(81, mgx18078)]
def mgx18080 : aw_A := ms_o [(0, 8)] [(0, 4)] ar_t32 ar_t32 [(0, 180)] [(51, 51)] [(48, 60)] [(1, 8)] [(1, 1)]
def mgh18081 : aw_H := [(81, mgx18080)]
def mgx18082 : aw_A := ms_o [(0, 8)] [(0, 4)] ar_t32 ar_t32 [(0, 180)] [(52, 52)] [(48, 60)] [(1, 8)] [(1, 1)]
def mgh18083 : aw_H := [(81, mgx18082)]
def mgx18084 : aw_A := ms_o [(0, 8)] [(0, 4)] ar_t32 ar_t32 [(0, 180)] [(53, 53)] [(48, 60)] [(1, 8)] [(1, 1)]
def mgh18085 : aw_H := [(81, mgx18084)]
def mgx18086 : aw_A := ms_o [(0, 8)] [(0, 4)] ar_t32 ar_t32 [(0, 180)] [(54, 54)] [(48, 60)] [(1, 8)] [(1, 1)]
def mgh18087 : aw_H := [(81, mgx18086)]
def mgx18088 : aw_A := ms_o [(0, 8)] [(0, 4)] ar_t32 ar_t32 [(0, 180)] [(55, 55)] [(48, 60)] [(1, 8)] [(1, 1)]
def mgh18089 : aw_H := [(81, mgx18088)]
def mgx18090 : aw_A := ms_o [(0, 8)] [(0, 4)] ar_t32 ar_t32 [(0, 180)] [(56, 56)] [(48, 60)] [(1, 8)] [(1, 1)]
def mgh18091 : aw_H := [(81, mgx18090)]
def mgx18092 : aw_A := ms_o [(0, 8)] [(0, 4)] ar_t32 ar_t32 [(0, 180)] [(57, 57)] [(48, 60)] [(1, 8)] [(1, 1)]
def mgh18093 : aw_H := [(81, mgx18092)]
def mgx18094 : aw_A := ms_o [(0, 8)] [(0, 4)] ar_t32 ar_t32 [(0, 180)] [(58, 58)] [(48, 60)] [(1, 8)] [(1, 1)]
def mgh18095 : aw_H := [(81, mgx18094)]
def mgx18096 : aw_A := ms_o [(0, 8)] [(0, 4)] ar_t32 ar_t32 [(0, 180)] [(59, 59)] [(48, 60)] [(1, 8)] [(1, 1)]
def mgh18097 : aw_H := [(81, mgx18096)]
def mgx18098 : aw_A := ms_o [(0, 8)] [(0, 4)] ar_t32 ar_t32 [(0, 180)] [(60, 60)] [(48, 60)] [(1, 8)] [(1, 1)]
def mgh18099 : aw_H := [(81, mgx18098)]
/-- MiceRegistersModel.skip -/
def mgh18100 : aw_H := [(81, mgx18071), (90, .inr (.inl (0, 240, [], [])))]
def mgc1072 : ak_C := (122, [.inl 81], mgh18100, [81], [([], none, mgh18075), ([], none, mgh18077), ([], none, mgh18079), ([], none, mgh18081), ([], none, mgh18083), ([], none, mgh18085), ([], none, mgh18087), ([], none, mgh18089), ([], none, mgh18091), ([], none, mgh18093), ([], none, mgh18095), ([], none, mgh18097), ([], none, mgh18099)])
/-- MiceRegistersModel.readsLine -/
def mgx18101 : aw_A := ms_o [(0, 8)] [(0, 4)] ar_t32 ar_t32 [(0, 180)] [(45, 45)] [(46, 60)] [(1, 8)] [(1, 1)]
def mgh18102 : aw_H := [(81, mgx18101)]
def mgc1073 : ak_C := (124, [.inl 81], mgh18102, [], [([], some (.inr (false, [(0, 0)])), [])])
theorem mgk1073 : ai_chk [] mgc1073 (fun pc => sm_ch sm_t124 pc, sm_Kn 3 3 none, fun x => sm_lk sm_ca3 x, some .boolean) [] 3 0 [] [] 2000 [] = true := by decide +kernel
/-- MiceRegistersModel.figure -/
def mgc1074 : ak_C := (125, [.inl 81, .inr (false, [(0, 0)]), .inr (false, [(0, 7)])], mgh17750, [81], [([], some (.inr (false, [(-9, -9)])), mgh17721), ([], some (.inr (false, [(0, 7)])), mgh17903)])
/-- MiceRegistersModel.figure -/
def mgc1075 : ak_C := (125, [.inl 81, .inr (false, [(1, 1)]), .inr (false, [(9, 9)])], mgh17930, [81], [([], some (.inr (false, [(-9, -9)])), mgh17903), ([], some (.inr (false, [(1, 9)])), mgh18075)])
def mgh18103 : aw_H := [(81, mgx18101), (94, mgx5052)]
def mgx18104 : aw_A := ms_o [(0, 8)] [(0, 4)] ar_t32 ar_t32 [(0, 180)] [(48, 48)] [(48, 60)] [(1, 8)] [(2, 2)]
def mgh18105 : aw_H := [(81, mgx18104), (94, mgx5820)]
/-- MiceRegistersModel.readsMouse -/
def mgh18106 : aw_H := [(81, mgx18101), (90, .inr (.inl (0, 240, [], []))), (94, mgx5052)]
def mgc1076 : ak_C := (127, [.inl 81], mgh18106, [81, 94], [([], some (.inr (false, [(0, 0)])), mgh18103), ([], some (.inr (false, [(1, 1)])), mgh18105), ([], some (.inr (false, [(0, 0)])), mgh17900), ([], some (.inr (false, [(0, 0)])), mgh17718)])
theorem mgk1076 : ai_chk [mgc34, mgc148, mgc1074, mgc1075] mgc1076 (fun pc => sm_ch sm_t127 pc, sm_Kn 3 5 none, fun x => sm_lk sm_ca3 x, some .boolean) [81, 94] 5 0 [] [] 2000 [] = true := by decide +kernel
def mgh18107 : aw_H := [(81, mgx18104)]
def mgx18108 : aw_A := ms_o [(0, 8)] [(0, 4)] ar_t32 ar_t32 [(0, 180)] [(49, 49)] [(48, 60)] [(1, 8)] [(2, 2)]
def mgh18109 : aw_H := [(81, mgx18108)]
def mgx18110 : aw_A := ms_o [(0, 8)] [(0, 4)] ar_t32 ar_t32 [(0, 180)] [(50, 50)] [(48, 60)] [(1, 8)] [(2, 2)]
def mgh18111 : aw_H := [(81, mgx18110)]
def mgx18112 : aw_A := ms_o [(0, 8)] [(0, 4)] ar_t32 ar_t32 [(0, 180)] [(51, 51)] [(48, 60)] [(1, 8)] [(2, 2)]
def mgh18113 : aw_H := [(81, mgx18112)]
def mgx18114 : aw_A := ms_o [(0, 8)] [(0, 4)] ar_t32 ar_t32 [(0, 180)] [(52, 52)] [(48, 60)] [(1, 8)] [(2, 2)]
def mgh18115 : aw_H := [(81, mgx18114)]
def mgx18116 : aw_A := ms_o [(0, 8)] [(0, 4)] ar_t32 ar_t32 [(0, 180)] [(53, 53)] [(48, 60)] [(1, 8)] [(2, 2)]
def mgh18117 : aw_H := [(81, mgx18116)]
def mgx18118 : aw_A := ms_o [(0, 8)] [(0, 4)] ar_t32 ar_t32 [(0, 180)] [(54, 54)] [(48, 60)] [(1, 8)] [(2, 2)]
def mgh18119 : aw_H := [(81, mgx18118)]
def mgx18120 : aw_A := ms_o [(0, 8)] [(0, 4)] ar_t32 ar_t32 [(0, 180)] [(55, 55)] [(48, 60)] [(1, 8)] [(2, 2)]
def mgh18121 : aw_H := [(81, mgx18120)]
def mgx18122 : aw_A := ms_o [(0, 8)] [(0, 4)] ar_t32 ar_t32 [(0, 180)] [(56, 56)] [(48, 60)] [(1, 8)] [(2, 2)]
def mgh18123 : aw_H := [(81, mgx18122)]
def mgx18124 : aw_A := ms_o [(0, 8)] [(0, 4)] ar_t32 ar_t32 [(0, 180)] [(57, 57)] [(48, 60)] [(1, 8)] [(2, 2)]
def mgh18125 : aw_H := [(81, mgx18124)]
def mgx18126 : aw_A := ms_o [(0, 8)] [(0, 4)] ar_t32 ar_t32 [(0, 180)] [(58, 58)] [(48, 60)] [(1, 8)] [(2, 2)]
def mgh18127 : aw_H := [(81, mgx18126)]
def mgx18128 : aw_A := ms_o [(0, 8)] [(0, 4)] ar_t32 ar_t32 [(0, 180)] [(59, 59)] [(48, 60)] [(1, 8)] [(2, 2)]
def mgh18129 : aw_H := [(81, mgx18128)]
def mgx18130 : aw_A := ms_o [(0, 8)] [(0, 4)] ar_t32 ar_t32 [(0, 180)] [(60, 60)] [(48, 60)] [(1, 8)] [(2, 2)]
def mgh18131 : aw_H := [(81, mgx18130)]
/-- MiceRegistersModel.skip -/
def mgh18132 : aw_H := [(81, mgx18104), (90, .inr (.inl (0, 240, [], [])))]
def mgc1077 : ak_C := (122, [.inl 81], mgh18132, [81], [([], none, mgh18107), ([], none, mgh18109), ([], none, mgh18111), ([], none, mgh18113), ([], none, mgh18115), ([], none, mgh18117), ([], none, mgh18119), ([], none, mgh18121), ([], none, mgh18123), ([], none, mgh18125), ([], none, mgh18127), ([], none, mgh18129), ([], none, mgh18131)])
/-- MiceRegistersModel.readsLine -/
def mgx18133 : aw_A := ms_o [(0, 8)] [(0, 4)] ar_t32 ar_t32 [(0, 180)] [(45, 45)] [(46, 60)] [(1, 8)] [(2, 2)]
def mgh18134 : aw_H := [(81, mgx18133)]
def mgc1078 : ak_C := (124, [.inl 81], mgh18134, [], [([], some (.inr (false, [(0, 0)])), [])])
theorem mgk1078 : ai_chk [] mgc1078 (fun pc => sm_ch sm_t124 pc, sm_Kn 3 3 none, fun x => sm_lk sm_ca3 x, some .boolean) [] 3 0 [] [] 2000 [] = true := by decide +kernel
/-- MiceRegistersModel.figure -/
def mgc1079 : ak_C := (125, [.inl 81, .inr (false, [(0, 0)]), .inr (false, [(0, 7)])], mgh17786, [81], [([], some (.inr (false, [(-9, -9)])), mgh17757), ([], some (.inr (false, [(0, 7)])), mgh17937)])
/-- MiceRegistersModel.figure -/
def mgc1080 : ak_C := (125, [.inl 81, .inr (false, [(1, 1)]), .inr (false, [(9, 9)])], mgh17964, [81], [([], some (.inr (false, [(-9, -9)])), mgh17937), ([], some (.inr (false, [(1, 9)])), mgh18107)])
def mgh18135 : aw_H := [(81, mgx18133), (94, mgx5820)]
def mgx18136 : aw_A := ms_o [(0, 8)] [(0, 4)] ar_t32 ar_t32 [(0, 180)] [(48, 48)] [(48, 60)] [(1, 8)] [(3, 3)]
def mgh18137 : aw_H := [(81, mgx18136), (94, mgx6868)]
/-- MiceRegistersModel.readsMouse -/
def mgh18138 : aw_H := [(81, mgx18133), (90, .inr (.inl (0, 240, [], []))), (94, mgx5820)]
def mgc1081 : ak_C := (127, [.inl 81], mgh18138, [81, 94], [([], some (.inr (false, [(0, 0)])), mgh18135), ([], some (.inr (false, [(1, 1)])), mgh18137), ([], some (.inr (false, [(0, 0)])), mgh17935), ([], some (.inr (false, [(0, 0)])), mgh17755)])
theorem mgk1081 : ai_chk [mgc34, mgc148, mgc1079, mgc1080] mgc1081 (fun pc => sm_ch sm_t127 pc, sm_Kn 3 5 none, fun x => sm_lk sm_ca3 x, some .boolean) [81, 94] 5 0 [] [] 2000 [] = true := by decide +kernel
def mgh18139 : aw_H := [(81, mgx18136)]
def mgx18140 : aw_A := ms_o [(0, 8)] [(0, 4)] ar_t32 ar_t32 [(0, 180)] [(49, 49)] [(48, 60)] [(1, 8)] [(3, 3)]
def mgh18141 : aw_H := [(81, mgx18140)]
def mgx18142 : aw_A := ms_o [(0, 8)] [(0, 4)] ar_t32 ar_t32 [(0, 180)] [(50, 50)] [(48, 60)] [(1, 8)] [(3, 3)]
def mgh18143 : aw_H := [(81, mgx18142)]
def mgx18144 : aw_A := ms_o [(0, 8)] [(0, 4)] ar_t32 ar_t32 [(0, 180)] [(51, 51)] [(48, 60)] [(1, 8)] [(3, 3)]
def mgh18145 : aw_H := [(81, mgx18144)]
def mgx18146 : aw_A := ms_o [(0, 8)] [(0, 4)] ar_t32 ar_t32 [(0, 180)] [(52, 52)] [(48, 60)] [(1, 8)] [(3, 3)]
def mgh18147 : aw_H := [(81, mgx18146)]
def mgx18148 : aw_A := ms_o [(0, 8)] [(0, 4)] ar_t32 ar_t32 [(0, 180)] [(53, 53)] [(48, 60)] [(1, 8)] [(3, 3)]
def mgh18149 : aw_H := [(81, mgx18148)]
def mgx18150 : aw_A := ms_o [(0, 8)] [(0, 4)] ar_t32 ar_t32 [(0, 180)] [(54, 54)] [(48, 60)] [(1, 8)] [(3, 3)]
def mgh18151 : aw_H := [(81, mgx18150)]
def mgx18152 : aw_A := ms_o [(0, 8)] [(0, 4)] ar_t32 ar_t32 [(0, 180)] [(55, 55)] [(48, 60)] [(1, 8)] [(3, 3)]
def mgh18153 : aw_H := [(81, mgx18152)]
def mgx18154 : aw_A := ms_o [(0, 8)] [(0, 4)] ar_t32 ar_t32 [(0, 180)] [(56, 56)] [(48, 60)] [(1, 8)] [(3, 3)]
def mgh18155 : aw_H := [(81, mgx18154)]
def mgx18156 : aw_A := ms_o [(0, 8)] [(0, 4)] ar_t32 ar_t32 [(0, 180)] [(57, 57)] [(48, 60)] [(1, 8)] [(3, 3)]
def mgh18157 : aw_H := [(81, mgx18156)]
def mgx18158 : aw_A := ms_o [(0, 8)] [(0, 4)] ar_t32 ar_t32 [(0, 180)] [(58, 58)] [(48, 60)] [(1, 8)] [(3, 3)]
def mgh18159 : aw_H := [(81, mgx18158)]
def mgx18160 : aw_A := ms_o [(0, 8)] [(0, 4)] ar_t32 ar_t32 [(0, 180)] [(59, 59)] [(48, 60)] [(1, 8)] [(3, 3)]
def mgh18161 : aw_H := [(81, mgx18160)]
def mgx18162 : aw_A := ms_o [(0, 8)] [(0, 4)] ar_t32 ar_t32 [(0, 180)] [(60, 60)] [(48, 60)] [(1, 8)] [(3, 3)]
def mgh18163 : aw_H := [(81, mgx18162)]
/-- MiceRegistersModel.skip -/
def mgh18164 : aw_H := [(81, mgx18136), (90, .inr (.inl (0, 240, [], [])))]
def mgc1082 : ak_C := (122, [.inl 81], mgh18164, [81], [([], none, mgh18139), ([], none, mgh18141), ([], none, mgh18143), ([], none, mgh18145), ([], none, mgh18147), ([], none, mgh18149), ([], none, mgh18151), ([], none, mgh18153), ([], none, mgh18155), ([], none, mgh18157), ([], none, mgh18159), ([], none, mgh18161), ([], none, mgh18163)])
/-- MiceRegistersModel.readsLine -/
def mgx18165 : aw_A := ms_o [(0, 8)] [(0, 4)] ar_t32 ar_t32 [(0, 180)] [(45, 45)] [(46, 60)] [(1, 8)] [(3, 3)]
def mgh18166 : aw_H := [(81, mgx18165)]
def mgc1083 : ak_C := (124, [.inl 81], mgh18166, [], [([], some (.inr (false, [(0, 0)])), [])])
theorem mgk1083 : ai_chk [] mgc1083 (fun pc => sm_ch sm_t124 pc, sm_Kn 3 3 none, fun x => sm_lk sm_ca3 x, some .boolean) [] 3 0 [] [] 2000 [] = true := by decide +kernel
/-- MiceRegistersModel.figure -/
def mgc1084 : ak_C := (125, [.inl 81, .inr (false, [(0, 0)]), .inr (false, [(0, 7)])], mgh17822, [81], [([], some (.inr (false, [(-9, -9)])), mgh17793), ([], some (.inr (false, [(0, 7)])), mgh17971)])
/-- MiceRegistersModel.figure -/
def mgc1085 : ak_C := (125, [.inl 81, .inr (false, [(1, 1)]), .inr (false, [(9, 9)])], mgh17998, [81], [([], some (.inr (false, [(-9, -9)])), mgh17971), ([], some (.inr (false, [(1, 9)])), mgh18139)])
def mgh18167 : aw_H := [(81, mgx18165), (94, mgx6868)]
def mgx18168 : aw_A := ms_o [(0, 8)] [(0, 4)] ar_t32 ar_t32 [(0, 180)] [(48, 48)] [(48, 60)] [(1, 8)] [(4, 4)]
def mgh18169 : aw_H := [(81, mgx18168), (94, mgx8150)]
/-- MiceRegistersModel.readsMouse -/
def mgh18170 : aw_H := [(81, mgx18165), (90, .inr (.inl (0, 240, [], []))), (94, mgx6868)]
def mgc1086 : ak_C := (127, [.inl 81], mgh18170, [81, 94], [([], some (.inr (false, [(0, 0)])), mgh18167), ([], some (.inr (false, [(1, 1)])), mgh18169), ([], some (.inr (false, [(0, 0)])), mgh17969), ([], some (.inr (false, [(0, 0)])), mgh17791)])
theorem mgk1086 : ai_chk [mgc34, mgc148, mgc1084, mgc1085] mgc1086 (fun pc => sm_ch sm_t127 pc, sm_Kn 3 5 none, fun x => sm_lk sm_ca3 x, some .boolean) [81, 94] 5 0 [] [] 2000 [] = true := by decide +kernel
def mgh18171 : aw_H := [(81, mgx18168)]
def mgx18172 : aw_A := ms_o [(0, 8)] [(0, 4)] ar_t32 ar_t32 [(0, 180)] [(49, 49)] [(48, 60)] [(1, 8)] [(4, 4)]
def mgh18173 : aw_H := [(81, mgx18172)]
def mgx18174 : aw_A := ms_o [(0, 8)] [(0, 4)] ar_t32 ar_t32 [(0, 180)] [(50, 50)] [(48, 60)] [(1, 8)] [(4, 4)]
def mgh18175 : aw_H := [(81, mgx18174)]
def mgx18176 : aw_A := ms_o [(0, 8)] [(0, 4)] ar_t32 ar_t32 [(0, 180)] [(51, 51)] [(48, 60)] [(1, 8)] [(4, 4)]
def mgh18177 : aw_H := [(81, mgx18176)]
def mgx18178 : aw_A := ms_o [(0, 8)] [(0, 4)] ar_t32 ar_t32 [(0, 180)] [(52, 52)] [(48, 60)] [(1, 8)] [(4, 4)]
def mgh18179 : aw_H := [(81, mgx18178)]
def mgx18180 : aw_A := ms_o [(0, 8)] [(0, 4)] ar_t32 ar_t32 [(0, 180)] [(53, 53)] [(48, 60)] [(1, 8)] [(4, 4)]
def mgh18181 : aw_H := [(81, mgx18180)]
def mgx18182 : aw_A := ms_o [(0, 8)] [(0, 4)] ar_t32 ar_t32 [(0, 180)] [(54, 54)] [(48, 60)] [(1, 8)] [(4, 4)]
def mgh18183 : aw_H := [(81, mgx18182)]
def mgx18184 : aw_A := ms_o [(0, 8)] [(0, 4)] ar_t32 ar_t32 [(0, 180)] [(55, 55)] [(48, 60)] [(1, 8)] [(4, 4)]
def mgh18185 : aw_H := [(81, mgx18184)]
def mgx18186 : aw_A := ms_o [(0, 8)] [(0, 4)] ar_t32 ar_t32 [(0, 180)] [(56, 56)] [(48, 60)] [(1, 8)] [(4, 4)]
def mgh18187 : aw_H := [(81, mgx18186)]
def mgx18188 : aw_A := ms_o [(0, 8)] [(0, 4)] ar_t32 ar_t32 [(0, 180)] [(57, 57)] [(48, 60)] [(1, 8)] [(4, 4)]
def mgh18189 : aw_H := [(81, mgx18188)]
def mgx18190 : aw_A := ms_o [(0, 8)] [(0, 4)] ar_t32 ar_t32 [(0, 180)] [(58, 58)] [(48, 60)] [(1, 8)] [(4, 4)]
def mgh18191 : aw_H := [(81, mgx18190)]
def mgx18192 : aw_A := ms_o [(0, 8)] [(0, 4)] ar_t32 ar_t32 [(0, 180)] [(59, 59)] [(48, 60)] [(1, 8)] [(4, 4)]
def mgh18193 : aw_H := [(81, mgx18192)]
def mgx18194 : aw_A := ms_o [(0, 8)] [(0, 4)] ar_t32 ar_t32 [(0, 180)] [(60, 60)] [(48, 60)] [(1, 8)] [(4, 4)]
def mgh18195 : aw_H := [(81, mgx18194)]
/-- MiceRegistersModel.skip -/
def mgh18196 : aw_H := [(81, mgx18168), (90, .inr (.inl (0, 240, [], [])))]
def mgc1087 : ak_C := (122, [.inl 81], mgh18196, [81], [([], none, mgh18171), ([], none, mgh18173), ([], none, mgh18175), ([], none, mgh18177), ([], none, mgh18179), ([], none, mgh18181), ([], none, mgh18183), ([], none, mgh18185), ([], none, mgh18187), ([], none, mgh18189), ([], none, mgh18191), ([], none, mgh18193), ([], none, mgh18195)])
/-- MiceRegistersModel.readsLine -/
def mgx18197 : aw_A := ms_o [(0, 8)] [(0, 4)] ar_t32 ar_t32 [(0, 180)] [(45, 45)] [(46, 60)] [(1, 8)] [(4, 4)]
def mgh18198 : aw_H := [(81, mgx18197)]
def mgc1088 : ak_C := (124, [.inl 81], mgh18198, [], [([], some (.inr (false, [(0, 0)])), [])])
theorem mgk1088 : ai_chk [] mgc1088 (fun pc => sm_ch sm_t124 pc, sm_Kn 3 3 none, fun x => sm_lk sm_ca3 x, some .boolean) [] 3 0 [] [] 2000 [] = true := by decide +kernel
/-- MiceRegistersModel.readsMouse -/
def mgh18199 : aw_H := [(81, mgx18197), (90, .inr (.inl (0, 240, [], [])))]
def mgc1089 : ak_C := (127, [.inl 81], mgh18199, [], [([], some (.inr (false, [(0, 0)])), [])])
theorem mgk1089 : ai_chk [mgc34, mgc148] mgc1089 (fun pc => sm_ch sm_t127 pc, sm_Kn 3 5 none, fun x => sm_lk sm_ca3 x, some .boolean) [] 5 0 [] [] 2000 [] = true := by decide +kernel
def mgx18200 : aw_A := ms_o [(0, 8)] [(0, 4)] ar_t32 ar_t32 [(0, 180)] [(50, 50)] [(50, 60)] [(0, 7)] [(0, 0)]
def mgh18201 : aw_H := [(81, mgx18200)]
/-- MiceRegistersModel.figure -/
def mgh18202 : aw_H := [(81, mgx18036), (90, .inr (.inl (0, 240, [], [])))]
def mgc1090 : ak_C := (125, [.inl 81, .inr (false, [(0, 0)]), .inr (false, [(9, 9)])], mgh18202, [81], [([], some (.inr (false, [(-9, -9)])), mgh18037), ([], some (.inr (false, [(0, 9)])), mgh18201)])
/-- MiceRegistersModel.twoFigures -/
def mgc1091 : ak_C := (126, [.inl 81, .inr (false, [(1, 1)]), .inr (false, [(40, 40)])], mgh18038, [81], [([], some (.inr (false, [(-9, -9)])), mgh17863), ([], some (.inr (false, [(0, 99)])), mgh18201), ([], some (.inr (false, [(-9, -9)])), mgh18037)])
theorem mgk1091 : ai_chk [mgc1065, mgc1090, mgc144] mgc1091 (fun pc => sm_ch sm_t126 pc, sm_Kn 3 6 none, fun x => sm_lk sm_ca3 x, some .int) [81] 6 0 [] [] 2000 [] = true := by decide +kernel
def mgh18203 : aw_H := [(81, mgx18036), (92, .inr (.inl (0, 8, [], []))), (93, .inr (.inl (0, 8, [], [])))]
def mgx18204 : aw_A := ms_o [(0, 8)] [(0, 4)] ar_t32 ar_t32 [(0, 180)] [(50, 50)] [(50, 60)] [(1, 8)] [(0, 0)]
def mgh18205 : aw_H := [(81, mgx18204), (92, .inr (.inl (0, 8, [], []))), (93, .inr (.inl (0, 8, [], [])))]
def mgx18206 : aw_A := ms_o [(0, 8)] [(0, 4)] ar_t32 ar_t32 [(0, 180)] [(46, 46)] [(47, 60)] [(8, 8)] [(0, 0)]
def mgh18207 : aw_H := [(81, mgx18206), (92, .inr (.inl (0, 8, [], []))), (93, .inr (.inl (0, 8, [], [])))]
/-- MiceRegistersModel.readsLine -/
def mgx18208 : aw_A := ms_o [(0, 8)] [(0, 4)] ar_t32 ar_t32 [(0, 180)] [(46, 46)] [(47, 60)] [(0, 8)] [(0, 0)]
def mgh18209 : aw_H := [(81, mgx18208), (90, .inr (.inl (0, 240, [], []))), (92, .inr (.inl (0, 8, [], []))), (93, .inr (.inl (0, 8, [], [])))]
def mgc1092 : ak_C := (124, [.inl 81], mgh18209, [81, 92, 93], [([], some (.inr (false, [(0, 0)])), mgh18203), ([], some (.inr (false, [(1, 1)])), mgh18205), ([], some (.inr (false, [(0, 0)])), mgh18039), ([], some (.inr (false, [(0, 0)])), mgh17865), ([], some (.inr (false, [(0, 0)])), mgh18207)])
theorem mgk1092 : ai_chk [mgc1040, mgc1091] mgc1092 (fun pc => sm_ch sm_t124 pc, sm_Kn 3 3 none, fun x => sm_lk sm_ca3 x, some .boolean) [81, 92, 93] 3 0 [] [] 2000 [] = true := by decide +kernel
def mgh18210 : aw_H := [(81, mgx18204)]
def mgx18211 : aw_A := ms_o [(0, 8)] [(0, 4)] ar_t32 ar_t32 [(0, 180)] [(51, 51)] [(50, 60)] [(1, 8)] [(0, 0)]
def mgh18212 : aw_H := [(81, mgx18211)]
def mgx18213 : aw_A := ms_o [(0, 8)] [(0, 4)] ar_t32 ar_t32 [(0, 180)] [(52, 52)] [(50, 60)] [(1, 8)] [(0, 0)]
def mgh18214 : aw_H := [(81, mgx18213)]
def mgx18215 : aw_A := ms_o [(0, 8)] [(0, 4)] ar_t32 ar_t32 [(0, 180)] [(53, 53)] [(50, 60)] [(1, 8)] [(0, 0)]
def mgh18216 : aw_H := [(81, mgx18215)]
def mgx18217 : aw_A := ms_o [(0, 8)] [(0, 4)] ar_t32 ar_t32 [(0, 180)] [(54, 54)] [(50, 60)] [(1, 8)] [(0, 0)]
def mgh18218 : aw_H := [(81, mgx18217)]
def mgx18219 : aw_A := ms_o [(0, 8)] [(0, 4)] ar_t32 ar_t32 [(0, 180)] [(55, 55)] [(50, 60)] [(1, 8)] [(0, 0)]
def mgh18220 : aw_H := [(81, mgx18219)]
def mgx18221 : aw_A := ms_o [(0, 8)] [(0, 4)] ar_t32 ar_t32 [(0, 180)] [(56, 56)] [(50, 60)] [(1, 8)] [(0, 0)]
def mgh18222 : aw_H := [(81, mgx18221)]
def mgx18223 : aw_A := ms_o [(0, 8)] [(0, 4)] ar_t32 ar_t32 [(0, 180)] [(57, 57)] [(50, 60)] [(1, 8)] [(0, 0)]
def mgh18224 : aw_H := [(81, mgx18223)]
def mgx18225 : aw_A := ms_o [(0, 8)] [(0, 4)] ar_t32 ar_t32 [(0, 180)] [(58, 58)] [(50, 60)] [(1, 8)] [(0, 0)]
def mgh18226 : aw_H := [(81, mgx18225)]
def mgx18227 : aw_A := ms_o [(0, 8)] [(0, 4)] ar_t32 ar_t32 [(0, 180)] [(59, 59)] [(50, 60)] [(1, 8)] [(0, 0)]
def mgh18228 : aw_H := [(81, mgx18227)]
def mgx18229 : aw_A := ms_o [(0, 8)] [(0, 4)] ar_t32 ar_t32 [(0, 180)] [(60, 60)] [(50, 60)] [(1, 8)] [(0, 0)]
def mgh18230 : aw_H := [(81, mgx18229)]
/-- MiceRegistersModel.skip -/
def mgh18231 : aw_H := [(81, mgx18204), (90, .inr (.inl (0, 240, [], [])))]
def mgc1093 : ak_C := (122, [.inl 81], mgh18231, [81], [([], none, mgh18210), ([], none, mgh18212), ([], none, mgh18214), ([], none, mgh18216), ([], none, mgh18218), ([], none, mgh18220), ([], none, mgh18222), ([], none, mgh18224), ([], none, mgh18226), ([], none, mgh18228), ([], none, mgh18230)])
/-- MiceRegistersModel.figure -/
def mgc1094 : ak_C := (125, [.inl 81, .inr (false, [(0, 0)]), .inr (false, [(0, 7)])], mgh17715, [81], [([], some (.inr (false, [(-9, -9)])), mgh17688), ([], some (.inr (false, [(0, 7)])), mgh17872)])
/-- MiceRegistersModel.figure -/
def mgc1095 : ak_C := (125, [.inl 81, .inr (false, [(1, 1)]), .inr (false, [(9, 9)])], mgh17897, [81], [([], some (.inr (false, [(-9, -9)])), mgh17872), ([], some (.inr (false, [(1, 9)])), mgh18046)])
def mgh18232 : aw_H := [(81, mgx18208), (94, mgx5049)]
def mgx18233 : aw_A := ms_o [(0, 8)] [(0, 4)] ar_t32 ar_t32 [(0, 180)] [(49, 49)] [(49, 60)] [(1, 8)] [(1, 1)]
def mgh18234 : aw_H := [(81, mgx18233), (94, mgx5052)]
def mgh18235 : aw_H := [(81, mgx17866), (94, mgx5049)]
/-- MiceRegistersModel.readsMouse -/
def mgh18236 : aw_H := [(81, mgx18208), (90, .inr (.inl (0, 240, [], []))), (94, mgx5049)]
def mgc1096 : ak_C := (127, [.inl 81], mgh18236, [81, 94], [([], some (.inr (false, [(0, 0)])), mgh18232), ([], some (.inr (false, [(1, 1)])), mgh18234), ([], some (.inr (false, [(0, 0)])), mgh18235), ([], some (.inr (false, [(0, 0)])), mgh18073)])
theorem mgk1096 : ai_chk [mgc33, mgc148, mgc1094, mgc1095] mgc1096 (fun pc => sm_ch sm_t127 pc, sm_Kn 3 5 none, fun x => sm_lk sm_ca3 x, some .boolean) [81, 94] 5 0 [] [] 2000 [] = true := by decide +kernel
def mgh18237 : aw_H := [(81, mgx18233)]
def mgx18238 : aw_A := ms_o [(0, 8)] [(0, 4)] ar_t32 ar_t32 [(0, 180)] [(50, 50)] [(49, 60)] [(1, 8)] [(1, 1)]
def mgh18239 : aw_H := [(81, mgx18238)]
def mgx18240 : aw_A := ms_o [(0, 8)] [(0, 4)] ar_t32 ar_t32 [(0, 180)] [(51, 51)] [(49, 60)] [(1, 8)] [(1, 1)]
def mgh18241 : aw_H := [(81, mgx18240)]
def mgx18242 : aw_A := ms_o [(0, 8)] [(0, 4)] ar_t32 ar_t32 [(0, 180)] [(52, 52)] [(49, 60)] [(1, 8)] [(1, 1)]
def mgh18243 : aw_H := [(81, mgx18242)]
def mgx18244 : aw_A := ms_o [(0, 8)] [(0, 4)] ar_t32 ar_t32 [(0, 180)] [(53, 53)] [(49, 60)] [(1, 8)] [(1, 1)]
def mgh18245 : aw_H := [(81, mgx18244)]
def mgx18246 : aw_A := ms_o [(0, 8)] [(0, 4)] ar_t32 ar_t32 [(0, 180)] [(54, 54)] [(49, 60)] [(1, 8)] [(1, 1)]
def mgh18247 : aw_H := [(81, mgx18246)]
def mgx18248 : aw_A := ms_o [(0, 8)] [(0, 4)] ar_t32 ar_t32 [(0, 180)] [(55, 55)] [(49, 60)] [(1, 8)] [(1, 1)]
def mgh18249 : aw_H := [(81, mgx18248)]
def mgx18250 : aw_A := ms_o [(0, 8)] [(0, 4)] ar_t32 ar_t32 [(0, 180)] [(56, 56)] [(49, 60)] [(1, 8)] [(1, 1)]
def mgh18251 : aw_H := [(81, mgx18250)]
def mgx18252 : aw_A := ms_o [(0, 8)] [(0, 4)] ar_t32 ar_t32 [(0, 180)] [(57, 57)] [(49, 60)] [(1, 8)] [(1, 1)]
def mgh18253 : aw_H := [(81, mgx18252)]
def mgx18254 : aw_A := ms_o [(0, 8)] [(0, 4)] ar_t32 ar_t32 [(0, 180)] [(58, 58)] [(49, 60)] [(1, 8)] [(1, 1)]
def mgh18255 : aw_H := [(81, mgx18254)]
def mgx18256 : aw_A := ms_o [(0, 8)] [(0, 4)] ar_t32 ar_t32 [(0, 180)] [(59, 59)] [(49, 60)] [(1, 8)] [(1, 1)]
def mgh18257 : aw_H := [(81, mgx18256)]
def mgx18258 : aw_A := ms_o [(0, 8)] [(0, 4)] ar_t32 ar_t32 [(0, 180)] [(60, 60)] [(49, 60)] [(1, 8)] [(1, 1)]
def mgh18259 : aw_H := [(81, mgx18258)]
/-- MiceRegistersModel.skip -/
def mgh18260 : aw_H := [(81, mgx18233), (90, .inr (.inl (0, 240, [], [])))]
def mgc1097 : ak_C := (122, [.inl 81], mgh18260, [81], [([], none, mgh18237), ([], none, mgh18239), ([], none, mgh18241), ([], none, mgh18243), ([], none, mgh18245), ([], none, mgh18247), ([], none, mgh18249), ([], none, mgh18251), ([], none, mgh18253), ([], none, mgh18255), ([], none, mgh18257), ([], none, mgh18259)])
/-- MiceRegistersModel.readsLine -/
def mgx18261 : aw_A := ms_o [(0, 8)] [(0, 4)] ar_t32 ar_t32 [(0, 180)] [(46, 46)] [(47, 60)] [(1, 8)] [(1, 1)]
def mgh18262 : aw_H := [(81, mgx18261)]
def mgc1098 : ak_C := (124, [.inl 81], mgh18262, [], [([], some (.inr (false, [(0, 0)])), [])])
theorem mgk1098 : ai_chk [] mgc1098 (fun pc => sm_ch sm_t124 pc, sm_Kn 3 3 none, fun x => sm_lk sm_ca3 x, some .boolean) [] 3 0 [] [] 2000 [] = true := by decide +kernel
/-- MiceRegistersModel.figure -/
def mgc1099 : ak_C := (125, [.inl 81, .inr (false, [(0, 0)]), .inr (false, [(0, 7)])], mgh17930, [81], [([], some (.inr (false, [(-9, -9)])), mgh17903), ([], some (.inr (false, [(0, 7)])), mgh18075)])
/-- MiceRegistersModel.figure -/
def mgc1100 : ak_C := (125, [.inl 81, .inr (false, [(1, 1)]), .inr (false, [(9, 9)])], mgh18100, [81], [([], some (.inr (false, [(-9, -9)])), mgh18075), ([], some (.inr (false, [(1, 9)])), mgh18237)])
def mgh18263 : aw_H := [(81, mgx18261), (94, mgx5052)]
def mgx18264 : aw_A := ms_o [(0, 8)] [(0, 4)] ar_t32 ar_t32 [(0, 180)] [(49, 49)] [(49, 60)] [(1, 8)] [(2, 2)]
def mgh18265 : aw_H := [(81, mgx18264), (94, mgx5820)]
/-- MiceRegistersModel.readsMouse -/
def mgh18266 : aw_H := [(81, mgx18261), (90, .inr (.inl (0, 240, [], []))), (94, mgx5052)]
def mgc1101 : ak_C := (127, [.inl 81], mgh18266, [81, 94], [([], some (.inr (false, [(0, 0)])), mgh18263), ([], some (.inr (false, [(1, 1)])), mgh18265), ([], some (.inr (false, [(0, 0)])), mgh18072), ([], some (.inr (false, [(0, 0)])), mgh17900)])
theorem mgk1101 : ai_chk [mgc33, mgc148, mgc1099, mgc1100] mgc1101 (fun pc => sm_ch sm_t127 pc, sm_Kn 3 5 none, fun x => sm_lk sm_ca3 x, some .boolean) [81, 94] 5 0 [] [] 2000 [] = true := by decide +kernel
def mgh18267 : aw_H := [(81, mgx18264)]
def mgx18268 : aw_A := ms_o [(0, 8)] [(0, 4)] ar_t32 ar_t32 [(0, 180)] [(50, 50)] [(49, 60)] [(1, 8)] [(2, 2)]
def mgh18269 : aw_H := [(81, mgx18268)]
def mgx18270 : aw_A := ms_o [(0, 8)] [(0, 4)] ar_t32 ar_t32 [(0, 180)] [(51, 51)] [(49, 60)] [(1, 8)] [(2, 2)]
def mgh18271 : aw_H := [(81, mgx18270)]
def mgx18272 : aw_A := ms_o [(0, 8)] [(0, 4)] ar_t32 ar_t32 [(0, 180)] [(52, 52)] [(49, 60)] [(1, 8)] [(2, 2)]
def mgh18273 : aw_H := [(81, mgx18272)]
def mgx18274 : aw_A := ms_o [(0, 8)] [(0, 4)] ar_t32 ar_t32 [(0, 180)] [(53, 53)] [(49, 60)] [(1, 8)] [(2, 2)]
def mgh18275 : aw_H := [(81, mgx18274)]
def mgx18276 : aw_A := ms_o [(0, 8)] [(0, 4)] ar_t32 ar_t32 [(0, 180)] [(54, 54)] [(49, 60)] [(1, 8)] [(2, 2)]
def mgh18277 : aw_H := [(81, mgx18276)]
def mgx18278 : aw_A := ms_o [(0, 8)] [(0, 4)] ar_t32 ar_t32 [(0, 180)] [(55, 55)] [(49, 60)] [(1, 8)] [(2, 2)]
def mgh18279 : aw_H := [(81, mgx18278)]
def mgx18280 : aw_A := ms_o [(0, 8)] [(0, 4)] ar_t32 ar_t32 [(0, 180)] [(56, 56)] [(49, 60)] [(1, 8)] [(2, 2)]
def mgh18281 : aw_H := [(81, mgx18280)]
def mgx18282 : aw_A := ms_o [(0, 8)] [(0, 4)] ar_t32 ar_t32 [(0, 180)] [(57, 57)] [(49, 60)] [(1, 8)] [(2, 2)]
def mgh18283 : aw_H := [(81, mgx18282)]
def mgx18284 : aw_A := ms_o [(0, 8)] [(0, 4)] ar_t32 ar_t32 [(0, 180)] [(58, 58)] [(49, 60)] [(1, 8)] [(2, 2)]
def mgh18285 : aw_H := [(81, mgx18284)]
def mgx18286 : aw_A := ms_o [(0, 8)] [(0, 4)] ar_t32 ar_t32 [(0, 180)] [(59, 59)] [(49, 60)] [(1, 8)] [(2, 2)]
def mgh18287 : aw_H := [(81, mgx18286)]
def mgx18288 : aw_A := ms_o [(0, 8)] [(0, 4)] ar_t32 ar_t32 [(0, 180)] [(60, 60)] [(49, 60)] [(1, 8)] [(2, 2)]
def mgh18289 : aw_H := [(81, mgx18288)]
/-- MiceRegistersModel.skip -/
def mgh18290 : aw_H := [(81, mgx18264), (90, .inr (.inl (0, 240, [], [])))]
def mgc1102 : ak_C := (122, [.inl 81], mgh18290, [81], [([], none, mgh18267), ([], none, mgh18269), ([], none, mgh18271), ([], none, mgh18273), ([], none, mgh18275), ([], none, mgh18277), ([], none, mgh18279), ([], none, mgh18281), ([], none, mgh18283), ([], none, mgh18285), ([], none, mgh18287), ([], none, mgh18289)])
/-- MiceRegistersModel.readsLine -/
def mgx18291 : aw_A := ms_o [(0, 8)] [(0, 4)] ar_t32 ar_t32 [(0, 180)] [(46, 46)] [(47, 60)] [(1, 8)] [(2, 2)]
def mgh18292 : aw_H := [(81, mgx18291)]
def mgc1103 : ak_C := (124, [.inl 81], mgh18292, [], [([], some (.inr (false, [(0, 0)])), [])])
theorem mgk1103 : ai_chk [] mgc1103 (fun pc => sm_ch sm_t124 pc, sm_Kn 3 3 none, fun x => sm_lk sm_ca3 x, some .boolean) [] 3 0 [] [] 2000 [] = true := by decide +kernel
/-- MiceRegistersModel.figure -/
def mgc1104 : ak_C := (125, [.inl 81, .inr (false, [(0, 0)]), .inr (false, [(0, 7)])], mgh17964, [81], [([], some (.inr (false, [(-9, -9)])), mgh17937), ([], some (.inr (false, [(0, 7)])), mgh18107)])
/-- MiceRegistersModel.figure -/
def mgc1105 : ak_C := (125, [.inl 81, .inr (false, [(1, 1)]), .inr (false, [(9, 9)])], mgh18132, [81], [([], some (.inr (false, [(-9, -9)])), mgh18107), ([], some (.inr (false, [(1, 9)])), mgh18267)])
def mgh18293 : aw_H := [(81, mgx18291), (94, mgx5820)]
def mgx18294 : aw_A := ms_o [(0, 8)] [(0, 4)] ar_t32 ar_t32 [(0, 180)] [(49, 49)] [(49, 60)] [(1, 8)] [(3, 3)]
def mgh18295 : aw_H := [(81, mgx18294), (94, mgx6868)]
/-- MiceRegistersModel.readsMouse -/
def mgh18296 : aw_H := [(81, mgx18291), (90, .inr (.inl (0, 240, [], []))), (94, mgx5820)]
def mgc1106 : ak_C := (127, [.inl 81], mgh18296, [81, 94], [([], some (.inr (false, [(0, 0)])), mgh18293), ([], some (.inr (false, [(1, 1)])), mgh18295), ([], some (.inr (false, [(0, 0)])), mgh18105), ([], some (.inr (false, [(0, 0)])), mgh17935)])
theorem mgk1106 : ai_chk [mgc33, mgc148, mgc1104, mgc1105] mgc1106 (fun pc => sm_ch sm_t127 pc, sm_Kn 3 5 none, fun x => sm_lk sm_ca3 x, some .boolean) [81, 94] 5 0 [] [] 2000 [] = true := by decide +kernel
def mgh18297 : aw_H := [(81, mgx18294)]
def mgx18298 : aw_A := ms_o [(0, 8)] [(0, 4)] ar_t32 ar_t32 [(0, 180)] [(50, 50)] [(49, 60)] [(1, 8)] [(3, 3)]
def mgh18299 : aw_H := [(81, mgx18298)]
def mgx18300 : aw_A := ms_o [(0, 8)] [(0, 4)] ar_t32 ar_t32 [(0, 180)] [(51, 51)] [(49, 60)] [(1, 8)] [(3, 3)]
def mgh18301 : aw_H := [(81, mgx18300)]
def mgx18302 : aw_A := ms_o [(0, 8)] [(0, 4)] ar_t32 ar_t32 [(0, 180)] [(52, 52)] [(49, 60)] [(1, 8)] [(3, 3)]
def mgh18303 : aw_H := [(81, mgx18302)]
def mgx18304 : aw_A := ms_o [(0, 8)] [(0, 4)] ar_t32 ar_t32 [(0, 180)] [(53, 53)] [(49, 60)] [(1, 8)] [(3, 3)]
def mgh18305 : aw_H := [(81, mgx18304)]
def mgx18306 : aw_A := ms_o [(0, 8)] [(0, 4)] ar_t32 ar_t32 [(0, 180)] [(54, 54)] [(49, 60)] [(1, 8)] [(3, 3)]
def mgh18307 : aw_H := [(81, mgx18306)]
def mgx18308 : aw_A := ms_o [(0, 8)] [(0, 4)] ar_t32 ar_t32 [(0, 180)] [(55, 55)] [(49, 60)] [(1, 8)] [(3, 3)]
def mgh18309 : aw_H := [(81, mgx18308)]
def mgx18310 : aw_A := ms_o [(0, 8)] [(0, 4)] ar_t32 ar_t32 [(0, 180)] [(56, 56)] [(49, 60)] [(1, 8)] [(3, 3)]
def mgh18311 : aw_H := [(81, mgx18310)]
def mgx18312 : aw_A := ms_o [(0, 8)] [(0, 4)] ar_t32 ar_t32 [(0, 180)] [(57, 57)] [(49, 60)] [(1, 8)] [(3, 3)]
def mgh18313 : aw_H := [(81, mgx18312)]
def mgx18314 : aw_A := ms_o [(0, 8)] [(0, 4)] ar_t32 ar_t32 [(0, 180)] [(58, 58)] [(49, 60)] [(1, 8)] [(3, 3)]
def mgh18315 : aw_H := [(81, mgx18314)]
def mgx18316 : aw_A := ms_o [(0, 8)] [(0, 4)] ar_t32 ar_t32 [(0, 180)] [(59, 59)] [(49, 60)] [(1, 8)] [(3, 3)]
def mgh18317 : aw_H := [(81, mgx18316)]
def mgx18318 : aw_A := ms_o [(0, 8)] [(0, 4)] ar_t32 ar_t32 [(0, 180)] [(60, 60)] [(49, 60)] [(1, 8)] [(3, 3)]
def mgh18319 : aw_H := [(81, mgx18318)]
/-- MiceRegistersModel.skip -/
def mgh18320 : aw_H := [(81, mgx18294), (90, .inr (.inl (0, 240, [], [])))]
def mgc1107 : ak_C := (122, [.inl 81], mgh18320, [81], [([], none, mgh18297), ([], none, mgh18299), ([], none, mgh18301), ([], none, mgh18303), ([], none, mgh18305), ([], none, mgh18307), ([], none, mgh18309), ([], none, mgh18311), ([], none, mgh18313), ([], none, mgh18315), ([], none, mgh18317), ([], none, mgh18319)])
/-- MiceRegistersModel.readsLine -/
def mgx18321 : aw_A := ms_o [(0, 8)] [(0, 4)] ar_t32 ar_t32 [(0, 180)] [(46, 46)] [(47, 60)] [(1, 8)] [(3, 3)]
def mgh18322 : aw_H := [(81, mgx18321)]
def mgc1108 : ak_C := (124, [.inl 81], mgh18322, [], [([], some (.inr (false, [(0, 0)])), [])])
theorem mgk1108 : ai_chk [] mgc1108 (fun pc => sm_ch sm_t124 pc, sm_Kn 3 3 none, fun x => sm_lk sm_ca3 x, some .boolean) [] 3 0 [] [] 2000 [] = true := by decide +kernel
/-- MiceRegistersModel.figure -/
def mgc1109 : ak_C := (125, [.inl 81, .inr (false, [(0, 0)]), .inr (false, [(0, 7)])], mgh17998, [81], [([], some (.inr (false, [(-9, -9)])), mgh17971), ([], some (.inr (false, [(0, 7)])), mgh18139)])
/-- MiceRegistersModel.figure -/
def mgc1110 : ak_C := (125, [.inl 81, .inr (false, [(1, 1)]), .inr (false, [(9, 9)])], mgh18164, [81], [([], some (.inr (false, [(-9, -9)])), mgh18139), ([], some (.inr (false, [(1, 9)])), mgh18297)])
def mgh18323 : aw_H := [(81, mgx18321), (94, mgx6868)]
def mgx18324 : aw_A := ms_o [(0, 8)] [(0, 4)] ar_t32 ar_t32 [(0, 180)] [(49, 49)] [(49, 60)] [(1, 8)] [(4, 4)]
def mgh18325 : aw_H := [(81, mgx18324), (94, mgx8150)]
/-- MiceRegistersModel.readsMouse -/
def mgh18326 : aw_H := [(81, mgx18321), (90, .inr (.inl (0, 240, [], []))), (94, mgx6868)]
def mgc1111 : ak_C := (127, [.inl 81], mgh18326, [81, 94], [([], some (.inr (false, [(0, 0)])), mgh18323), ([], some (.inr (false, [(1, 1)])), mgh18325), ([], some (.inr (false, [(0, 0)])), mgh18137), ([], some (.inr (false, [(0, 0)])), mgh17969)])
theorem mgk1111 : ai_chk [mgc33, mgc148, mgc1109, mgc1110] mgc1111 (fun pc => sm_ch sm_t127 pc, sm_Kn 3 5 none, fun x => sm_lk sm_ca3 x, some .boolean) [81, 94] 5 0 [] [] 2000 [] = true := by decide +kernel
def mgh18327 : aw_H := [(81, mgx18324)]
def mgx18328 : aw_A := ms_o [(0, 8)] [(0, 4)] ar_t32 ar_t32 [(0, 180)] [(50, 50)] [(49, 60)] [(1, 8)] [(4, 4)]
def mgh18329 : aw_H := [(81, mgx18328)]
def mgx18330 : aw_A := ms_o [(0, 8)] [(0, 4)] ar_t32 ar_t32 [(0, 180)] [(51, 51)] [(49, 60)] [(1, 8)] [(4, 4)]
def mgh18331 : aw_H := [(81, mgx18330)]
def mgx18332 : aw_A := ms_o [(0, 8)] [(0, 4)] ar_t32 ar_t32 [(0, 180)] [(52, 52)] [(49, 60)] [(1, 8)] [(4, 4)]
def mgh18333 : aw_H := [(81, mgx18332)]
def mgx18334 : aw_A := ms_o [(0, 8)] [(0, 4)] ar_t32 ar_t32 [(0, 180)] [(53, 53)] [(49, 60)] [(1, 8)] [(4, 4)]
def mgh18335 : aw_H := [(81, mgx18334)]
def mgx18336 : aw_A := ms_o [(0, 8)] [(0, 4)] ar_t32 ar_t32 [(0, 180)] [(54, 54)] [(49, 60)] [(1, 8)] [(4, 4)]
def mgh18337 : aw_H := [(81, mgx18336)]
def mgx18338 : aw_A := ms_o [(0, 8)] [(0, 4)] ar_t32 ar_t32 [(0, 180)] [(55, 55)] [(49, 60)] [(1, 8)] [(4, 4)]
def mgh18339 : aw_H := [(81, mgx18338)]
def mgx18340 : aw_A := ms_o [(0, 8)] [(0, 4)] ar_t32 ar_t32 [(0, 180)] [(56, 56)] [(49, 60)] [(1, 8)] [(4, 4)]
def mgh18341 : aw_H := [(81, mgx18340)]
def mgx18342 : aw_A := ms_o [(0, 8)] [(0, 4)] ar_t32 ar_t32 [(0, 180)] [(57, 57)] [(49, 60)] [(1, 8)] [(4, 4)]
def mgh18343 : aw_H := [(81, mgx18342)]
def mgx18344 : aw_A := ms_o [(0, 8)] [(0, 4)] ar_t32 ar_t32 [(0, 180)] [(58, 58)] [(49, 60)] [(1, 8)] [(4, 4)]
def mgh18345 : aw_H := [(81, mgx18344)]
def mgx18346 : aw_A := ms_o [(0, 8)] [(0, 4)] ar_t32 ar_t32 [(0, 180)] [(59, 59)] [(49, 60)] [(1, 8)] [(4, 4)]
def mgh18347 : aw_H := [(81, mgx18346)]
def mgx18348 : aw_A := ms_o [(0, 8)] [(0, 4)] ar_t32 ar_t32 [(0, 180)] [(60, 60)] [(49, 60)] [(1, 8)] [(4, 4)]
def mgh18349 : aw_H := [(81, mgx18348)]
/-- MiceRegistersModel.skip -/
def mgh18350 : aw_H := [(81, mgx18324), (90, .inr (.inl (0, 240, [], [])))]
def mgc1112 : ak_C := (122, [.inl 81], mgh18350, [81], [([], none, mgh18327), ([], none, mgh18329), ([], none, mgh18331), ([], none, mgh18333), ([], none, mgh18335), ([], none, mgh18337), ([], none, mgh18339), ([], none, mgh18341), ([], none, mgh18343), ([], none, mgh18345), ([], none, mgh18347), ([], none, mgh18349)])
/-- MiceRegistersModel.readsLine -/
def mgx18351 : aw_A := ms_o [(0, 8)] [(0, 4)] ar_t32 ar_t32 [(0, 180)] [(46, 46)] [(47, 60)] [(1, 8)] [(4, 4)]
def mgh18352 : aw_H := [(81, mgx18351)]
def mgc1113 : ak_C := (124, [.inl 81], mgh18352, [], [([], some (.inr (false, [(0, 0)])), [])])
theorem mgk1113 : ai_chk [] mgc1113 (fun pc => sm_ch sm_t124 pc, sm_Kn 3 3 none, fun x => sm_lk sm_ca3 x, some .boolean) [] 3 0 [] [] 2000 [] = true := by decide +kernel
/-- MiceRegistersModel.readsMouse -/
def mgh18353 : aw_H := [(81, mgx18351), (90, .inr (.inl (0, 240, [], [])))]
def mgc1114 : ak_C := (127, [.inl 81], mgh18353, [], [([], some (.inr (false, [(0, 0)])), [])])
theorem mgk1114 : ai_chk [mgc33, mgc148] mgc1114 (fun pc => sm_ch sm_t127 pc, sm_Kn 3 5 none, fun x => sm_lk sm_ca3 x, some .boolean) [] 5 0 [] [] 2000 [] = true := by decide +kernel
def mgx18354 : aw_A := ms_o [(0, 8)] [(0, 4)] ar_t32 ar_t32 [(0, 180)] [(51, 51)] [(51, 60)] [(0, 7)] [(0, 0)]
def mgh18355 : aw_H := [(81, mgx18354)]
/-- MiceRegistersModel.figure -/
def mgh18356 : aw_H := [(81, mgx18200), (90, .inr (.inl (0, 240, [], [])))]
def mgc1115 : ak_C := (125, [.inl 81, .inr (false, [(0, 0)]), .inr (false, [(9, 9)])], mgh18356, [81], [([], some (.inr (false, [(-9, -9)])), mgh18201), ([], some (.inr (false, [(0, 9)])), mgh18355)])
/-- MiceRegistersModel.twoFigures -/
def mgc1116 : ak_C := (126, [.inl 81, .inr (false, [(1, 1)]), .inr (false, [(40, 40)])], mgh18202, [81], [([], some (.inr (false, [(-9, -9)])), mgh18037), ([], some (.inr (false, [(0, 99)])), mgh18355), ([], some (.inr (false, [(-9, -9)])), mgh18201)])
theorem mgk1116 : ai_chk [mgc1090, mgc1115, mgc144] mgc1116 (fun pc => sm_ch sm_t126 pc, sm_Kn 3 6 none, fun x => sm_lk sm_ca3 x, some .int) [81] 6 0 [] [] 2000 [] = true := by decide +kernel
def mgh18357 : aw_H := [(81, mgx18200), (92, .inr (.inl (0, 8, [], []))), (93, .inr (.inl (0, 8, [], [])))]
def mgx18358 : aw_A := ms_o [(0, 8)] [(0, 4)] ar_t32 ar_t32 [(0, 180)] [(51, 51)] [(51, 60)] [(1, 8)] [(0, 0)]
def mgh18359 : aw_H := [(81, mgx18358), (92, .inr (.inl (0, 8, [], []))), (93, .inr (.inl (0, 8, [], [])))]
def mgx18360 : aw_A := ms_o [(0, 8)] [(0, 4)] ar_t32 ar_t32 [(0, 180)] [(47, 47)] [(48, 60)] [(8, 8)] [(0, 0)]
def mgh18361 : aw_H := [(81, mgx18360), (92, .inr (.inl (0, 8, [], []))), (93, .inr (.inl (0, 8, [], [])))]
/-- MiceRegistersModel.readsLine -/
def mgx18362 : aw_A := ms_o [(0, 8)] [(0, 4)] ar_t32 ar_t32 [(0, 180)] [(47, 47)] [(48, 60)] [(0, 8)] [(0, 0)]
def mgh18363 : aw_H := [(81, mgx18362), (90, .inr (.inl (0, 240, [], []))), (92, .inr (.inl (0, 8, [], []))), (93, .inr (.inl (0, 8, [], [])))]
def mgc1117 : ak_C := (124, [.inl 81], mgh18363, [81, 92, 93], [([], some (.inr (false, [(0, 0)])), mgh18357), ([], some (.inr (false, [(1, 1)])), mgh18359), ([], some (.inr (false, [(0, 0)])), mgh18203), ([], some (.inr (false, [(0, 0)])), mgh18039), ([], some (.inr (false, [(0, 0)])), mgh18361)])
theorem mgk1117 : ai_chk [mgc1065, mgc1116] mgc1117 (fun pc => sm_ch sm_t124 pc, sm_Kn 3 3 none, fun x => sm_lk sm_ca3 x, some .boolean) [81, 92, 93] 3 0 [] [] 2000 [] = true := by decide +kernel
def mgh18364 : aw_H := [(81, mgx18358)]
def mgx18365 : aw_A := ms_o [(0, 8)] [(0, 4)] ar_t32 ar_t32 [(0, 180)] [(52, 52)] [(51, 60)] [(1, 8)] [(0, 0)]
def mgh18366 : aw_H := [(81, mgx18365)]
def mgx18367 : aw_A := ms_o [(0, 8)] [(0, 4)] ar_t32 ar_t32 [(0, 180)] [(53, 53)] [(51, 60)] [(1, 8)] [(0, 0)]
def mgh18368 : aw_H := [(81, mgx18367)]
def mgx18369 : aw_A := ms_o [(0, 8)] [(0, 4)] ar_t32 ar_t32 [(0, 180)] [(54, 54)] [(51, 60)] [(1, 8)] [(0, 0)]
def mgh18370 : aw_H := [(81, mgx18369)]
def mgx18371 : aw_A := ms_o [(0, 8)] [(0, 4)] ar_t32 ar_t32 [(0, 180)] [(55, 55)] [(51, 60)] [(1, 8)] [(0, 0)]
def mgh18372 : aw_H := [(81, mgx18371)]
def mgx18373 : aw_A := ms_o [(0, 8)] [(0, 4)] ar_t32 ar_t32 [(0, 180)] [(56, 56)] [(51, 60)] [(1, 8)] [(0, 0)]
def mgh18374 : aw_H := [(81, mgx18373)]
def mgx18375 : aw_A := ms_o [(0, 8)] [(0, 4)] ar_t32 ar_t32 [(0, 180)] [(57, 57)] [(51, 60)] [(1, 8)] [(0, 0)]
def mgh18376 : aw_H := [(81, mgx18375)]
def mgx18377 : aw_A := ms_o [(0, 8)] [(0, 4)] ar_t32 ar_t32 [(0, 180)] [(58, 58)] [(51, 60)] [(1, 8)] [(0, 0)]
def mgh18378 : aw_H := [(81, mgx18377)]
def mgx18379 : aw_A := ms_o [(0, 8)] [(0, 4)] ar_t32 ar_t32 [(0, 180)] [(59, 59)] [(51, 60)] [(1, 8)] [(0, 0)]
def mgh18380 : aw_H := [(81, mgx18379)]
def mgx18381 : aw_A := ms_o [(0, 8)] [(0, 4)] ar_t32 ar_t32 [(0, 180)] [(60, 60)] [(51, 60)] [(1, 8)] [(0, 0)]
def mgh18382 : aw_H := [(81, mgx18381)]
/-- MiceRegistersModel.skip -/
def mgh18383 : aw_H := [(81, mgx18358), (90, .inr (.inl (0, 240, [], [])))]
def mgc1118 : ak_C := (122, [.inl 81], mgh18383, [81], [([], none, mgh18364), ([], none, mgh18366), ([], none, mgh18368), ([], none, mgh18370), ([], none, mgh18372), ([], none, mgh18374), ([], none, mgh18376), ([], none, mgh18378), ([], none, mgh18380), ([], none, mgh18382)])
/-- MiceRegistersModel.figure -/
def mgc1119 : ak_C := (125, [.inl 81, .inr (false, [(0, 0)]), .inr (false, [(0, 7)])], mgh17897, [81], [([], some (.inr (false, [(-9, -9)])), mgh17872), ([], some (.inr (false, [(0, 7)])), mgh18046)])
/-- MiceRegistersModel.figure -/
def mgc1120 : ak_C := (125, [.inl 81, .inr (false, [(1, 1)]), .inr (false, [(9, 9)])], mgh18069, [81], [([], some (.inr (false, [(-9, -9)])), mgh18046), ([], some (.inr (false, [(1, 9)])), mgh18210)])
def mgh18384 : aw_H := [(81, mgx18362), (94, mgx5049)]
def mgx18385 : aw_A := ms_o [(0, 8)] [(0, 4)] ar_t32 ar_t32 [(0, 180)] [(50, 50)] [(50, 60)] [(1, 8)] [(1, 1)]
def mgh18386 : aw_H := [(81, mgx18385), (94, mgx5052)]
def mgh18387 : aw_H := [(81, mgx18040), (94, mgx5049)]
/-- MiceRegistersModel.readsMouse -/
def mgh18388 : aw_H := [(81, mgx18362), (90, .inr (.inl (0, 240, [], []))), (94, mgx5049)]
def mgc1121 : ak_C := (127, [.inl 81], mgh18388, [81, 94], [([], some (.inr (false, [(0, 0)])), mgh18384), ([], some (.inr (false, [(1, 1)])), mgh18386), ([], some (.inr (false, [(0, 0)])), mgh18387), ([], some (.inr (false, [(0, 0)])), mgh18235)])
theorem mgk1121 : ai_chk [mgc32, mgc148, mgc1119, mgc1120] mgc1121 (fun pc => sm_ch sm_t127 pc, sm_Kn 3 5 none, fun x => sm_lk sm_ca3 x, some .boolean) [81, 94] 5 0 [] [] 2000 [] = true := by decide +kernel
def mgh18389 : aw_H := [(81, mgx18385)]
def mgx18390 : aw_A := ms_o [(0, 8)] [(0, 4)] ar_t32 ar_t32 [(0, 180)] [(51, 51)] [(50, 60)] [(1, 8)] [(1, 1)]
def mgh18391 : aw_H := [(81, mgx18390)]
def mgx18392 : aw_A := ms_o [(0, 8)] [(0, 4)] ar_t32 ar_t32 [(0, 180)] [(52, 52)] [(50, 60)] [(1, 8)] [(1, 1)]
def mgh18393 : aw_H := [(81, mgx18392)]
def mgx18394 : aw_A := ms_o [(0, 8)] [(0, 4)] ar_t32 ar_t32 [(0, 180)] [(53, 53)] [(50, 60)] [(1, 8)] [(1, 1)]
def mgh18395 : aw_H := [(81, mgx18394)]
def mgx18396 : aw_A := ms_o [(0, 8)] [(0, 4)] ar_t32 ar_t32 [(0, 180)] [(54, 54)] [(50, 60)] [(1, 8)] [(1, 1)]
def mgh18397 : aw_H := [(81, mgx18396)]
def mgx18398 : aw_A := ms_o [(0, 8)] [(0, 4)] ar_t32 ar_t32 [(0, 180)] [(55, 55)] [(50, 60)] [(1, 8)] [(1, 1)]
def mgh18399 : aw_H := [(81, mgx18398)]
def mgx18400 : aw_A := ms_o [(0, 8)] [(0, 4)] ar_t32 ar_t32 [(0, 180)] [(56, 56)] [(50, 60)] [(1, 8)] [(1, 1)]
def mgh18401 : aw_H := [(81, mgx18400)]
def mgx18402 : aw_A := ms_o [(0, 8)] [(0, 4)] ar_t32 ar_t32 [(0, 180)] [(57, 57)] [(50, 60)] [(1, 8)] [(1, 1)]
def mgh18403 : aw_H := [(81, mgx18402)]
def mgx18404 : aw_A := ms_o [(0, 8)] [(0, 4)] ar_t32 ar_t32 [(0, 180)] [(58, 58)] [(50, 60)] [(1, 8)] [(1, 1)]
def mgh18405 : aw_H := [(81, mgx18404)]
def mgx18406 : aw_A := ms_o [(0, 8)] [(0, 4)] ar_t32 ar_t32 [(0, 180)] [(59, 59)] [(50, 60)] [(1, 8)] [(1, 1)]
def mgh18407 : aw_H := [(81, mgx18406)]
def mgx18408 : aw_A := ms_o [(0, 8)] [(0, 4)] ar_t32 ar_t32 [(0, 180)] [(60, 60)] [(50, 60)] [(1, 8)] [(1, 1)]
def mgh18409 : aw_H := [(81, mgx18408)]
/-- MiceRegistersModel.skip -/
def mgh18410 : aw_H := [(81, mgx18385), (90, .inr (.inl (0, 240, [], [])))]
def mgc1122 : ak_C := (122, [.inl 81], mgh18410, [81], [([], none, mgh18389), ([], none, mgh18391), ([], none, mgh18393), ([], none, mgh18395), ([], none, mgh18397), ([], none, mgh18399), ([], none, mgh18401), ([], none, mgh18403), ([], none, mgh18405), ([], none, mgh18407), ([], none, mgh18409)])
/-- MiceRegistersModel.readsLine -/
def mgx18411 : aw_A := ms_o [(0, 8)] [(0, 4)] ar_t32 ar_t32 [(0, 180)] [(47, 47)] [(48, 60)] [(1, 8)] [(1, 1)]
def mgh18412 : aw_H := [(81, mgx18411)]
def mgc1123 : ak_C := (124, [.inl 81], mgh18412, [], [([], some (.inr (false, [(0, 0)])), [])])
theorem mgk1123 : ai_chk [] mgc1123 (fun pc => sm_ch sm_t124 pc, sm_Kn 3 3 none, fun x => sm_lk sm_ca3 x, some .boolean) [] 3 0 [] [] 2000 [] = true := by decide +kernel
/-- MiceRegistersModel.figure -/
def mgc1124 : ak_C := (125, [.inl 81, .inr (false, [(0, 0)]), .inr (false, [(0, 7)])], mgh18100, [81], [([], some (.inr (false, [(-9, -9)])), mgh18075), ([], some (.inr (false, [(0, 7)])), mgh18237)])
/-- MiceRegistersModel.figure -/
def mgc1125 : ak_C := (125, [.inl 81, .inr (false, [(1, 1)]), .inr (false, [(9, 9)])], mgh18260, [81], [([], some (.inr (false, [(-9, -9)])), mgh18237), ([], some (.inr (false, [(1, 9)])), mgh18389)])
def mgh18413 : aw_H := [(81, mgx18411), (94, mgx5052)]
def mgx18414 : aw_A := ms_o [(0, 8)] [(0, 4)] ar_t32 ar_t32 [(0, 180)] [(50, 50)] [(50, 60)] [(1, 8)] [(2, 2)]
def mgh18415 : aw_H := [(81, mgx18414), (94, mgx5820)]
/-- MiceRegistersModel.readsMouse -/
def mgh18416 : aw_H := [(81, mgx18411), (90, .inr (.inl (0, 240, [], []))), (94, mgx5052)]
def mgc1126 : ak_C := (127, [.inl 81], mgh18416, [81, 94], [([], some (.inr (false, [(0, 0)])), mgh18413), ([], some (.inr (false, [(1, 1)])), mgh18415), ([], some (.inr (false, [(0, 0)])), mgh18234), ([], some (.inr (false, [(0, 0)])), mgh18072)])
theorem mgk1126 : ai_chk [mgc32, mgc148, mgc1124, mgc1125] mgc1126 (fun pc => sm_ch sm_t127 pc, sm_Kn 3 5 none, fun x => sm_lk sm_ca3 x, some .boolean) [81, 94] 5 0 [] [] 2000 [] = true := by decide +kernel
def mgh18417 : aw_H := [(81, mgx18414)]
def mgx18418 : aw_A := ms_o [(0, 8)] [(0, 4)] ar_t32 ar_t32 [(0, 180)] [(51, 51)] [(50, 60)] [(1, 8)] [(2, 2)]
def mgh18419 : aw_H := [(81, mgx18418)]
def mgx18420 : aw_A := ms_o [(0, 8)] [(0, 4)] ar_t32 ar_t32 [(0, 180)] [(52, 52)] [(50, 60)] [(1, 8)] [(2, 2)]
def mgh18421 : aw_H := [(81, mgx18420)]
def mgx18422 : aw_A := ms_o [(0, 8)] [(0, 4)] ar_t32 ar_t32 [(0, 180)] [(53, 53)] [(50, 60)] [(1, 8)] [(2, 2)]
def mgh18423 : aw_H := [(81, mgx18422)]
def mgx18424 : aw_A := ms_o [(0, 8)] [(0, 4)] ar_t32 ar_t32 [(0, 180)] [(54, 54)] [(50, 60)] [(1, 8)] [(2, 2)]
def mgh18425 : aw_H := [(81, mgx18424)]
def mgx18426 : aw_A := ms_o [(0, 8)] [(0, 4)] ar_t32 ar_t32 [(0, 180)] [(55, 55)] [(50, 60)] [(1, 8)] [(2, 2)]
def mgh18427 : aw_H := [(81, mgx18426)]
def mgx18428 : aw_A := ms_o [(0, 8)] [(0, 4)] ar_t32 ar_t32 [(0, 180)] [(56, 56)] [(50, 60)] [(1, 8)] [(2, 2)]
def mgh18429 : aw_H := [(81, mgx18428)]
def mgx18430 : aw_A := ms_o [(0, 8)] [(0, 4)] ar_t32 ar_t32 [(0, 180)] [(57, 57)] [(50, 60)] [(1, 8)] [(2, 2)]
def mgh18431 : aw_H := [(81, mgx18430)]
def mgx18432 : aw_A := ms_o [(0, 8)] [(0, 4)] ar_t32 ar_t32 [(0, 180)] [(58, 58)] [(50, 60)] [(1, 8)] [(2, 2)]
def mgh18433 : aw_H := [(81, mgx18432)]
def mgx18434 : aw_A := ms_o [(0, 8)] [(0, 4)] ar_t32 ar_t32 [(0, 180)] [(59, 59)] [(50, 60)] [(1, 8)] [(2, 2)]
def mgh18435 : aw_H := [(81, mgx18434)]
def mgx18436 : aw_A := ms_o [(0, 8)] [(0, 4)] ar_t32 ar_t32 [(0, 180)] [(60, 60)] [(50, 60)] [(1, 8)] [(2, 2)]
def mgh18437 : aw_H := [(81, mgx18436)]
/-- MiceRegistersModel.skip -/
def mgh18438 : aw_H := [(81, mgx18414), (90, .inr (.inl (0, 240, [], [])))]
def mgc1127 : ak_C := (122, [.inl 81], mgh18438, [81], [([], none, mgh18417), ([], none, mgh18419), ([], none, mgh18421), ([], none, mgh18423), ([], none, mgh18425), ([], none, mgh18427), ([], none, mgh18429), ([], none, mgh18431), ([], none, mgh18433), ([], none, mgh18435), ([], none, mgh18437)])
/-- MiceRegistersModel.readsLine -/
def mgx18439 : aw_A := ms_o [(0, 8)] [(0, 4)] ar_t32 ar_t32 [(0, 180)] [(47, 47)] [(48, 60)] [(1, 8)] [(2, 2)]
def mgh18440 : aw_H := [(81, mgx18439)]
def mgc1128 : ak_C := (124, [.inl 81], mgh18440, [], [([], some (.inr (false, [(0, 0)])), [])])
theorem mgk1128 : ai_chk [] mgc1128 (fun pc => sm_ch sm_t124 pc, sm_Kn 3 3 none, fun x => sm_lk sm_ca3 x, some .boolean) [] 3 0 [] [] 2000 [] = true := by decide +kernel
/-- MiceRegistersModel.figure -/
def mgc1129 : ak_C := (125, [.inl 81, .inr (false, [(0, 0)]), .inr (false, [(0, 7)])], mgh18132, [81], [([], some (.inr (false, [(-9, -9)])), mgh18107), ([], some (.inr (false, [(0, 7)])), mgh18267)])
/-- MiceRegistersModel.figure -/
def mgc1130 : ak_C := (125, [.inl 81, .inr (false, [(1, 1)]), .inr (false, [(9, 9)])], mgh18290, [81], [([], some (.inr (false, [(-9, -9)])), mgh18267), ([], some (.inr (false, [(1, 9)])), mgh18417)])
def mgh18441 : aw_H := [(81, mgx18439), (94, mgx5820)]
def mgx18442 : aw_A := ms_o [(0, 8)] [(0, 4)] ar_t32 ar_t32 [(0, 180)] [(50, 50)] [(50, 60)] [(1, 8)] [(3, 3)]
def mgh18443 : aw_H := [(81, mgx18442), (94, mgx6868)]
/-- MiceRegistersModel.readsMouse -/
def mgh18444 : aw_H := [(81, mgx18439), (90, .inr (.inl (0, 240, [], []))), (94, mgx5820)]
def mgc1131 : ak_C := (127, [.inl 81], mgh18444, [81, 94], [([], some (.inr (false, [(0, 0)])), mgh18441), ([], some (.inr (false, [(1, 1)])), mgh18443), ([], some (.inr (false, [(0, 0)])), mgh18265), ([], some (.inr (false, [(0, 0)])), mgh18105)])
theorem mgk1131 : ai_chk [mgc32, mgc148, mgc1129, mgc1130] mgc1131 (fun pc => sm_ch sm_t127 pc, sm_Kn 3 5 none, fun x => sm_lk sm_ca3 x, some .boolean) [81, 94] 5 0 [] [] 2000 [] = true := by decide +kernel
def mgh18445 : aw_H := [(81, mgx18442)]
def mgx18446 : aw_A := ms_o [(0, 8)] [(0, 4)] ar_t32 ar_t32 [(0, 180)] [(51, 51)] [(50, 60)] [(1, 8)] [(3, 3)]
def mgh18447 : aw_H := [(81, mgx18446)]
def mgx18448 : aw_A := ms_o [(0, 8)] [(0, 4)] ar_t32 ar_t32 [(0, 180)] [(52, 52)] [(50, 60)] [(1, 8)] [(3, 3)]
def mgh18449 : aw_H := [(81, mgx18448)]
def mgx18450 : aw_A := ms_o [(0, 8)] [(0, 4)] ar_t32 ar_t32 [(0, 180)] [(53, 53)] [(50, 60)] [(1, 8)] [(3, 3)]
def mgh18451 : aw_H := [(81, mgx18450)]
def mgx18452 : aw_A := ms_o [(0, 8)] [(0, 4)] ar_t32 ar_t32 [(0, 180)] [(54, 54)] [(50, 60)] [(1, 8)] [(3, 3)]
def mgh18453 : aw_H := [(81, mgx18452)]
def mgx18454 : aw_A := ms_o [(0, 8)] [(0, 4)] ar_t32 ar_t32 [(0, 180)] [(55, 55)] [(50, 60)] [(1, 8)] [(3, 3)]
def mgh18455 : aw_H := [(81, mgx18454)]
def mgx18456 : aw_A := ms_o [(0, 8)] [(0, 4)] ar_t32 ar_t32 [(0, 180)] [(56, 56)] [(50, 60)] [(1, 8)] [(3, 3)]
def mgh18457 : aw_H := [(81, mgx18456)]
def mgx18458 : aw_A := ms_o [(0, 8)] [(0, 4)] ar_t32 ar_t32 [(0, 180)] [(57, 57)] [(50, 60)] [(1, 8)] [(3, 3)]
def mgh18459 : aw_H := [(81, mgx18458)]
def mgx18460 : aw_A := ms_o [(0, 8)] [(0, 4)] ar_t32 ar_t32 [(0, 180)] [(58, 58)] [(50, 60)] [(1, 8)] [(3, 3)]
def mgh18461 : aw_H := [(81, mgx18460)]
def mgx18462 : aw_A := ms_o [(0, 8)] [(0, 4)] ar_t32 ar_t32 [(0, 180)] [(59, 59)] [(50, 60)] [(1, 8)] [(3, 3)]
def mgh18463 : aw_H := [(81, mgx18462)]
def mgx18464 : aw_A := ms_o [(0, 8)] [(0, 4)] ar_t32 ar_t32 [(0, 180)] [(60, 60)] [(50, 60)] [(1, 8)] [(3, 3)]
def mgh18465 : aw_H := [(81, mgx18464)]
/-- MiceRegistersModel.skip -/
def mgh18466 : aw_H := [(81, mgx18442), (90, .inr (.inl (0, 240, [], [])))]
def mgc1132 : ak_C := (122, [.inl 81], mgh18466, [81], [([], none, mgh18445), ([], none, mgh18447), ([], none, mgh18449), ([], none, mgh18451), ([], none, mgh18453), ([], none, mgh18455), ([], none, mgh18457), ([], none, mgh18459), ([], none, mgh18461), ([], none, mgh18463), ([], none, mgh18465)])
/-- MiceRegistersModel.readsLine -/
def mgx18467 : aw_A := ms_o [(0, 8)] [(0, 4)] ar_t32 ar_t32 [(0, 180)] [(47, 47)] [(48, 60)] [(1, 8)] [(3, 3)]
def mgh18468 : aw_H := [(81, mgx18467)]
def mgc1133 : ak_C := (124, [.inl 81], mgh18468, [], [([], some (.inr (false, [(0, 0)])), [])])
theorem mgk1133 : ai_chk [] mgc1133 (fun pc => sm_ch sm_t124 pc, sm_Kn 3 3 none, fun x => sm_lk sm_ca3 x, some .boolean) [] 3 0 [] [] 2000 [] = true := by decide +kernel
/-- MiceRegistersModel.figure -/
def mgc1134 : ak_C := (125, [.inl 81, .inr (false, [(0, 0)]), .inr (false, [(0, 7)])], mgh18164, [81], [([], some (.inr (false, [(-9, -9)])), mgh18139), ([], some (.inr (false, [(0, 7)])), mgh18297)])
/-- MiceRegistersModel.figure -/
def mgc1135 : ak_C := (125, [.inl 81, .inr (false, [(1, 1)]), .inr (false, [(9, 9)])], mgh18320, [81], [([], some (.inr (false, [(-9, -9)])), mgh18297), ([], some (.inr (false, [(1, 9)])), mgh18445)])
def mgh18469 : aw_H := [(81, mgx18467), (94, mgx6868)]
def mgx18470 : aw_A := ms_o [(0, 8)] [(0, 4)] ar_t32 ar_t32 [(0, 180)] [(50, 50)] [(50, 60)] [(1, 8)] [(4, 4)]
def mgh18471 : aw_H := [(81, mgx18470), (94, mgx8150)]
/-- MiceRegistersModel.readsMouse -/
def mgh18472 : aw_H := [(81, mgx18467), (90, .inr (.inl (0, 240, [], []))), (94, mgx6868)]
def mgc1136 : ak_C := (127, [.inl 81], mgh18472, [81, 94], [([], some (.inr (false, [(0, 0)])), mgh18469), ([], some (.inr (false, [(1, 1)])), mgh18471), ([], some (.inr (false, [(0, 0)])), mgh18295), ([], some (.inr (false, [(0, 0)])), mgh18137)])
theorem mgk1136 : ai_chk [mgc32, mgc148, mgc1134, mgc1135] mgc1136 (fun pc => sm_ch sm_t127 pc, sm_Kn 3 5 none, fun x => sm_lk sm_ca3 x, some .boolean) [81, 94] 5 0 [] [] 2000 [] = true := by decide +kernel
def mgh18473 : aw_H := [(81, mgx18470)]
def mgx18474 : aw_A := ms_o [(0, 8)] [(0, 4)] ar_t32 ar_t32 [(0, 180)] [(51, 51)] [(50, 60)] [(1, 8)] [(4, 4)]
def mgh18475 : aw_H := [(81, mgx18474)]
def mgx18476 : aw_A := ms_o [(0, 8)] [(0, 4)] ar_t32 ar_t32 [(0, 180)] [(52, 52)] [(50, 60)] [(1, 8)] [(4, 4)]
def mgh18477 : aw_H := [(81, mgx18476)]
def mgx18478 : aw_A := ms_o [(0, 8)] [(0, 4)] ar_t32 ar_t32 [(0, 180)] [(53, 53)] [(50, 60)] [(1, 8)] [(4, 4)]
def mgh18479 : aw_H := [(81, mgx18478)]
def mgx18480 : aw_A := ms_o [(0, 8)] [(0, 4)] ar_t32 ar_t32 [(0, 180)] [(54, 54)] [(50, 60)] [(1, 8)] [(4, 4)]
def mgh18481 : aw_H := [(81, mgx18480)]
def mgx18482 : aw_A := ms_o [(0, 8)] [(0, 4)] ar_t32 ar_t32 [(0, 180)] [(55, 55)] [(50, 60)] [(1, 8)] [(4, 4)]
def mgh18483 : aw_H := [(81, mgx18482)]
def mgx18484 : aw_A := ms_o [(0, 8)] [(0, 4)] ar_t32 ar_t32 [(0, 180)] [(56, 56)] [(50, 60)] [(1, 8)] [(4, 4)]
def mgh18485 : aw_H := [(81, mgx18484)]
def mgx18486 : aw_A := ms_o [(0, 8)] [(0, 4)] ar_t32 ar_t32 [(0, 180)] [(57, 57)] [(50, 60)] [(1, 8)] [(4, 4)]
def mgh18487 : aw_H := [(81, mgx18486)]
def mgx18488 : aw_A := ms_o [(0, 8)] [(0, 4)] ar_t32 ar_t32 [(0, 180)] [(58, 58)] [(50, 60)] [(1, 8)] [(4, 4)]
def mgh18489 : aw_H := [(81, mgx18488)]
def mgx18490 : aw_A := ms_o [(0, 8)] [(0, 4)] ar_t32 ar_t32 [(0, 180)] [(59, 59)] [(50, 60)] [(1, 8)] [(4, 4)]
def mgh18491 : aw_H := [(81, mgx18490)]
def mgx18492 : aw_A := ms_o [(0, 8)] [(0, 4)] ar_t32 ar_t32 [(0, 180)] [(60, 60)] [(50, 60)] [(1, 8)] [(4, 4)]
def mgh18493 : aw_H := [(81, mgx18492)]
/-- MiceRegistersModel.skip -/
def mgh18494 : aw_H := [(81, mgx18470), (90, .inr (.inl (0, 240, [], [])))]
def mgc1137 : ak_C := (122, [.inl 81], mgh18494, [81], [([], none, mgh18473), ([], none, mgh18475), ([], none, mgh18477), ([], none, mgh18479), ([], none, mgh18481), ([], none, mgh18483), ([], none, mgh18485), ([], none, mgh18487), ([], none, mgh18489), ([], none, mgh18491), ([], none, mgh18493)])
/-- MiceRegistersModel.readsLine -/
def mgx18495 : aw_A := ms_o [(0, 8)] [(0, 4)] ar_t32 ar_t32 [(0, 180)] [(47, 47)] [(48, 60)] [(1, 8)] [(4, 4)]
def mgh18496 : aw_H := [(81, mgx18495)]
def mgc1138 : ak_C := (124, [.inl 81], mgh18496, [], [([], some (.inr (false, [(0, 0)])), [])])
theorem mgk1138 : ai_chk [] mgc1138 (fun pc => sm_ch sm_t124 pc, sm_Kn 3 3 none, fun x => sm_lk sm_ca3 x, some .boolean) [] 3 0 [] [] 2000 [] = true := by decide +kernel
/-- MiceRegistersModel.readsMouse -/
def mgh18497 : aw_H := [(81, mgx18495), (90, .inr (.inl (0, 240, [], [])))]
def mgc1139 : ak_C := (127, [.inl 81], mgh18497, [], [([], some (.inr (false, [(0, 0)])), [])])
theorem mgk1139 : ai_chk [mgc32, mgc148] mgc1139 (fun pc => sm_ch sm_t127 pc, sm_Kn 3 5 none, fun x => sm_lk sm_ca3 x, some .boolean) [] 5 0 [] [] 2000 [] = true := by decide +kernel
def mgx18498 : aw_A := ms_o [(0, 8)] [(0, 4)] ar_t32 ar_t32 [(0, 180)] [(52, 52)] [(52, 60)] [(0, 7)] [(0, 0)]
def mgh18499 : aw_H := [(81, mgx18498)]
/-- MiceRegistersModel.figure -/
def mgh18500 : aw_H := [(81, mgx18354), (90, .inr (.inl (0, 240, [], [])))]
def mgc1140 : ak_C := (125, [.inl 81, .inr (false, [(0, 0)]), .inr (false, [(9, 9)])], mgh18500, [81], [([], some (.inr (false, [(-9, -9)])), mgh18355), ([], some (.inr (false, [(0, 9)])), mgh18499)])
/-- MiceRegistersModel.twoFigures -/
def mgc1141 : ak_C := (126, [.inl 81, .inr (false, [(1, 1)]), .inr (false, [(40, 40)])], mgh18356, [81], [([], some (.inr (false, [(-9, -9)])), mgh18201), ([], some (.inr (false, [(0, 99)])), mgh18499), ([], some (.inr (false, [(-9, -9)])), mgh18355)])
theorem mgk1141 : ai_chk [mgc1115, mgc1140, mgc144] mgc1141 (fun pc => sm_ch sm_t126 pc, sm_Kn 3 6 none, fun x => sm_lk sm_ca3 x, some .int) [81] 6 0 [] [] 2000 [] = true := by decide +kernel
def mgh18501 : aw_H := [(81, mgx18354), (92, .inr (.inl (0, 8, [], []))), (93, .inr (.inl (0, 8, [], [])))]
def mgx18502 : aw_A := ms_o [(0, 8)] [(0, 4)] ar_t32 ar_t32 [(0, 180)] [(52, 52)] [(52, 60)] [(1, 8)] [(0, 0)]
def mgh18503 : aw_H := [(81, mgx18502), (92, .inr (.inl (0, 8, [], []))), (93, .inr (.inl (0, 8, [], [])))]
def mgx18504 : aw_A := ms_o [(0, 8)] [(0, 4)] ar_t32 ar_t32 [(0, 180)] [(48, 48)] [(49, 60)] [(8, 8)] [(0, 0)]
def mgh18505 : aw_H := [(81, mgx18504), (92, .inr (.inl (0, 8, [], []))), (93, .inr (.inl (0, 8, [], [])))]
/-- MiceRegistersModel.readsLine -/
def mgx18506 : aw_A := ms_o [(0, 8)] [(0, 4)] ar_t32 ar_t32 [(0, 180)] [(48, 48)] [(49, 60)] [(0, 8)] [(0, 0)]
def mgh18507 : aw_H := [(81, mgx18506), (90, .inr (.inl (0, 240, [], []))), (92, .inr (.inl (0, 8, [], []))), (93, .inr (.inl (0, 8, [], [])))]
def mgc1142 : ak_C := (124, [.inl 81], mgh18507, [81, 92, 93], [([], some (.inr (false, [(0, 0)])), mgh18501), ([], some (.inr (false, [(1, 1)])), mgh18503), ([], some (.inr (false, [(0, 0)])), mgh18357), ([], some (.inr (false, [(0, 0)])), mgh18203), ([], some (.inr (false, [(0, 0)])), mgh18505)])
theorem mgk1142 : ai_chk [mgc1090, mgc1141] mgc1142 (fun pc => sm_ch sm_t124 pc, sm_Kn 3 3 none, fun x => sm_lk sm_ca3 x, some .boolean) [81, 92, 93] 3 0 [] [] 2000 [] = true := by decide +kernel
def mgh18508 : aw_H := [(81, mgx18502)]
def mgx18509 : aw_A := ms_o [(0, 8)] [(0, 4)] ar_t32 ar_t32 [(0, 180)] [(53, 53)] [(52, 60)] [(1, 8)] [(0, 0)]
def mgh18510 : aw_H := [(81, mgx18509)]
def mgx18511 : aw_A := ms_o [(0, 8)] [(0, 4)] ar_t32 ar_t32 [(0, 180)] [(54, 54)] [(52, 60)] [(1, 8)] [(0, 0)]
def mgh18512 : aw_H := [(81, mgx18511)]
def mgx18513 : aw_A := ms_o [(0, 8)] [(0, 4)] ar_t32 ar_t32 [(0, 180)] [(55, 55)] [(52, 60)] [(1, 8)] [(0, 0)]
def mgh18514 : aw_H := [(81, mgx18513)]
def mgx18515 : aw_A := ms_o [(0, 8)] [(0, 4)] ar_t32 ar_t32 [(0, 180)] [(56, 56)] [(52, 60)] [(1, 8)] [(0, 0)]
def mgh18516 : aw_H := [(81, mgx18515)]
def mgx18517 : aw_A := ms_o [(0, 8)] [(0, 4)] ar_t32 ar_t32 [(0, 180)] [(57, 57)] [(52, 60)] [(1, 8)] [(0, 0)]
def mgh18518 : aw_H := [(81, mgx18517)]
def mgx18519 : aw_A := ms_o [(0, 8)] [(0, 4)] ar_t32 ar_t32 [(0, 180)] [(58, 58)] [(52, 60)] [(1, 8)] [(0, 0)]
def mgh18520 : aw_H := [(81, mgx18519)]
def mgx18521 : aw_A := ms_o [(0, 8)] [(0, 4)] ar_t32 ar_t32 [(0, 180)] [(59, 59)] [(52, 60)] [(1, 8)] [(0, 0)]
def mgh18522 : aw_H := [(81, mgx18521)]
def mgx18523 : aw_A := ms_o [(0, 8)] [(0, 4)] ar_t32 ar_t32 [(0, 180)] [(60, 60)] [(52, 60)] [(1, 8)] [(0, 0)]
def mgh18524 : aw_H := [(81, mgx18523)]
/-- MiceRegistersModel.skip -/
def mgh18525 : aw_H := [(81, mgx18502), (90, .inr (.inl (0, 240, [], [])))]
def mgc1143 : ak_C := (122, [.inl 81], mgh18525, [81], [([], none, mgh18508), ([], none, mgh18510), ([], none, mgh18512), ([], none, mgh18514), ([], none, mgh18516), ([], none, mgh18518), ([], none, mgh18520), ([], none, mgh18522), ([], none, mgh18524)])
/-- MiceRegistersModel.figure -/
def mgc1144 : ak_C := (125, [.inl 81, .inr (false, [(0, 0)]), .inr (false, [(0, 7)])], mgh18069, [81], [([], some (.inr (false, [(-9, -9)])), mgh18046), ([], some (.inr (false, [(0, 7)])), mgh18210)])
/-- MiceRegistersModel.figure -/
def mgc1145 : ak_C := (125, [.inl 81, .inr (false, [(1, 1)]), .inr (false, [(9, 9)])], mgh18231, [81], [([], some (.inr (false, [(-9, -9)])), mgh18210), ([], some (.inr (false, [(1, 9)])), mgh18364)])
def mgh18526 : aw_H := [(81, mgx18506), (94, mgx5049)]
def mgx18527 : aw_A := ms_o [(0, 8)] [(0, 4)] ar_t32 ar_t32 [(0, 180)] [(51, 51)] [(51, 60)] [(1, 8)] [(1, 1)]
def mgh18528 : aw_H := [(81, mgx18527), (94, mgx5052)]
def mgh18529 : aw_H := [(81, mgx18204), (94, mgx5049)]
/-- MiceRegistersModel.readsMouse -/
def mgh18530 : aw_H := [(81, mgx18506), (90, .inr (.inl (0, 240, [], []))), (94, mgx5049)]
def mgc1146 : ak_C := (127, [.inl 81], mgh18530, [81, 94], [([], some (.inr (false, [(0, 0)])), mgh18526), ([], some (.inr (false, [(1, 1)])), mgh18528), ([], some (.inr (false, [(0, 0)])), mgh18529), ([], some (.inr (false, [(0, 0)])), mgh18387)])
theorem mgk1146 : ai_chk [mgc31, mgc148, mgc1144, mgc1145] mgc1146 (fun pc => sm_ch sm_t127 pc, sm_Kn 3 5 none, fun x => sm_lk sm_ca3 x, some .boolean) [81, 94] 5 0 [] [] 2000 [] = true := by decide +kernel
def mgh18531 : aw_H := [(81, mgx18527)]
def mgx18532 : aw_A := ms_o [(0, 8)] [(0, 4)] ar_t32 ar_t32 [(0, 180)] [(52, 52)] [(51, 60)] [(1, 8)] [(1, 1)]
def mgh18533 : aw_H := [(81, mgx18532)]
def mgx18534 : aw_A := ms_o [(0, 8)] [(0, 4)] ar_t32 ar_t32 [(0, 180)] [(53, 53)] [(51, 60)] [(1, 8)] [(1, 1)]
def mgh18535 : aw_H := [(81, mgx18534)]
def mgx18536 : aw_A := ms_o [(0, 8)] [(0, 4)] ar_t32 ar_t32 [(0, 180)] [(54, 54)] [(51, 60)] [(1, 8)] [(1, 1)]
def mgh18537 : aw_H := [(81, mgx18536)]
def mgx18538 : aw_A := ms_o [(0, 8)] [(0, 4)] ar_t32 ar_t32 [(0, 180)] [(55, 55)] [(51, 60)] [(1, 8)] [(1, 1)]
def mgh18539 : aw_H := [(81, mgx18538)]
def mgx18540 : aw_A := ms_o [(0, 8)] [(0, 4)] ar_t32 ar_t32 [(0, 180)] [(56, 56)] [(51, 60)] [(1, 8)] [(1, 1)]
def mgh18541 : aw_H := [(81, mgx18540)]
def mgx18542 : aw_A := ms_o [(0, 8)] [(0, 4)] ar_t32 ar_t32 [(0, 180)] [(57, 57)] [(51, 60)] [(1, 8)] [(1, 1)]
def mgh18543 : aw_H := [(81, mgx18542)]
def mgx18544 : aw_A := ms_o [(0, 8)] [(0, 4)] ar_t32 ar_t32 [(0, 180)] [(58, 58)] [(51, 60)] [(1, 8)] [(1, 1)]
def mgh18545 : aw_H := [(81, mgx18544)]
def mgx18546 : aw_A := ms_o [(0, 8)] [(0, 4)] ar_t32 ar_t32 [(0, 180)] [(59, 59)] [(51, 60)] [(1, 8)] [(1, 1)]
def mgh18547 : aw_H := [(81, mgx18546)]
def mgx18548 : aw_A := ms_o [(0, 8)] [(0, 4)] ar_t32 ar_t32 [(0, 180)] [(60, 60)] [(51, 60)] [(1, 8)] [(1, 1)]
def mgh18549 : aw_H := [(81, mgx18548)]
/-- MiceRegistersModel.skip -/
def mgh18550 : aw_H := [(81, mgx18527), (90, .inr (.inl (0, 240, [], [])))]
def mgc1147 : ak_C := (122, [.inl 81], mgh18550, [81], [([], none, mgh18531), ([], none, mgh18533), ([], none, mgh18535), ([], none, mgh18537), ([], none, mgh18539), ([], none, mgh18541), ([], none, mgh18543), ([], none, mgh18545), ([], none, mgh18547), ([], none, mgh18549)])
/-- MiceRegistersModel.readsLine -/
def mgx18551 : aw_A := ms_o [(0, 8)] [(0, 4)] ar_t32 ar_t32 [(0, 180)] [(48, 48)] [(49, 60)] [(1, 8)] [(1, 1)]
def mgh18552 : aw_H := [(81, mgx18551)]
def mgc1148 : ak_C := (124, [.inl 81], mgh18552, [], [([], some (.inr (false, [(0, 0)])), [])])
theorem mgk1148 : ai_chk [] mgc1148 (fun pc => sm_ch sm_t124 pc, sm_Kn 3 3 none, fun x => sm_lk sm_ca3 x, some .boolean) [] 3 0 [] [] 2000 [] = true := by decide +kernel
/-- MiceRegistersModel.figure -/
def mgc1149 : ak_C := (125, [.inl 81, .inr (false, [(0, 0)]), .inr (false, [(0, 7)])], mgh18260, [81], [([], some (.inr (false, [(-9, -9)])), mgh18237), ([], some (.inr (false, [(0, 7)])), mgh18389)])
/-- MiceRegistersModel.figure -/
def mgc1150 : ak_C := (125, [.inl 81, .inr (false, [(1, 1)]), .inr (false, [(9, 9)])], mgh18410, [81], [([], some (.inr (false, [(-9, -9)])), mgh18389), ([], some (.inr (false, [(1, 9)])), mgh18531)])
def mgh18553 : aw_H := [(81, mgx18551), (94, mgx5052)]
def mgx18554 : aw_A := ms_o [(0, 8)] [(0, 4)] ar_t32 ar_t32 [(0, 180)] [(51, 51)] [(51, 60)] [(1, 8)] [(2, 2)]
def mgh18555 : aw_H := [(81, mgx18554), (94, mgx5820)]
/-- MiceRegistersModel.readsMouse -/
def mgh18556 : aw_H := [(81, mgx18551), (90, .inr (.inl (0, 240, [], []))), (94, mgx5052)]
def mgc1151 : ak_C := (127, [.inl 81], mgh18556, [81, 94], [([], some (.inr (false, [(0, 0)])), mgh18553), ([], some (.inr (false, [(1, 1)])), mgh18555), ([], some (.inr (false, [(0, 0)])), mgh18386), ([], some (.inr (false, [(0, 0)])), mgh18234)])
theorem mgk1151 : ai_chk [mgc31, mgc148, mgc1149, mgc1150] mgc1151 (fun pc => sm_ch sm_t127 pc, sm_Kn 3 5 none, fun x => sm_lk sm_ca3 x, some .boolean) [81, 94] 5 0 [] [] 2000 [] = true := by decide +kernel
