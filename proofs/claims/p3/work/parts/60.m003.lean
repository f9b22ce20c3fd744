/-! Contracts over ranges of the reference, and their checks; printed by a program of mine. -/
/-- MiceRegistersModel.readsMouse -/
def mgh15172 : aw_H := [(81, mgx15170), (90, .inr (.inl (0, 240, [], [])))]
def mgc4957 : ak_C := (127, [.inl 81], mgh15172, [], [([], some (.inr (false, [(0, 0)])), [])])
theorem mgk4957 : ai_chk [mgc48, mgc147] mgc4957 (fun pc => sm_ch sm_t127 pc, sm_Kn 3 5 none, fun x => sm_lk sm_ca3 x, some .boolean) [] 5 0 [] [] 2000 [] = true := by decide +kernel
/-- MiceRegistersModel.readsLine -/
def mgx15173 : aw_A := ms_o [(0, 8)] [(0, 4)] ar_t32 ar_t32 [(0, 180)] [(32, 32)] [(33, 60)] [(1, 4)] [(4, 4)]
def mgh15174 : aw_H := [(81, mgx15173)]
def mgc4958 : ak_C := (124, [.inl 81], mgh15174, [], [([], some (.inr (false, [(0, 0)])), [])])
theorem mgk4958 : ai_chk [] mgc4958 (fun pc => sm_ch sm_t124 pc, sm_Kn 3 3 none, fun x => sm_lk sm_ca3 x, some .boolean) [] 3 0 [] [] 2000 [] = true := by decide +kernel
/-- MiceRegistersModel.readsMouse -/
def mgh15175 : aw_H := [(81, mgx15173), (90, .inr (.inl (0, 240, [], [])))]
def mgc4959 : ak_C := (127, [.inl 81], mgh15175, [], [([], some (.inr (false, [(0, 0)])), [])])
theorem mgk4959 : ai_chk [mgc47, mgc147] mgc4959 (fun pc => sm_ch sm_t127 pc, sm_Kn 3 5 none, fun x => sm_lk sm_ca3 x, some .boolean) [] 5 0 [] [] 2000 [] = true := by decide +kernel
/-- MiceRegistersModel.readsLine -/
def mgx15176 : aw_A := ms_o [(0, 8)] [(0, 4)] ar_t32 ar_t32 [(0, 180)] [(34, 34)] [(35, 60)] [(1, 7)] [(1, 1)]
def mgh15177 : aw_H := [(81, mgx15176)]
def mgc5268 : ak_C := (124, [.inl 81], mgh15177, [], [([], some (.inr (false, [(0, 0)])), [])])
theorem mgk5268 : ai_chk [] mgc5268 (fun pc => sm_ch sm_t124 pc, sm_Kn 3 3 none, fun x => sm_lk sm_ca3 x, some .boolean) [] 3 0 [] [] 2000 [] = true := by decide +kernel
/-- MiceRegistersModel.figure -/
def mgc5269 : ak_C := (125, [.inl 81, .inr (false, [(0, 0)]), .inr (false, [(0, 6)])], mgh12863, [81], [([], some (.inr (false, [(-9, -9)])), mgh12812), ([], some (.inr (false, [(0, 6)])), mgh14208)])
def mgx15178 : aw_A := ms_o [(0, 8)] [(0, 4)] ar_t32 ar_t32 [(0, 180)] [(37, 37)] [(37, 60)] [(1, 7)] [(1, 1)]
def mgh15179 : aw_H := [(81, mgx15178)]
/-- MiceRegistersModel.figure -/
def mgh15180 : aw_H := [(81, mgx14207), (90, .inr (.inl (0, 240, [], [])))]
def mgc5270 : ak_C := (125, [.inl 81, .inr (false, [(1, 1)]), .inr (false, [(9, 9)])], mgh15180, [81], [([], some (.inr (false, [(-9, -9)])), mgh14208), ([], some (.inr (false, [(1, 9)])), mgh15179)])
def mgh15181 : aw_H := [(81, mgx15176), (94, mgx4449)]
def mgx15182 : aw_A := ms_o [(0, 8)] [(0, 4)] ar_t32 ar_t32 [(0, 180)] [(37, 37)] [(37, 60)] [(1, 7)] [(2, 2)]
def mgh15183 : aw_H := [(81, mgx15182), (94, mgx6150)]
def mgh15184 : aw_H := [(81, mgx14207), (94, mgx4449)]
/-- MiceRegistersModel.readsMouse -/
def mgh15185 : aw_H := [(81, mgx15176), (90, .inr (.inl (0, 240, [], []))), (94, mgx4449)]
def mgc5271 : ak_C := (127, [.inl 81], mgh15185, [81, 94], [([], some (.inr (false, [(0, 0)])), mgh15181), ([], some (.inr (false, [(1, 1)])), mgh15183), ([], some (.inr (false, [(0, 0)])), mgh15184), ([], some (.inr (false, [(0, 0)])), mgh12759)])
theorem mgk5271 : ai_chk [mgc45, mgc147, mgc5269, mgc5270] mgc5271 (fun pc => sm_ch sm_t127 pc, sm_Kn 3 5 none, fun x => sm_lk sm_ca3 x, some .boolean) [81, 94] 5 0 [] [] 2000 [] = true := by decide +kernel
def mgh15186 : aw_H := [(81, mgx15182)]
def mgx15187 : aw_A := ms_o [(0, 8)] [(0, 4)] ar_t32 ar_t32 [(0, 180)] [(38, 38)] [(37, 60)] [(1, 7)] [(2, 2)]
def mgh15188 : aw_H := [(81, mgx15187)]
def mgx15189 : aw_A := ms_o [(0, 8)] [(0, 4)] ar_t32 ar_t32 [(0, 180)] [(39, 39)] [(37, 60)] [(1, 7)] [(2, 2)]
def mgh15190 : aw_H := [(81, mgx15189)]
def mgx15191 : aw_A := ms_o [(0, 8)] [(0, 4)] ar_t32 ar_t32 [(0, 180)] [(40, 40)] [(37, 60)] [(1, 7)] [(2, 2)]
def mgh15192 : aw_H := [(81, mgx15191)]
def mgx15193 : aw_A := ms_o [(0, 8)] [(0, 4)] ar_t32 ar_t32 [(0, 180)] [(41, 41)] [(37, 60)] [(1, 7)] [(2, 2)]
def mgh15194 : aw_H := [(81, mgx15193)]
def mgx15195 : aw_A := ms_o [(0, 8)] [(0, 4)] ar_t32 ar_t32 [(0, 180)] [(42, 42)] [(37, 60)] [(1, 7)] [(2, 2)]
def mgh15196 : aw_H := [(81, mgx15195)]
def mgx15197 : aw_A := ms_o [(0, 8)] [(0, 4)] ar_t32 ar_t32 [(0, 180)] [(43, 43)] [(37, 60)] [(1, 7)] [(2, 2)]
def mgh15198 : aw_H := [(81, mgx15197)]
def mgx15199 : aw_A := ms_o [(0, 8)] [(0, 4)] ar_t32 ar_t32 [(0, 180)] [(44, 44)] [(37, 60)] [(1, 7)] [(2, 2)]
def mgh15200 : aw_H := [(81, mgx15199)]
def mgx15201 : aw_A := ms_o [(0, 8)] [(0, 4)] ar_t32 ar_t32 [(0, 180)] [(45, 45)] [(37, 60)] [(1, 7)] [(2, 2)]
def mgh15202 : aw_H := [(81, mgx15201)]
def mgx15203 : aw_A := ms_o [(0, 8)] [(0, 4)] ar_t32 ar_t32 [(0, 180)] [(46, 46)] [(37, 60)] [(1, 7)] [(2, 2)]
def mgh15204 : aw_H := [(81, mgx15203)]
def mgx15205 : aw_A := ms_o [(0, 8)] [(0, 4)] ar_t32 ar_t32 [(0, 180)] [(47, 47)] [(37, 60)] [(1, 7)] [(2, 2)]
def mgh15206 : aw_H := [(81, mgx15205)]
def mgx15207 : aw_A := ms_o [(0, 8)] [(0, 4)] ar_t32 ar_t32 [(0, 180)] [(48, 48)] [(37, 60)] [(1, 7)] [(2, 2)]
def mgh15208 : aw_H := [(81, mgx15207)]
def mgx15209 : aw_A := ms_o [(0, 8)] [(0, 4)] ar_t32 ar_t32 [(0, 180)] [(49, 49)] [(37, 60)] [(1, 7)] [(2, 2)]
def mgh15210 : aw_H := [(81, mgx15209)]
def mgx15211 : aw_A := ms_o [(0, 8)] [(0, 4)] ar_t32 ar_t32 [(0, 180)] [(50, 50)] [(37, 60)] [(1, 7)] [(2, 2)]
def mgh15212 : aw_H := [(81, mgx15211)]
def mgx15213 : aw_A := ms_o [(0, 8)] [(0, 4)] ar_t32 ar_t32 [(0, 180)] [(51, 51)] [(37, 60)] [(1, 7)] [(2, 2)]
def mgh15214 : aw_H := [(81, mgx15213)]
def mgx15215 : aw_A := ms_o [(0, 8)] [(0, 4)] ar_t32 ar_t32 [(0, 180)] [(52, 52)] [(37, 60)] [(1, 7)] [(2, 2)]
def mgh15216 : aw_H := [(81, mgx15215)]
def mgx15217 : aw_A := ms_o [(0, 8)] [(0, 4)] ar_t32 ar_t32 [(0, 180)] [(53, 53)] [(37, 60)] [(1, 7)] [(2, 2)]
def mgh15218 : aw_H := [(81, mgx15217)]
def mgx15219 : aw_A := ms_o [(0, 8)] [(0, 4)] ar_t32 ar_t32 [(0, 180)] [(54, 54)] [(37, 60)] [(1, 7)] [(2, 2)]
def mgh15220 : aw_H := [(81, mgx15219)]
def mgx15221 : aw_A := ms_o [(0, 8)] [(0, 4)] ar_t32 ar_t32 [(0, 180)] [(55, 55)] [(37, 60)] [(1, 7)] [(2, 2)]
def mgh15222 : aw_H := [(81, mgx15221)]
def mgx15223 : aw_A := ms_o [(0, 8)] [(0, 4)] ar_t32 ar_t32 [(0, 180)] [(56, 56)] [(37, 60)] [(1, 7)] [(2, 2)]
def mgh15224 : aw_H := [(81, mgx15223)]
def mgx15225 : aw_A := ms_o [(0, 8)] [(0, 4)] ar_t32 ar_t32 [(0, 180)] [(57, 57)] [(37, 60)] [(1, 7)] [(2, 2)]
def mgh15226 : aw_H := [(81, mgx15225)]
def mgx15227 : aw_A := ms_o [(0, 8)] [(0, 4)] ar_t32 ar_t32 [(0, 180)] [(58, 58)] [(37, 60)] [(1, 7)] [(2, 2)]
def mgh15228 : aw_H := [(81, mgx15227)]
def mgx15229 : aw_A := ms_o [(0, 8)] [(0, 4)] ar_t32 ar_t32 [(0, 180)] [(59, 59)] [(37, 60)] [(1, 7)] [(2, 2)]
def mgh15230 : aw_H := [(81, mgx15229)]
def mgx15231 : aw_A := ms_o [(0, 8)] [(0, 4)] ar_t32 ar_t32 [(0, 180)] [(60, 60)] [(37, 60)] [(1, 7)] [(2, 2)]
def mgh15232 : aw_H := [(81, mgx15231)]
/-- MiceRegistersModel.skip -/
def mgh15233 : aw_H := [(81, mgx15182), (90, .inr (.inl (0, 240, [], [])))]
def mgc5854 : ak_C := (122, [.inl 81], mgh15233, [81], [([], none, mgh15186), ([], none, mgh15188), ([], none, mgh15190), ([], none, mgh15192), ([], none, mgh15194), ([], none, mgh15196), ([], none, mgh15198), ([], none, mgh15200), ([], none, mgh15202), ([], none, mgh15204), ([], none, mgh15206), ([], none, mgh15208), ([], none, mgh15210), ([], none, mgh15212), ([], none, mgh15214), ([], none, mgh15216), ([], none, mgh15218), ([], none, mgh15220), ([], none, mgh15222), ([], none, mgh15224), ([], none, mgh15226), ([], none, mgh15228), ([], none, mgh15230), ([], none, mgh15232)])
/-- MiceRegistersModel.readsLine -/
def mgx15234 : aw_A := ms_o [(0, 8)] [(0, 4)] ar_t32 ar_t32 [(0, 180)] [(35, 35)] [(36, 60)] [(1, 7)] [(1, 1)]
def mgh15235 : aw_H := [(81, mgx15234)]
def mgc5272 : ak_C := (124, [.inl 81], mgh15235, [], [([], some (.inr (false, [(0, 0)])), [])])
theorem mgk5272 : ai_chk [] mgc5272 (fun pc => sm_ch sm_t124 pc, sm_Kn 3 3 none, fun x => sm_lk sm_ca3 x, some .boolean) [] 3 0 [] [] 2000 [] = true := by decide +kernel
/-- MiceRegistersModel.figure -/
def mgc5273 : ak_C := (125, [.inl 81, .inr (false, [(0, 0)]), .inr (false, [(0, 6)])], mgh15180, [81], [([], some (.inr (false, [(-9, -9)])), mgh14208), ([], some (.inr (false, [(0, 6)])), mgh15179)])
def mgx15236 : aw_A := ms_o [(0, 8)] [(0, 4)] ar_t32 ar_t32 [(0, 180)] [(38, 38)] [(38, 60)] [(1, 7)] [(1, 1)]
def mgh15237 : aw_H := [(81, mgx15236)]
/-- MiceRegistersModel.figure -/
def mgh15238 : aw_H := [(81, mgx15178), (90, .inr (.inl (0, 240, [], [])))]
def mgc5274 : ak_C := (125, [.inl 81, .inr (false, [(1, 1)]), .inr (false, [(9, 9)])], mgh15238, [81], [([], some (.inr (false, [(-9, -9)])), mgh15179), ([], some (.inr (false, [(1, 9)])), mgh15237)])
def mgh15239 : aw_H := [(81, mgx15234), (94, mgx4449)]
def mgx15240 : aw_A := ms_o [(0, 8)] [(0, 4)] ar_t32 ar_t32 [(0, 180)] [(38, 38)] [(38, 60)] [(1, 7)] [(2, 2)]
def mgh15241 : aw_H := [(81, mgx15240), (94, mgx6150)]
def mgh15242 : aw_H := [(81, mgx15178), (94, mgx4449)]
/-- MiceRegistersModel.readsMouse -/
def mgh15243 : aw_H := [(81, mgx15234), (90, .inr (.inl (0, 240, [], []))), (94, mgx4449)]
def mgc5275 : ak_C := (127, [.inl 81], mgh15243, [81, 94], [([], some (.inr (false, [(0, 0)])), mgh15239), ([], some (.inr (false, [(1, 1)])), mgh15241), ([], some (.inr (false, [(0, 0)])), mgh15242), ([], some (.inr (false, [(0, 0)])), mgh15184)])
theorem mgk5275 : ai_chk [mgc44, mgc147, mgc5273, mgc5274] mgc5275 (fun pc => sm_ch sm_t127 pc, sm_Kn 3 5 none, fun x => sm_lk sm_ca3 x, some .boolean) [81, 94] 5 0 [] [] 2000 [] = true := by decide +kernel
def mgh15244 : aw_H := [(81, mgx15240)]
def mgx15245 : aw_A := ms_o [(0, 8)] [(0, 4)] ar_t32 ar_t32 [(0, 180)] [(39, 39)] [(38, 60)] [(1, 7)] [(2, 2)]
def mgh15246 : aw_H := [(81, mgx15245)]
def mgx15247 : aw_A := ms_o [(0, 8)] [(0, 4)] ar_t32 ar_t32 [(0, 180)] [(40, 40)] [(38, 60)] [(1, 7)] [(2, 2)]
def mgh15248 : aw_H := [(81, mgx15247)]
def mgx15249 : aw_A := ms_o [(0, 8)] [(0, 4)] ar_t32 ar_t32 [(0, 180)] [(41, 41)] [(38, 60)] [(1, 7)] [(2, 2)]
def mgh15250 : aw_H := [(81, mgx15249)]
def mgx15251 : aw_A := ms_o [(0, 8)] [(0, 4)] ar_t32 ar_t32 [(0, 180)] [(42, 42)] [(38, 60)] [(1, 7)] [(2, 2)]
def mgh15252 : aw_H := [(81, mgx15251)]
def mgx15253 : aw_A := ms_o [(0, 8)] [(0, 4)] ar_t32 ar_t32 [(0, 180)] [(43, 43)] [(38, 60)] [(1, 7)] [(2, 2)]
def mgh15254 : aw_H := [(81, mgx15253)]
def mgx15255 : aw_A := ms_o [(0, 8)] [(0, 4)] ar_t32 ar_t32 [(0, 180)] [(44, 44)] [(38, 60)] [(1, 7)] [(2, 2)]
def mgh15256 : aw_H := [(81, mgx15255)]
def mgx15257 : aw_A := ms_o [(0, 8)] [(0, 4)] ar_t32 ar_t32 [(0, 180)] [(45, 45)] [(38, 60)] [(1, 7)] [(2, 2)]
def mgh15258 : aw_H := [(81, mgx15257)]
def mgx15259 : aw_A := ms_o [(0, 8)] [(0, 4)] ar_t32 ar_t32 [(0, 180)] [(46, 46)] [(38, 60)] [(1, 7)] [(2, 2)]
def mgh15260 : aw_H := [(81, mgx15259)]
def mgx15261 : aw_A := ms_o [(0, 8)] [(0, 4)] ar_t32 ar_t32 [(0, 180)] [(47, 47)] [(38, 60)] [(1, 7)] [(2, 2)]
def mgh15262 : aw_H := [(81, mgx15261)]
def mgx15263 : aw_A := ms_o [(0, 8)] [(0, 4)] ar_t32 ar_t32 [(0, 180)] [(48, 48)] [(38, 60)] [(1, 7)] [(2, 2)]
def mgh15264 : aw_H := [(81, mgx15263)]
def mgx15265 : aw_A := ms_o [(0, 8)] [(0, 4)] ar_t32 ar_t32 [(0, 180)] [(49, 49)] [(38, 60)] [(1, 7)] [(2, 2)]
def mgh15266 : aw_H := [(81, mgx15265)]
def mgx15267 : aw_A := ms_o [(0, 8)] [(0, 4)] ar_t32 ar_t32 [(0, 180)] [(50, 50)] [(38, 60)] [(1, 7)] [(2, 2)]
def mgh15268 : aw_H := [(81, mgx15267)]
def mgx15269 : aw_A := ms_o [(0, 8)] [(0, 4)] ar_t32 ar_t32 [(0, 180)] [(51, 51)] [(38, 60)] [(1, 7)] [(2, 2)]
def mgh15270 : aw_H := [(81, mgx15269)]
def mgx15271 : aw_A := ms_o [(0, 8)] [(0, 4)] ar_t32 ar_t32 [(0, 180)] [(52, 52)] [(38, 60)] [(1, 7)] [(2, 2)]
def mgh15272 : aw_H := [(81, mgx15271)]
def mgx15273 : aw_A := ms_o [(0, 8)] [(0, 4)] ar_t32 ar_t32 [(0, 180)] [(53, 53)] [(38, 60)] [(1, 7)] [(2, 2)]
def mgh15274 : aw_H := [(81, mgx15273)]
def mgx15275 : aw_A := ms_o [(0, 8)] [(0, 4)] ar_t32 ar_t32 [(0, 180)] [(54, 54)] [(38, 60)] [(1, 7)] [(2, 2)]
def mgh15276 : aw_H := [(81, mgx15275)]
def mgx15277 : aw_A := ms_o [(0, 8)] [(0, 4)] ar_t32 ar_t32 [(0, 180)] [(55, 55)] [(38, 60)] [(1, 7)] [(2, 2)]
def mgh15278 : aw_H := [(81, mgx15277)]
def mgx15279 : aw_A := ms_o [(0, 8)] [(0, 4)] ar_t32 ar_t32 [(0, 180)] [(56, 56)] [(38, 60)] [(1, 7)] [(2, 2)]
def mgh15280 : aw_H := [(81, mgx15279)]
def mgx15281 : aw_A := ms_o [(0, 8)] [(0, 4)] ar_t32 ar_t32 [(0, 180)] [(57, 57)] [(38, 60)] [(1, 7)] [(2, 2)]
def mgh15282 : aw_H := [(81, mgx15281)]
def mgx15283 : aw_A := ms_o [(0, 8)] [(0, 4)] ar_t32 ar_t32 [(0, 180)] [(58, 58)] [(38, 60)] [(1, 7)] [(2, 2)]
def mgh15284 : aw_H := [(81, mgx15283)]
def mgx15285 : aw_A := ms_o [(0, 8)] [(0, 4)] ar_t32 ar_t32 [(0, 180)] [(59, 59)] [(38, 60)] [(1, 7)] [(2, 2)]
def mgh15286 : aw_H := [(81, mgx15285)]
def mgx15287 : aw_A := ms_o [(0, 8)] [(0, 4)] ar_t32 ar_t32 [(0, 180)] [(60, 60)] [(38, 60)] [(1, 7)] [(2, 2)]
def mgh15288 : aw_H := [(81, mgx15287)]
/-- MiceRegistersModel.skip -/
def mgh15289 : aw_H := [(81, mgx15240), (90, .inr (.inl (0, 240, [], [])))]
def mgc5905 : ak_C := (122, [.inl 81], mgh15289, [81], [([], none, mgh15244), ([], none, mgh15246), ([], none, mgh15248), ([], none, mgh15250), ([], none, mgh15252), ([], none, mgh15254), ([], none, mgh15256), ([], none, mgh15258), ([], none, mgh15260), ([], none, mgh15262), ([], none, mgh15264), ([], none, mgh15266), ([], none, mgh15268), ([], none, mgh15270), ([], none, mgh15272), ([], none, mgh15274), ([], none, mgh15276), ([], none, mgh15278), ([], none, mgh15280), ([], none, mgh15282), ([], none, mgh15284), ([], none, mgh15286), ([], none, mgh15288)])
/-- MiceRegistersModel.readsLine -/
def mgx15290 : aw_A := ms_o [(0, 8)] [(0, 4)] ar_t32 ar_t32 [(0, 180)] [(25, 25)] [(26, 60)] [(1, 5)] [(1, 1)]
def mgh15291 : aw_H := [(81, mgx15290)]
def mgc3930 : ak_C := (124, [.inl 81], mgh15291, [], [([], some (.inr (false, [(0, 0)])), [])])
theorem mgk3930 : ai_chk [] mgc3930 (fun pc => sm_ch sm_t124 pc, sm_Kn 3 3 none, fun x => sm_lk sm_ca3 x, some .boolean) [] 3 0 [] [] 2000 [] = true := by decide +kernel
/-- MiceRegistersModel.figure -/
def mgc3931 : ak_C := (125, [.inl 81, .inr (false, [(0, 0)]), .inr (false, [(0, 4)])], mgh11439, [81], [([], some (.inr (false, [(-9, -9)])), mgh11370), ([], some (.inr (false, [(0, 4)])), mgh11524)])
/-- MiceRegistersModel.figure -/
def mgc3932 : ak_C := (125, [.inl 81, .inr (false, [(1, 1)]), .inr (false, [(9, 9)])], mgh11591, [81], [([], some (.inr (false, [(-9, -9)])), mgh11524), ([], some (.inr (false, [(1, 9)])), mgh14132)])
def mgh15292 : aw_H := [(81, mgx15290), (94, mgx4449)]
/-- MiceRegistersModel.readsMouse -/
def mgh15293 : aw_H := [(81, mgx15290), (90, .inr (.inl (0, 240, [], []))), (94, mgx4449)]
def mgc3933 : ak_C := (127, [.inl 81], mgh15293, [81, 94], [([], some (.inr (false, [(0, 0)])), mgh15292), ([], some (.inr (false, [(1, 1)])), mgh14825), ([], some (.inr (false, [(0, 0)])), mgh11521), ([], some (.inr (false, [(0, 0)])), mgh11366)])
theorem mgk3933 : ai_chk [mgc54, mgc147, mgc3931, mgc3932] mgc3933 (fun pc => sm_ch sm_t127 pc, sm_Kn 3 5 none, fun x => sm_lk sm_ca3 x, some .boolean) [81, 94] 5 0 [] [] 2000 [] = true := by decide +kernel
def mgx15294 : aw_A := ms_o [(0, 8)] [(0, 4)] ar_t32 ar_t32 [(0, 180)] [(29, 29)] [(28, 60)] [(1, 5)] [(2, 2)]
def mgh15295 : aw_H := [(81, mgx15294)]
def mgx15296 : aw_A := ms_o [(0, 8)] [(0, 4)] ar_t32 ar_t32 [(0, 180)] [(30, 30)] [(28, 60)] [(1, 5)] [(2, 2)]
def mgh15297 : aw_H := [(81, mgx15296)]
def mgx15298 : aw_A := ms_o [(0, 8)] [(0, 4)] ar_t32 ar_t32 [(0, 180)] [(31, 31)] [(28, 60)] [(1, 5)] [(2, 2)]
def mgh15299 : aw_H := [(81, mgx15298)]
def mgx15300 : aw_A := ms_o [(0, 8)] [(0, 4)] ar_t32 ar_t32 [(0, 180)] [(32, 32)] [(28, 60)] [(1, 5)] [(2, 2)]
def mgh15301 : aw_H := [(81, mgx15300)]
def mgx15302 : aw_A := ms_o [(0, 8)] [(0, 4)] ar_t32 ar_t32 [(0, 180)] [(33, 33)] [(28, 60)] [(1, 5)] [(2, 2)]
def mgh15303 : aw_H := [(81, mgx15302)]
def mgx15304 : aw_A := ms_o [(0, 8)] [(0, 4)] ar_t32 ar_t32 [(0, 180)] [(34, 34)] [(28, 60)] [(1, 5)] [(2, 2)]
def mgh15305 : aw_H := [(81, mgx15304)]
def mgx15306 : aw_A := ms_o [(0, 8)] [(0, 4)] ar_t32 ar_t32 [(0, 180)] [(35, 35)] [(28, 60)] [(1, 5)] [(2, 2)]
def mgh15307 : aw_H := [(81, mgx15306)]
def mgx15308 : aw_A := ms_o [(0, 8)] [(0, 4)] ar_t32 ar_t32 [(0, 180)] [(36, 36)] [(28, 60)] [(1, 5)] [(2, 2)]
def mgh15309 : aw_H := [(81, mgx15308)]
def mgx15310 : aw_A := ms_o [(0, 8)] [(0, 4)] ar_t32 ar_t32 [(0, 180)] [(37, 37)] [(28, 60)] [(1, 5)] [(2, 2)]
def mgh15311 : aw_H := [(81, mgx15310)]
def mgx15312 : aw_A := ms_o [(0, 8)] [(0, 4)] ar_t32 ar_t32 [(0, 180)] [(38, 38)] [(28, 60)] [(1, 5)] [(2, 2)]
def mgh15313 : aw_H := [(81, mgx15312)]
def mgx15314 : aw_A := ms_o [(0, 8)] [(0, 4)] ar_t32 ar_t32 [(0, 180)] [(39, 39)] [(28, 60)] [(1, 5)] [(2, 2)]
def mgh15315 : aw_H := [(81, mgx15314)]
def mgx15316 : aw_A := ms_o [(0, 8)] [(0, 4)] ar_t32 ar_t32 [(0, 180)] [(40, 40)] [(28, 60)] [(1, 5)] [(2, 2)]
def mgh15317 : aw_H := [(81, mgx15316)]
def mgx15318 : aw_A := ms_o [(0, 8)] [(0, 4)] ar_t32 ar_t32 [(0, 180)] [(41, 41)] [(28, 60)] [(1, 5)] [(2, 2)]
def mgh15319 : aw_H := [(81, mgx15318)]
def mgx15320 : aw_A := ms_o [(0, 8)] [(0, 4)] ar_t32 ar_t32 [(0, 180)] [(42, 42)] [(28, 60)] [(1, 5)] [(2, 2)]
def mgh15321 : aw_H := [(81, mgx15320)]
def mgx15322 : aw_A := ms_o [(0, 8)] [(0, 4)] ar_t32 ar_t32 [(0, 180)] [(43, 43)] [(28, 60)] [(1, 5)] [(2, 2)]
def mgh15323 : aw_H := [(81, mgx15322)]
def mgx15324 : aw_A := ms_o [(0, 8)] [(0, 4)] ar_t32 ar_t32 [(0, 180)] [(44, 44)] [(28, 60)] [(1, 5)] [(2, 2)]
def mgh15325 : aw_H := [(81, mgx15324)]
def mgx15326 : aw_A := ms_o [(0, 8)] [(0, 4)] ar_t32 ar_t32 [(0, 180)] [(45, 45)] [(28, 60)] [(1, 5)] [(2, 2)]
def mgh15327 : aw_H := [(81, mgx15326)]
def mgx15328 : aw_A := ms_o [(0, 8)] [(0, 4)] ar_t32 ar_t32 [(0, 180)] [(46, 46)] [(28, 60)] [(1, 5)] [(2, 2)]
def mgh15329 : aw_H := [(81, mgx15328)]
def mgx15330 : aw_A := ms_o [(0, 8)] [(0, 4)] ar_t32 ar_t32 [(0, 180)] [(47, 47)] [(28, 60)] [(1, 5)] [(2, 2)]
def mgh15331 : aw_H := [(81, mgx15330)]
def mgx15332 : aw_A := ms_o [(0, 8)] [(0, 4)] ar_t32 ar_t32 [(0, 180)] [(48, 48)] [(28, 60)] [(1, 5)] [(2, 2)]
def mgh15333 : aw_H := [(81, mgx15332)]
def mgx15334 : aw_A := ms_o [(0, 8)] [(0, 4)] ar_t32 ar_t32 [(0, 180)] [(49, 49)] [(28, 60)] [(1, 5)] [(2, 2)]
def mgh15335 : aw_H := [(81, mgx15334)]
def mgx15336 : aw_A := ms_o [(0, 8)] [(0, 4)] ar_t32 ar_t32 [(0, 180)] [(50, 50)] [(28, 60)] [(1, 5)] [(2, 2)]
def mgh15337 : aw_H := [(81, mgx15336)]
def mgx15338 : aw_A := ms_o [(0, 8)] [(0, 4)] ar_t32 ar_t32 [(0, 180)] [(51, 51)] [(28, 60)] [(1, 5)] [(2, 2)]
def mgh15339 : aw_H := [(81, mgx15338)]
def mgx15340 : aw_A := ms_o [(0, 8)] [(0, 4)] ar_t32 ar_t32 [(0, 180)] [(52, 52)] [(28, 60)] [(1, 5)] [(2, 2)]
def mgh15341 : aw_H := [(81, mgx15340)]
def mgx15342 : aw_A := ms_o [(0, 8)] [(0, 4)] ar_t32 ar_t32 [(0, 180)] [(53, 53)] [(28, 60)] [(1, 5)] [(2, 2)]
def mgh15343 : aw_H := [(81, mgx15342)]
def mgx15344 : aw_A := ms_o [(0, 8)] [(0, 4)] ar_t32 ar_t32 [(0, 180)] [(54, 54)] [(28, 60)] [(1, 5)] [(2, 2)]
def mgh15345 : aw_H := [(81, mgx15344)]
def mgx15346 : aw_A := ms_o [(0, 8)] [(0, 4)] ar_t32 ar_t32 [(0, 180)] [(55, 55)] [(28, 60)] [(1, 5)] [(2, 2)]
def mgh15347 : aw_H := [(81, mgx15346)]
def mgx15348 : aw_A := ms_o [(0, 8)] [(0, 4)] ar_t32 ar_t32 [(0, 180)] [(56, 56)] [(28, 60)] [(1, 5)] [(2, 2)]
def mgh15349 : aw_H := [(81, mgx15348)]
def mgx15350 : aw_A := ms_o [(0, 8)] [(0, 4)] ar_t32 ar_t32 [(0, 180)] [(57, 57)] [(28, 60)] [(1, 5)] [(2, 2)]
def mgh15351 : aw_H := [(81, mgx15350)]
def mgx15352 : aw_A := ms_o [(0, 8)] [(0, 4)] ar_t32 ar_t32 [(0, 180)] [(58, 58)] [(28, 60)] [(1, 5)] [(2, 2)]
def mgh15353 : aw_H := [(81, mgx15352)]
def mgx15354 : aw_A := ms_o [(0, 8)] [(0, 4)] ar_t32 ar_t32 [(0, 180)] [(59, 59)] [(28, 60)] [(1, 5)] [(2, 2)]
def mgh15355 : aw_H := [(81, mgx15354)]
def mgx15356 : aw_A := ms_o [(0, 8)] [(0, 4)] ar_t32 ar_t32 [(0, 180)] [(60, 60)] [(28, 60)] [(1, 5)] [(2, 2)]
def mgh15357 : aw_H := [(81, mgx15356)]
/-- MiceRegistersModel.skip -/
def mgc4760 : ak_C := (122, [.inl 81], mgh14821, [81], [([], none, mgh14820), ([], none, mgh15295), ([], none, mgh15297), ([], none, mgh15299), ([], none, mgh15301), ([], none, mgh15303), ([], none, mgh15305), ([], none, mgh15307), ([], none, mgh15309), ([], none, mgh15311), ([], none, mgh15313), ([], none, mgh15315), ([], none, mgh15317), ([], none, mgh15319), ([], none, mgh15321), ([], none, mgh15323), ([], none, mgh15325), ([], none, mgh15327), ([], none, mgh15329), ([], none, mgh15331), ([], none, mgh15333), ([], none, mgh15335), ([], none, mgh15337), ([], none, mgh15339), ([], none, mgh15341), ([], none, mgh15343), ([], none, mgh15345), ([], none, mgh15347), ([], none, mgh15349), ([], none, mgh15351), ([], none, mgh15353), ([], none, mgh15355), ([], none, mgh15357)])
/-- MiceRegistersModel.readsLine -/
def mgx15358 : aw_A := ms_o [(0, 8)] [(0, 4)] ar_t32 ar_t32 [(0, 180)] [(37, 37)] [(38, 60)] [(1, 7)] [(2, 2)]
def mgh15359 : aw_H := [(81, mgx15358)]
def mgc5659 : ak_C := (124, [.inl 81], mgh15359, [], [([], some (.inr (false, [(0, 0)])), [])])
theorem mgk5659 : ai_chk [] mgc5659 (fun pc => sm_ch sm_t124 pc, sm_Kn 3 3 none, fun x => sm_lk sm_ca3 x, some .boolean) [] 3 0 [] [] 2000 [] = true := by decide +kernel
def mgx15360 : aw_A := ms_o [(0, 8)] [(0, 4)] ar_t32 ar_t32 [(0, 180)] [(39, 39)] [(39, 60)] [(1, 7)] [(2, 2)]
def mgh15361 : aw_H := [(81, mgx15360)]
/-- MiceRegistersModel.figure -/
def mgc5660 : ak_C := (125, [.inl 81, .inr (false, [(0, 0)]), .inr (false, [(0, 6)])], mgh15289, [81], [([], some (.inr (false, [(-9, -9)])), mgh15244), ([], some (.inr (false, [(0, 6)])), mgh15361)])
def mgx15362 : aw_A := ms_o [(0, 8)] [(0, 4)] ar_t32 ar_t32 [(0, 180)] [(40, 40)] [(40, 60)] [(1, 7)] [(2, 2)]
def mgh15363 : aw_H := [(81, mgx15362)]
/-- MiceRegistersModel.figure -/
def mgh15364 : aw_H := [(81, mgx15360), (90, .inr (.inl (0, 240, [], [])))]
def mgc5661 : ak_C := (125, [.inl 81, .inr (false, [(1, 1)]), .inr (false, [(9, 9)])], mgh15364, [81], [([], some (.inr (false, [(-9, -9)])), mgh15361), ([], some (.inr (false, [(1, 9)])), mgh15363)])
def mgh15365 : aw_H := [(81, mgx15358), (94, mgx6150)]
def mgx15366 : aw_A := ms_o [(0, 8)] [(0, 4)] ar_t32 ar_t32 [(0, 180)] [(40, 40)] [(40, 60)] [(1, 7)] [(3, 3)]
def mgh15367 : aw_H := [(81, mgx15366), (94, mgx6362)]
def mgh15368 : aw_H := [(81, mgx15360), (94, mgx6150)]
/-- MiceRegistersModel.readsMouse -/
def mgh15369 : aw_H := [(81, mgx15358), (90, .inr (.inl (0, 240, [], []))), (94, mgx6150)]
def mgc5662 : ak_C := (127, [.inl 81], mgh15369, [81, 94], [([], some (.inr (false, [(0, 0)])), mgh15365), ([], some (.inr (false, [(1, 1)])), mgh15367), ([], some (.inr (false, [(0, 0)])), mgh15368), ([], some (.inr (false, [(0, 0)])), mgh15241)])
theorem mgk5662 : ai_chk [mgc42, mgc147, mgc5660, mgc5661] mgc5662 (fun pc => sm_ch sm_t127 pc, sm_Kn 3 5 none, fun x => sm_lk sm_ca3 x, some .boolean) [81, 94] 5 0 [] [] 2000 [] = true := by decide +kernel
def mgh15370 : aw_H := [(81, mgx15366)]
def mgx15371 : aw_A := ms_o [(0, 8)] [(0, 4)] ar_t32 ar_t32 [(0, 180)] [(41, 41)] [(40, 60)] [(1, 7)] [(3, 3)]
def mgh15372 : aw_H := [(81, mgx15371)]
def mgx15373 : aw_A := ms_o [(0, 8)] [(0, 4)] ar_t32 ar_t32 [(0, 180)] [(42, 42)] [(40, 60)] [(1, 7)] [(3, 3)]
def mgh15374 : aw_H := [(81, mgx15373)]
def mgx15375 : aw_A := ms_o [(0, 8)] [(0, 4)] ar_t32 ar_t32 [(0, 180)] [(43, 43)] [(40, 60)] [(1, 7)] [(3, 3)]
def mgh15376 : aw_H := [(81, mgx15375)]
def mgx15377 : aw_A := ms_o [(0, 8)] [(0, 4)] ar_t32 ar_t32 [(0, 180)] [(44, 44)] [(40, 60)] [(1, 7)] [(3, 3)]
def mgh15378 : aw_H := [(81, mgx15377)]
def mgx15379 : aw_A := ms_o [(0, 8)] [(0, 4)] ar_t32 ar_t32 [(0, 180)] [(45, 45)] [(40, 60)] [(1, 7)] [(3, 3)]
def mgh15380 : aw_H := [(81, mgx15379)]
def mgx15381 : aw_A := ms_o [(0, 8)] [(0, 4)] ar_t32 ar_t32 [(0, 180)] [(46, 46)] [(40, 60)] [(1, 7)] [(3, 3)]
def mgh15382 : aw_H := [(81, mgx15381)]
def mgx15383 : aw_A := ms_o [(0, 8)] [(0, 4)] ar_t32 ar_t32 [(0, 180)] [(47, 47)] [(40, 60)] [(1, 7)] [(3, 3)]
def mgh15384 : aw_H := [(81, mgx15383)]
def mgx15385 : aw_A := ms_o [(0, 8)] [(0, 4)] ar_t32 ar_t32 [(0, 180)] [(48, 48)] [(40, 60)] [(1, 7)] [(3, 3)]
def mgh15386 : aw_H := [(81, mgx15385)]
def mgx15387 : aw_A := ms_o [(0, 8)] [(0, 4)] ar_t32 ar_t32 [(0, 180)] [(49, 49)] [(40, 60)] [(1, 7)] [(3, 3)]
def mgh15388 : aw_H := [(81, mgx15387)]
def mgx15389 : aw_A := ms_o [(0, 8)] [(0, 4)] ar_t32 ar_t32 [(0, 180)] [(50, 50)] [(40, 60)] [(1, 7)] [(3, 3)]
def mgh15390 : aw_H := [(81, mgx15389)]
def mgx15391 : aw_A := ms_o [(0, 8)] [(0, 4)] ar_t32 ar_t32 [(0, 180)] [(51, 51)] [(40, 60)] [(1, 7)] [(3, 3)]
def mgh15392 : aw_H := [(81, mgx15391)]
def mgx15393 : aw_A := ms_o [(0, 8)] [(0, 4)] ar_t32 ar_t32 [(0, 180)] [(52, 52)] [(40, 60)] [(1, 7)] [(3, 3)]
def mgh15394 : aw_H := [(81, mgx15393)]
def mgx15395 : aw_A := ms_o [(0, 8)] [(0, 4)] ar_t32 ar_t32 [(0, 180)] [(53, 53)] [(40, 60)] [(1, 7)] [(3, 3)]
def mgh15396 : aw_H := [(81, mgx15395)]
def mgx15397 : aw_A := ms_o [(0, 8)] [(0, 4)] ar_t32 ar_t32 [(0, 180)] [(54, 54)] [(40, 60)] [(1, 7)] [(3, 3)]
def mgh15398 : aw_H := [(81, mgx15397)]
def mgx15399 : aw_A := ms_o [(0, 8)] [(0, 4)] ar_t32 ar_t32 [(0, 180)] [(55, 55)] [(40, 60)] [(1, 7)] [(3, 3)]
def mgh15400 : aw_H := [(81, mgx15399)]
def mgx15401 : aw_A := ms_o [(0, 8)] [(0, 4)] ar_t32 ar_t32 [(0, 180)] [(56, 56)] [(40, 60)] [(1, 7)] [(3, 3)]
def mgh15402 : aw_H := [(81, mgx15401)]
def mgx15403 : aw_A := ms_o [(0, 8)] [(0, 4)] ar_t32 ar_t32 [(0, 180)] [(57, 57)] [(40, 60)] [(1, 7)] [(3, 3)]
def mgh15404 : aw_H := [(81, mgx15403)]
def mgx15405 : aw_A := ms_o [(0, 8)] [(0, 4)] ar_t32 ar_t32 [(0, 180)] [(58, 58)] [(40, 60)] [(1, 7)] [(3, 3)]
def mgh15406 : aw_H := [(81, mgx15405)]
def mgx15407 : aw_A := ms_o [(0, 8)] [(0, 4)] ar_t32 ar_t32 [(0, 180)] [(59, 59)] [(40, 60)] [(1, 7)] [(3, 3)]
def mgh15408 : aw_H := [(81, mgx15407)]
def mgx15409 : aw_A := ms_o [(0, 8)] [(0, 4)] ar_t32 ar_t32 [(0, 180)] [(60, 60)] [(40, 60)] [(1, 7)] [(3, 3)]
def mgh15410 : aw_H := [(81, mgx15409)]
/-- MiceRegistersModel.skip -/
def mgh15411 : aw_H := [(81, mgx15366), (90, .inr (.inl (0, 240, [], [])))]
def mgc6086 : ak_C := (122, [.inl 81], mgh15411, [81], [([], none, mgh15370), ([], none, mgh15372), ([], none, mgh15374), ([], none, mgh15376), ([], none, mgh15378), ([], none, mgh15380), ([], none, mgh15382), ([], none, mgh15384), ([], none, mgh15386), ([], none, mgh15388), ([], none, mgh15390), ([], none, mgh15392), ([], none, mgh15394), ([], none, mgh15396), ([], none, mgh15398), ([], none, mgh15400), ([], none, mgh15402), ([], none, mgh15404), ([], none, mgh15406), ([], none, mgh15408), ([], none, mgh15410)])
/-- MiceRegistersModel.readsLine -/
def mgx15412 : aw_A := ms_o [(0, 8)] [(0, 4)] ar_t32 ar_t32 [(0, 180)] [(38, 38)] [(39, 60)] [(1, 7)] [(2, 2)]
def mgh15413 : aw_H := [(81, mgx15412)]
def mgc5663 : ak_C := (124, [.inl 81], mgh15413, [], [([], some (.inr (false, [(0, 0)])), [])])
theorem mgk5663 : ai_chk [] mgc5663 (fun pc => sm_ch sm_t124 pc, sm_Kn 3 3 none, fun x => sm_lk sm_ca3 x, some .boolean) [] 3 0 [] [] 2000 [] = true := by decide +kernel
/-- MiceRegistersModel.figure -/
def mgc5664 : ak_C := (125, [.inl 81, .inr (false, [(0, 0)]), .inr (false, [(0, 6)])], mgh15364, [81], [([], some (.inr (false, [(-9, -9)])), mgh15361), ([], some (.inr (false, [(0, 6)])), mgh15363)])
def mgx15414 : aw_A := ms_o [(0, 8)] [(0, 4)] ar_t32 ar_t32 [(0, 180)] [(41, 41)] [(41, 60)] [(1, 7)] [(2, 2)]
def mgh15415 : aw_H := [(81, mgx15414)]
/-- MiceRegistersModel.figure -/
def mgh15416 : aw_H := [(81, mgx15362), (90, .inr (.inl (0, 240, [], [])))]
def mgc5665 : ak_C := (125, [.inl 81, .inr (false, [(1, 1)]), .inr (false, [(9, 9)])], mgh15416, [81], [([], some (.inr (false, [(-9, -9)])), mgh15363), ([], some (.inr (false, [(1, 9)])), mgh15415)])
def mgh15417 : aw_H := [(81, mgx15412), (94, mgx6150)]
def mgx15418 : aw_A := ms_o [(0, 8)] [(0, 4)] ar_t32 ar_t32 [(0, 180)] [(41, 41)] [(41, 60)] [(1, 7)] [(3, 3)]
def mgh15419 : aw_H := [(81, mgx15418), (94, mgx6362)]
def mgh15420 : aw_H := [(81, mgx15362), (94, mgx6150)]
/-- MiceRegistersModel.readsMouse -/
def mgh15421 : aw_H := [(81, mgx15412), (90, .inr (.inl (0, 240, [], []))), (94, mgx6150)]
def mgc5666 : ak_C := (127, [.inl 81], mgh15421, [81, 94], [([], some (.inr (false, [(0, 0)])), mgh15417), ([], some (.inr (false, [(1, 1)])), mgh15419), ([], some (.inr (false, [(0, 0)])), mgh15420), ([], some (.inr (false, [(0, 0)])), mgh15368)])
theorem mgk5666 : ai_chk [mgc41, mgc147, mgc5664, mgc5665] mgc5666 (fun pc => sm_ch sm_t127 pc, sm_Kn 3 5 none, fun x => sm_lk sm_ca3 x, some .boolean) [81, 94] 5 0 [] [] 2000 [] = true := by decide +kernel
def mgh15422 : aw_H := [(81, mgx15418)]
def mgx15423 : aw_A := ms_o [(0, 8)] [(0, 4)] ar_t32 ar_t32 [(0, 180)] [(42, 42)] [(41, 60)] [(1, 7)] [(3, 3)]
def mgh15424 : aw_H := [(81, mgx15423)]
def mgx15425 : aw_A := ms_o [(0, 8)] [(0, 4)] ar_t32 ar_t32 [(0, 180)] [(43, 43)] [(41, 60)] [(1, 7)] [(3, 3)]
def mgh15426 : aw_H := [(81, mgx15425)]
def mgx15427 : aw_A := ms_o [(0, 8)] [(0, 4)] ar_t32 ar_t32 [(0, 180)] [(44, 44)] [(41, 60)] [(1, 7)] [(3, 3)]
def mgh15428 : aw_H := [(81, mgx15427)]
def mgx15429 : aw_A := ms_o [(0, 8)] [(0, 4)] ar_t32 ar_t32 [(0, 180)] [(45, 45)] [(41, 60)] [(1, 7)] [(3, 3)]
def mgh15430 : aw_H := [(81, mgx15429)]
def mgx15431 : aw_A := ms_o [(0, 8)] [(0, 4)] ar_t32 ar_t32 [(0, 180)] [(46, 46)] [(41, 60)] [(1, 7)] [(3, 3)]
def mgh15432 : aw_H := [(81, mgx15431)]
def mgx15433 : aw_A := ms_o [(0, 8)] [(0, 4)] ar_t32 ar_t32 [(0, 180)] [(47, 47)] [(41, 60)] [(1, 7)] [(3, 3)]
def mgh15434 : aw_H := [(81, mgx15433)]
def mgx15435 : aw_A := ms_o [(0, 8)] [(0, 4)] ar_t32 ar_t32 [(0, 180)] [(48, 48)] [(41, 60)] [(1, 7)] [(3, 3)]
def mgh15436 : aw_H := [(81, mgx15435)]
def mgx15437 : aw_A := ms_o [(0, 8)] [(0, 4)] ar_t32 ar_t32 [(0, 180)] [(49, 49)] [(41, 60)] [(1, 7)] [(3, 3)]
def mgh15438 : aw_H := [(81, mgx15437)]
def mgx15439 : aw_A := ms_o [(0, 8)] [(0, 4)] ar_t32 ar_t32 [(0, 180)] [(50, 50)] [(41, 60)] [(1, 7)] [(3, 3)]
def mgh15440 : aw_H := [(81, mgx15439)]
def mgx15441 : aw_A := ms_o [(0, 8)] [(0, 4)] ar_t32 ar_t32 [(0, 180)] [(51, 51)] [(41, 60)] [(1, 7)] [(3, 3)]
def mgh15442 : aw_H := [(81, mgx15441)]
def mgx15443 : aw_A := ms_o [(0, 8)] [(0, 4)] ar_t32 ar_t32 [(0, 180)] [(52, 52)] [(41, 60)] [(1, 7)] [(3, 3)]
def mgh15444 : aw_H := [(81, mgx15443)]
def mgx15445 : aw_A := ms_o [(0, 8)] [(0, 4)] ar_t32 ar_t32 [(0, 180)] [(53, 53)] [(41, 60)] [(1, 7)] [(3, 3)]
def mgh15446 : aw_H := [(81, mgx15445)]
def mgx15447 : aw_A := ms_o [(0, 8)] [(0, 4)] ar_t32 ar_t32 [(0, 180)] [(54, 54)] [(41, 60)] [(1, 7)] [(3, 3)]
def mgh15448 : aw_H := [(81, mgx15447)]
def mgx15449 : aw_A := ms_o [(0, 8)] [(0, 4)] ar_t32 ar_t32 [(0, 180)] [(55, 55)] [(41, 60)] [(1, 7)] [(3, 3)]
def mgh15450 : aw_H := [(81, mgx15449)]
def mgx15451 : aw_A := ms_o [(0, 8)] [(0, 4)] ar_t32 ar_t32 [(0, 180)] [(56, 56)] [(41, 60)] [(1, 7)] [(3, 3)]
def mgh15452 : aw_H := [(81, mgx15451)]
def mgx15453 : aw_A := ms_o [(0, 8)] [(0, 4)] ar_t32 ar_t32 [(0, 180)] [(57, 57)] [(41, 60)] [(1, 7)] [(3, 3)]
def mgh15454 : aw_H := [(81, mgx15453)]
def mgx15455 : aw_A := ms_o [(0, 8)] [(0, 4)] ar_t32 ar_t32 [(0, 180)] [(58, 58)] [(41, 60)] [(1, 7)] [(3, 3)]
def mgh15456 : aw_H := [(81, mgx15455)]
def mgx15457 : aw_A := ms_o [(0, 8)] [(0, 4)] ar_t32 ar_t32 [(0, 180)] [(59, 59)] [(41, 60)] [(1, 7)] [(3, 3)]
def mgh15458 : aw_H := [(81, mgx15457)]
def mgx15459 : aw_A := ms_o [(0, 8)] [(0, 4)] ar_t32 ar_t32 [(0, 180)] [(60, 60)] [(41, 60)] [(1, 7)] [(3, 3)]
def mgh15460 : aw_H := [(81, mgx15459)]
/-- MiceRegistersModel.skip -/
def mgh15461 : aw_H := [(81, mgx15418), (90, .inr (.inl (0, 240, [], [])))]
def mgc6091 : ak_C := (122, [.inl 81], mgh15461, [81], [([], none, mgh15422), ([], none, mgh15424), ([], none, mgh15426), ([], none, mgh15428), ([], none, mgh15430), ([], none, mgh15432), ([], none, mgh15434), ([], none, mgh15436), ([], none, mgh15438), ([], none, mgh15440), ([], none, mgh15442), ([], none, mgh15444), ([], none, mgh15446), ([], none, mgh15448), ([], none, mgh15450), ([], none, mgh15452), ([], none, mgh15454), ([], none, mgh15456), ([], none, mgh15458), ([], none, mgh15460)])
/-- MiceRegistersModel.readsLine -/
def mgx15462 : aw_A := ms_o [(0, 8)] [(0, 4)] ar_t32 ar_t32 [(0, 180)] [(33, 33)] [(34, 60)] [(1, 6)] [(2, 2)]
def mgh15463 : aw_H := [(81, mgx15462)]
def mgc5149 : ak_C := (124, [.inl 81], mgh15463, [], [([], some (.inr (false, [(0, 0)])), [])])
theorem mgk5149 : ai_chk [] mgc5149 (fun pc => sm_ch sm_t124 pc, sm_Kn 3 3 none, fun x => sm_lk sm_ca3 x, some .boolean) [] 3 0 [] [] 2000 [] = true := by decide +kernel
def mgx15464 : aw_A := ms_o [(0, 8)] [(0, 4)] ar_t32 ar_t32 [(0, 180)] [(35, 35)] [(35, 60)] [(1, 6)] [(2, 2)]
def mgh15465 : aw_H := [(81, mgx15464)]
/-- MiceRegistersModel.figure -/
def mgc5150 : ak_C := (125, [.inl 81, .inr (false, [(0, 0)]), .inr (false, [(0, 5)])], mgh14454, [81], [([], some (.inr (false, [(-9, -9)])), mgh14401), ([], some (.inr (false, [(0, 5)])), mgh15465)])
def mgx15466 : aw_A := ms_o [(0, 8)] [(0, 4)] ar_t32 ar_t32 [(0, 180)] [(36, 36)] [(36, 60)] [(1, 6)] [(2, 2)]
def mgh15467 : aw_H := [(81, mgx15466)]
/-- MiceRegistersModel.figure -/
def mgh15468 : aw_H := [(81, mgx15464), (90, .inr (.inl (0, 240, [], [])))]
def mgc5151 : ak_C := (125, [.inl 81, .inr (false, [(1, 1)]), .inr (false, [(9, 9)])], mgh15468, [81], [([], some (.inr (false, [(-9, -9)])), mgh15465), ([], some (.inr (false, [(1, 9)])), mgh15467)])
def mgh15469 : aw_H := [(81, mgx15462), (94, mgx6150)]
def mgx15470 : aw_A := ms_o [(0, 8)] [(0, 4)] ar_t32 ar_t32 [(0, 180)] [(36, 36)] [(36, 60)] [(1, 6)] [(3, 3)]
def mgh15471 : aw_H := [(81, mgx15470), (94, mgx6362)]
def mgh15472 : aw_H := [(81, mgx15464), (94, mgx6150)]
/-- MiceRegistersModel.readsMouse -/
def mgh15473 : aw_H := [(81, mgx15462), (90, .inr (.inl (0, 240, [], []))), (94, mgx6150)]
def mgc5152 : ak_C := (127, [.inl 81], mgh15473, [81, 94], [([], some (.inr (false, [(0, 0)])), mgh15469), ([], some (.inr (false, [(1, 1)])), mgh15471), ([], some (.inr (false, [(0, 0)])), mgh15472), ([], some (.inr (false, [(0, 0)])), mgh14397)])
theorem mgk5152 : ai_chk [mgc46, mgc147, mgc5150, mgc5151] mgc5152 (fun pc => sm_ch sm_t127 pc, sm_Kn 3 5 none, fun x => sm_lk sm_ca3 x, some .boolean) [81, 94] 5 0 [] [] 2000 [] = true := by decide +kernel
def mgh15474 : aw_H := [(81, mgx15470)]
def mgx15475 : aw_A := ms_o [(0, 8)] [(0, 4)] ar_t32 ar_t32 [(0, 180)] [(37, 37)] [(36, 60)] [(1, 6)] [(3, 3)]
def mgh15476 : aw_H := [(81, mgx15475)]
def mgx15477 : aw_A := ms_o [(0, 8)] [(0, 4)] ar_t32 ar_t32 [(0, 180)] [(38, 38)] [(36, 60)] [(1, 6)] [(3, 3)]
def mgh15478 : aw_H := [(81, mgx15477)]
def mgx15479 : aw_A := ms_o [(0, 8)] [(0, 4)] ar_t32 ar_t32 [(0, 180)] [(39, 39)] [(36, 60)] [(1, 6)] [(3, 3)]
def mgh15480 : aw_H := [(81, mgx15479)]
def mgx15481 : aw_A := ms_o [(0, 8)] [(0, 4)] ar_t32 ar_t32 [(0, 180)] [(40, 40)] [(36, 60)] [(1, 6)] [(3, 3)]
def mgh15482 : aw_H := [(81, mgx15481)]
def mgx15483 : aw_A := ms_o [(0, 8)] [(0, 4)] ar_t32 ar_t32 [(0, 180)] [(41, 41)] [(36, 60)] [(1, 6)] [(3, 3)]
def mgh15484 : aw_H := [(81, mgx15483)]
def mgx15485 : aw_A := ms_o [(0, 8)] [(0, 4)] ar_t32 ar_t32 [(0, 180)] [(42, 42)] [(36, 60)] [(1, 6)] [(3, 3)]
def mgh15486 : aw_H := [(81, mgx15485)]
def mgx15487 : aw_A := ms_o [(0, 8)] [(0, 4)] ar_t32 ar_t32 [(0, 180)] [(43, 43)] [(36, 60)] [(1, 6)] [(3, 3)]
def mgh15488 : aw_H := [(81, mgx15487)]
def mgx15489 : aw_A := ms_o [(0, 8)] [(0, 4)] ar_t32 ar_t32 [(0, 180)] [(44, 44)] [(36, 60)] [(1, 6)] [(3, 3)]
def mgh15490 : aw_H := [(81, mgx15489)]
def mgx15491 : aw_A := ms_o [(0, 8)] [(0, 4)] ar_t32 ar_t32 [(0, 180)] [(45, 45)] [(36, 60)] [(1, 6)] [(3, 3)]
def mgh15492 : aw_H := [(81, mgx15491)]
def mgx15493 : aw_A := ms_o [(0, 8)] [(0, 4)] ar_t32 ar_t32 [(0, 180)] [(46, 46)] [(36, 60)] [(1, 6)] [(3, 3)]
def mgh15494 : aw_H := [(81, mgx15493)]
def mgx15495 : aw_A := ms_o [(0, 8)] [(0, 4)] ar_t32 ar_t32 [(0, 180)] [(47, 47)] [(36, 60)] [(1, 6)] [(3, 3)]
def mgh15496 : aw_H := [(81, mgx15495)]
def mgx15497 : aw_A := ms_o [(0, 8)] [(0, 4)] ar_t32 ar_t32 [(0, 180)] [(48, 48)] [(36, 60)] [(1, 6)] [(3, 3)]
def mgh15498 : aw_H := [(81, mgx15497)]
def mgx15499 : aw_A := ms_o [(0, 8)] [(0, 4)] ar_t32 ar_t32 [(0, 180)] [(49, 49)] [(36, 60)] [(1, 6)] [(3, 3)]
def mgh15500 : aw_H := [(81, mgx15499)]
def mgx15501 : aw_A := ms_o [(0, 8)] [(0, 4)] ar_t32 ar_t32 [(0, 180)] [(50, 50)] [(36, 60)] [(1, 6)] [(3, 3)]
def mgh15502 : aw_H := [(81, mgx15501)]
def mgx15503 : aw_A := ms_o [(0, 8)] [(0, 4)] ar_t32 ar_t32 [(0, 180)] [(51, 51)] [(36, 60)] [(1, 6)] [(3, 3)]
def mgh15504 : aw_H := [(81, mgx15503)]
def mgx15505 : aw_A := ms_o [(0, 8)] [(0, 4)] ar_t32 ar_t32 [(0, 180)] [(52, 52)] [(36, 60)] [(1, 6)] [(3, 3)]
def mgh15506 : aw_H := [(81, mgx15505)]
def mgx15507 : aw_A := ms_o [(0, 8)] [(0, 4)] ar_t32 ar_t32 [(0, 180)] [(53, 53)] [(36, 60)] [(1, 6)] [(3, 3)]
def mgh15508 : aw_H := [(81, mgx15507)]
def mgx15509 : aw_A := ms_o [(0, 8)] [(0, 4)] ar_t32 ar_t32 [(0, 180)] [(54, 54)] [(36, 60)] [(1, 6)] [(3, 3)]
def mgh15510 : aw_H := [(81, mgx15509)]
def mgx15511 : aw_A := ms_o [(0, 8)] [(0, 4)] ar_t32 ar_t32 [(0, 180)] [(55, 55)] [(36, 60)] [(1, 6)] [(3, 3)]
def mgh15512 : aw_H := [(81, mgx15511)]
def mgx15513 : aw_A := ms_o [(0, 8)] [(0, 4)] ar_t32 ar_t32 [(0, 180)] [(56, 56)] [(36, 60)] [(1, 6)] [(3, 3)]
def mgh15514 : aw_H := [(81, mgx15513)]
def mgx15515 : aw_A := ms_o [(0, 8)] [(0, 4)] ar_t32 ar_t32 [(0, 180)] [(57, 57)] [(36, 60)] [(1, 6)] [(3, 3)]
def mgh15516 : aw_H := [(81, mgx15515)]
def mgx15517 : aw_A := ms_o [(0, 8)] [(0, 4)] ar_t32 ar_t32 [(0, 180)] [(58, 58)] [(36, 60)] [(1, 6)] [(3, 3)]
def mgh15518 : aw_H := [(81, mgx15517)]
def mgx15519 : aw_A := ms_o [(0, 8)] [(0, 4)] ar_t32 ar_t32 [(0, 180)] [(59, 59)] [(36, 60)] [(1, 6)] [(3, 3)]
def mgh15520 : aw_H := [(81, mgx15519)]
def mgx15521 : aw_A := ms_o [(0, 8)] [(0, 4)] ar_t32 ar_t32 [(0, 180)] [(60, 60)] [(36, 60)] [(1, 6)] [(3, 3)]
def mgh15522 : aw_H := [(81, mgx15521)]
/-- MiceRegistersModel.skip -/
def mgh15523 : aw_H := [(81, mgx15470), (90, .inr (.inl (0, 240, [], [])))]
def mgc5850 : ak_C := (122, [.inl 81], mgh15523, [81], [([], none, mgh15474), ([], none, mgh15476), ([], none, mgh15478), ([], none, mgh15480), ([], none, mgh15482), ([], none, mgh15484), ([], none, mgh15486), ([], none, mgh15488), ([], none, mgh15490), ([], none, mgh15492), ([], none, mgh15494), ([], none, mgh15496), ([], none, mgh15498), ([], none, mgh15500), ([], none, mgh15502), ([], none, mgh15504), ([], none, mgh15506), ([], none, mgh15508), ([], none, mgh15510), ([], none, mgh15512), ([], none, mgh15514), ([], none, mgh15516), ([], none, mgh15518), ([], none, mgh15520), ([], none, mgh15522)])
/-- MiceRegistersModel.readsLine -/
def mgx15524 : aw_A := ms_o [(0, 8)] [(0, 4)] ar_t32 ar_t32 [(0, 180)] [(35, 35)] [(36, 60)] [(1, 7)] [(2, 2)]
def mgh15525 : aw_H := [(81, mgx15524)]
def mgc5651 : ak_C := (124, [.inl 81], mgh15525, [], [([], some (.inr (false, [(0, 0)])), [])])
theorem mgk5651 : ai_chk [] mgc5651 (fun pc => sm_ch sm_t124 pc, sm_Kn 3 3 none, fun x => sm_lk sm_ca3 x, some .boolean) [] 3 0 [] [] 2000 [] = true := by decide +kernel
/-- MiceRegistersModel.figure -/
def mgc5652 : ak_C := (125, [.inl 81, .inr (false, [(0, 0)]), .inr (false, [(0, 6)])], mgh14262, [81], [([], some (.inr (false, [(-9, -9)])), mgh14213), ([], some (.inr (false, [(0, 6)])), mgh15186)])
/-- MiceRegistersModel.figure -/
def mgc5653 : ak_C := (125, [.inl 81, .inr (false, [(1, 1)]), .inr (false, [(9, 9)])], mgh15233, [81], [([], some (.inr (false, [(-9, -9)])), mgh15186), ([], some (.inr (false, [(1, 9)])), mgh15244)])
def mgh15526 : aw_H := [(81, mgx15524), (94, mgx6150)]
def mgx15527 : aw_A := ms_o [(0, 8)] [(0, 4)] ar_t32 ar_t32 [(0, 180)] [(38, 38)] [(38, 60)] [(1, 7)] [(3, 3)]
def mgh15528 : aw_H := [(81, mgx15527), (94, mgx6362)]
/-- MiceRegistersModel.readsMouse -/
def mgh15529 : aw_H := [(81, mgx15524), (90, .inr (.inl (0, 240, [], []))), (94, mgx6150)]
def mgc5654 : ak_C := (127, [.inl 81], mgh15529, [81, 94], [([], some (.inr (false, [(0, 0)])), mgh15526), ([], some (.inr (false, [(1, 1)])), mgh15528), ([], some (.inr (false, [(0, 0)])), mgh15183), ([], some (.inr (false, [(0, 0)])), mgh14211)])
theorem mgk5654 : ai_chk [mgc44, mgc147, mgc5652, mgc5653] mgc5654 (fun pc => sm_ch sm_t127 pc, sm_Kn 3 5 none, fun x => sm_lk sm_ca3 x, some .boolean) [81, 94] 5 0 [] [] 2000 [] = true := by decide +kernel
def mgh15530 : aw_H := [(81, mgx15527)]
def mgx15531 : aw_A := ms_o [(0, 8)] [(0, 4)] ar_t32 ar_t32 [(0, 180)] [(39, 39)] [(38, 60)] [(1, 7)] [(3, 3)]
def mgh15532 : aw_H := [(81, mgx15531)]
def mgx15533 : aw_A := ms_o [(0, 8)] [(0, 4)] ar_t32 ar_t32 [(0, 180)] [(40, 40)] [(38, 60)] [(1, 7)] [(3, 3)]
def mgh15534 : aw_H := [(81, mgx15533)]
def mgx15535 : aw_A := ms_o [(0, 8)] [(0, 4)] ar_t32 ar_t32 [(0, 180)] [(41, 41)] [(38, 60)] [(1, 7)] [(3, 3)]
def mgh15536 : aw_H := [(81, mgx15535)]
def mgx15537 : aw_A := ms_o [(0, 8)] [(0, 4)] ar_t32 ar_t32 [(0, 180)] [(42, 42)] [(38, 60)] [(1, 7)] [(3, 3)]
def mgh15538 : aw_H := [(81, mgx15537)]
def mgx15539 : aw_A := ms_o [(0, 8)] [(0, 4)] ar_t32 ar_t32 [(0, 180)] [(43, 43)] [(38, 60)] [(1, 7)] [(3, 3)]
def mgh15540 : aw_H := [(81, mgx15539)]
def mgx15541 : aw_A := ms_o [(0, 8)] [(0, 4)] ar_t32 ar_t32 [(0, 180)] [(44, 44)] [(38, 60)] [(1, 7)] [(3, 3)]
def mgh15542 : aw_H := [(81, mgx15541)]
def mgx15543 : aw_A := ms_o [(0, 8)] [(0, 4)] ar_t32 ar_t32 [(0, 180)] [(45, 45)] [(38, 60)] [(1, 7)] [(3, 3)]
def mgh15544 : aw_H := [(81, mgx15543)]
def mgx15545 : aw_A := ms_o [(0, 8)] [(0, 4)] ar_t32 ar_t32 [(0, 180)] [(46, 46)] [(38, 60)] [(1, 7)] [(3, 3)]
def mgh15546 : aw_H := [(81, mgx15545)]
def mgx15547 : aw_A := ms_o [(0, 8)] [(0, 4)] ar_t32 ar_t32 [(0, 180)] [(47, 47)] [(38, 60)] [(1, 7)] [(3, 3)]
def mgh15548 : aw_H := [(81, mgx15547)]
def mgx15549 : aw_A := ms_o [(0, 8)] [(0, 4)] ar_t32 ar_t32 [(0, 180)] [(48, 48)] [(38, 60)] [(1, 7)] [(3, 3)]
def mgh15550 : aw_H := [(81, mgx15549)]
def mgx15551 : aw_A := ms_o [(0, 8)] [(0, 4)] ar_t32 ar_t32 [(0, 180)] [(49, 49)] [(38, 60)] [(1, 7)] [(3, 3)]
def mgh15552 : aw_H := [(81, mgx15551)]
def mgx15553 : aw_A := ms_o [(0, 8)] [(0, 4)] ar_t32 ar_t32 [(0, 180)] [(50, 50)] [(38, 60)] [(1, 7)] [(3, 3)]
def mgh15554 : aw_H := [(81, mgx15553)]
def mgx15555 : aw_A := ms_o [(0, 8)] [(0, 4)] ar_t32 ar_t32 [(0, 180)] [(51, 51)] [(38, 60)] [(1, 7)] [(3, 3)]
def mgh15556 : aw_H := [(81, mgx15555)]
def mgx15557 : aw_A := ms_o [(0, 8)] [(0, 4)] ar_t32 ar_t32 [(0, 180)] [(52, 52)] [(38, 60)] [(1, 7)] [(3, 3)]
def mgh15558 : aw_H := [(81, mgx15557)]
def mgx15559 : aw_A := ms_o [(0, 8)] [(0, 4)] ar_t32 ar_t32 [(0, 180)] [(53, 53)] [(38, 60)] [(1, 7)] [(3, 3)]
def mgh15560 : aw_H := [(81, mgx15559)]
def mgx15561 : aw_A := ms_o [(0, 8)] [(0, 4)] ar_t32 ar_t32 [(0, 180)] [(54, 54)] [(38, 60)] [(1, 7)] [(3, 3)]
def mgh15562 : aw_H := [(81, mgx15561)]
def mgx15563 : aw_A := ms_o [(0, 8)] [(0, 4)] ar_t32 ar_t32 [(0, 180)] [(55, 55)] [(38, 60)] [(1, 7)] [(3, 3)]
def mgh15564 : aw_H := [(81, mgx15563)]
def mgx15565 : aw_A := ms_o [(0, 8)] [(0, 4)] ar_t32 ar_t32 [(0, 180)] [(56, 56)] [(38, 60)] [(1, 7)] [(3, 3)]
def mgh15566 : aw_H := [(81, mgx15565)]
def mgx15567 : aw_A := ms_o [(0, 8)] [(0, 4)] ar_t32 ar_t32 [(0, 180)] [(57, 57)] [(38, 60)] [(1, 7)] [(3, 3)]
def mgh15568 : aw_H := [(81, mgx15567)]
def mgx15569 : aw_A := ms_o [(0, 8)] [(0, 4)] ar_t32 ar_t32 [(0, 180)] [(58, 58)] [(38, 60)] [(1, 7)] [(3, 3)]
def mgh15570 : aw_H := [(81, mgx15569)]
def mgx15571 : aw_A := ms_o [(0, 8)] [(0, 4)] ar_t32 ar_t32 [(0, 180)] [(59, 59)] [(38, 60)] [(1, 7)] [(3, 3)]
def mgh15572 : aw_H := [(81, mgx15571)]
def mgx15573 : aw_A := ms_o [(0, 8)] [(0, 4)] ar_t32 ar_t32 [(0, 180)] [(60, 60)] [(38, 60)] [(1, 7)] [(3, 3)]
def mgh15574 : aw_H := [(81, mgx15573)]
/-- MiceRegistersModel.skip -/
def mgh15575 : aw_H := [(81, mgx15527), (90, .inr (.inl (0, 240, [], [])))]
def mgc5906 : ak_C := (122, [.inl 81], mgh15575, [81], [([], none, mgh15530), ([], none, mgh15532), ([], none, mgh15534), ([], none, mgh15536), ([], none, mgh15538), ([], none, mgh15540), ([], none, mgh15542), ([], none, mgh15544), ([], none, mgh15546), ([], none, mgh15548), ([], none, mgh15550), ([], none, mgh15552), ([], none, mgh15554), ([], none, mgh15556), ([], none, mgh15558), ([], none, mgh15560), ([], none, mgh15562), ([], none, mgh15564), ([], none, mgh15566), ([], none, mgh15568), ([], none, mgh15570), ([], none, mgh15572), ([], none, mgh15574)])
/-- MiceRegistersModel.readsLine -/
def mgx15576 : aw_A := ms_o [(0, 8)] [(0, 4)] ar_t32 ar_t32 [(0, 180)] [(34, 34)] [(35, 60)] [(1, 6)] [(2, 2)]
def mgh15577 : aw_H := [(81, mgx15576)]
def mgc5153 : ak_C := (124, [.inl 81], mgh15577, [], [([], some (.inr (false, [(0, 0)])), [])])
theorem mgk5153 : ai_chk [] mgc5153 (fun pc => sm_ch sm_t124 pc, sm_Kn 3 3 none, fun x => sm_lk sm_ca3 x, some .boolean) [] 3 0 [] [] 2000 [] = true := by decide +kernel
/-- MiceRegistersModel.figure -/
def mgc5154 : ak_C := (125, [.inl 81, .inr (false, [(0, 0)]), .inr (false, [(0, 5)])], mgh15468, [81], [([], some (.inr (false, [(-9, -9)])), mgh15465), ([], some (.inr (false, [(0, 5)])), mgh15467)])
def mgx15578 : aw_A := ms_o [(0, 8)] [(0, 4)] ar_t32 ar_t32 [(0, 180)] [(37, 37)] [(37, 60)] [(1, 6)] [(2, 2)]
def mgh15579 : aw_H := [(81, mgx15578)]
/-- MiceRegistersModel.figure -/
def mgh15580 : aw_H := [(81, mgx15466), (90, .inr (.inl (0, 240, [], [])))]
def mgc5155 : ak_C := (125, [.inl 81, .inr (false, [(1, 1)]), .inr (false, [(9, 9)])], mgh15580, [81], [([], some (.inr (false, [(-9, -9)])), mgh15467), ([], some (.inr (false, [(1, 9)])), mgh15579)])
def mgh15581 : aw_H := [(81, mgx15576), (94, mgx6150)]
def mgx15582 : aw_A := ms_o [(0, 8)] [(0, 4)] ar_t32 ar_t32 [(0, 180)] [(37, 37)] [(37, 60)] [(1, 6)] [(3, 3)]
def mgh15583 : aw_H := [(81, mgx15582), (94, mgx6362)]
def mgh15584 : aw_H := [(81, mgx15466), (94, mgx6150)]
/-- MiceRegistersModel.readsMouse -/
def mgh15585 : aw_H := [(81, mgx15576), (90, .inr (.inl (0, 240, [], []))), (94, mgx6150)]
def mgc5156 : ak_C := (127, [.inl 81], mgh15585, [81, 94], [([], some (.inr (false, [(0, 0)])), mgh15581), ([], some (.inr (false, [(1, 1)])), mgh15583), ([], some (.inr (false, [(0, 0)])), mgh15584), ([], some (.inr (false, [(0, 0)])), mgh15472)])
theorem mgk5156 : ai_chk [mgc45, mgc147, mgc5154, mgc5155] mgc5156 (fun pc => sm_ch sm_t127 pc, sm_Kn 3 5 none, fun x => sm_lk sm_ca3 x, some .boolean) [81, 94] 5 0 [] [] 2000 [] = true := by decide +kernel
def mgh15586 : aw_H := [(81, mgx15582)]
def mgx15587 : aw_A := ms_o [(0, 8)] [(0, 4)] ar_t32 ar_t32 [(0, 180)] [(38, 38)] [(37, 60)] [(1, 6)] [(3, 3)]
def mgh15588 : aw_H := [(81, mgx15587)]
def mgx15589 : aw_A := ms_o [(0, 8)] [(0, 4)] ar_t32 ar_t32 [(0, 180)] [(39, 39)] [(37, 60)] [(1, 6)] [(3, 3)]
def mgh15590 : aw_H := [(81, mgx15589)]
def mgx15591 : aw_A := ms_o [(0, 8)] [(0, 4)] ar_t32 ar_t32 [(0, 180)] [(40, 40)] [(37, 60)] [(1, 6)] [(3, 3)]
def mgh15592 : aw_H := [(81, mgx15591)]
def mgx15593 : aw_A := ms_o [(0, 8)] [(0, 4)] ar_t32 ar_t32 [(0, 180)] [(41, 41)] [(37, 60)] [(1, 6)] [(3, 3)]
def mgh15594 : aw_H := [(81, mgx15593)]
def mgx15595 : aw_A := ms_o [(0, 8)] [(0, 4)] ar_t32 ar_t32 [(0, 180)] [(42, 42)] [(37, 60)] [(1, 6)] [(3, 3)]
def mgh15596 : aw_H := [(81, mgx15595)]
def mgx15597 : aw_A := ms_o [(0, 8)] [(0, 4)] ar_t32 ar_t32 [(0, 180)] [(43, 43)] [(37, 60)] [(1, 6)] [(3, 3)]
def mgh15598 : aw_H := [(81, mgx15597)]
def mgx15599 : aw_A := ms_o [(0, 8)] [(0, 4)] ar_t32 ar_t32 [(0, 180)] [(44, 44)] [(37, 60)] [(1, 6)] [(3, 3)]
def mgh15600 : aw_H := [(81, mgx15599)]
def mgx15601 : aw_A := ms_o [(0, 8)] [(0, 4)] ar_t32 ar_t32 [(0, 180)] [(45, 45)] [(37, 60)] [(1, 6)] [(3, 3)]
def mgh15602 : aw_H := [(81, mgx15601)]
def mgx15603 : aw_A := ms_o [(0, 8)] [(0, 4)] ar_t32 ar_t32 [(0, 180)] [(46, 46)] [(37, 60)] [(1, 6)] [(3, 3)]
def mgh15604 : aw_H := [(81, mgx15603)]
def mgx15605 : aw_A := ms_o [(0, 8)] [(0, 4)] ar_t32 ar_t32 [(0, 180)] [(47, 47)] [(37, 60)] [(1, 6)] [(3, 3)]
def mgh15606 : aw_H := [(81, mgx15605)]
def mgx15607 : aw_A := ms_o [(0, 8)] [(0, 4)] ar_t32 ar_t32 [(0, 180)] [(48, 48)] [(37, 60)] [(1, 6)] [(3, 3)]
def mgh15608 : aw_H := [(81, mgx15607)]
def mgx15609 : aw_A := ms_o [(0, 8)] [(0, 4)] ar_t32 ar_t32 [(0, 180)] [(49, 49)] [(37, 60)] [(1, 6)] [(3, 3)]
def mgh15610 : aw_H := [(81, mgx15609)]
def mgx15611 : aw_A := ms_o [(0, 8)] [(0, 4)] ar_t32 ar_t32 [(0, 180)] [(50, 50)] [(37, 60)] [(1, 6)] [(3, 3)]
def mgh15612 : aw_H := [(81, mgx15611)]
def mgx15613 : aw_A := ms_o [(0, 8)] [(0, 4)] ar_t32 ar_t32 [(0, 180)] [(51, 51)] [(37, 60)] [(1, 6)] [(3, 3)]
def mgh15614 : aw_H := [(81, mgx15613)]
def mgx15615 : aw_A := ms_o [(0, 8)] [(0, 4)] ar_t32 ar_t32 [(0, 180)] [(52, 52)] [(37, 60)] [(1, 6)] [(3, 3)]
def mgh15616 : aw_H := [(81, mgx15615)]
def mgx15617 : aw_A := ms_o [(0, 8)] [(0, 4)] ar_t32 ar_t32 [(0, 180)] [(53, 53)] [(37, 60)] [(1, 6)] [(3, 3)]
def mgh15618 : aw_H := [(81, mgx15617)]
def mgx15619 : aw_A := ms_o [(0, 8)] [(0, 4)] ar_t32 ar_t32 [(0, 180)] [(54, 54)] [(37, 60)] [(1, 6)] [(3, 3)]
def mgh15620 : aw_H := [(81, mgx15619)]
def mgx15621 : aw_A := ms_o [(0, 8)] [(0, 4)] ar_t32 ar_t32 [(0, 180)] [(55, 55)] [(37, 60)] [(1, 6)] [(3, 3)]
def mgh15622 : aw_H := [(81, mgx15621)]
def mgx15623 : aw_A := ms_o [(0, 8)] [(0, 4)] ar_t32 ar_t32 [(0, 180)] [(56, 56)] [(37, 60)] [(1, 6)] [(3, 3)]
def mgh15624 : aw_H := [(81, mgx15623)]
def mgx15625 : aw_A := ms_o [(0, 8)] [(0, 4)] ar_t32 ar_t32 [(0, 180)] [(57, 57)] [(37, 60)] [(1, 6)] [(3, 3)]
def mgh15626 : aw_H := [(81, mgx15625)]
def mgx15627 : aw_A := ms_o [(0, 8)] [(0, 4)] ar_t32 ar_t32 [(0, 180)] [(58, 58)] [(37, 60)] [(1, 6)] [(3, 3)]
def mgh15628 : aw_H := [(81, mgx15627)]
def mgx15629 : aw_A := ms_o [(0, 8)] [(0, 4)] ar_t32 ar_t32 [(0, 180)] [(59, 59)] [(37, 60)] [(1, 6)] [(3, 3)]
def mgh15630 : aw_H := [(81, mgx15629)]
def mgx15631 : aw_A := ms_o [(0, 8)] [(0, 4)] ar_t32 ar_t32 [(0, 180)] [(60, 60)] [(37, 60)] [(1, 6)] [(3, 3)]
def mgh15632 : aw_H := [(81, mgx15631)]
/-- MiceRegistersModel.skip -/
def mgh15633 : aw_H := [(81, mgx15582), (90, .inr (.inl (0, 240, [], [])))]
def mgc5855 : ak_C := (122, [.inl 81], mgh15633, [81], [([], none, mgh15586), ([], none, mgh15588), ([], none, mgh15590), ([], none, mgh15592), ([], none, mgh15594), ([], none, mgh15596), ([], none, mgh15598), ([], none, mgh15600), ([], none, mgh15602), ([], none, mgh15604), ([], none, mgh15606), ([], none, mgh15608), ([], none, mgh15610), ([], none, mgh15612), ([], none, mgh15614), ([], none, mgh15616), ([], none, mgh15618), ([], none, mgh15620), ([], none, mgh15622), ([], none, mgh15624), ([], none, mgh15626), ([], none, mgh15628), ([], none, mgh15630), ([], none, mgh15632)])
/-- MiceRegistersModel.readsLine -/
def mgx15634 : aw_A := ms_o [(0, 8)] [(0, 4)] ar_t32 ar_t32 [(0, 180)] [(36, 36)] [(37, 60)] [(1, 7)] [(2, 2)]
def mgh15635 : aw_H := [(81, mgx15634)]
def mgc5655 : ak_C := (124, [.inl 81], mgh15635, [], [([], some (.inr (false, [(0, 0)])), [])])
theorem mgk5655 : ai_chk [] mgc5655 (fun pc => sm_ch sm_t124 pc, sm_Kn 3 3 none, fun x => sm_lk sm_ca3 x, some .boolean) [] 3 0 [] [] 2000 [] = true := by decide +kernel
/-- MiceRegistersModel.figure -/
def mgc5656 : ak_C := (125, [.inl 81, .inr (false, [(0, 0)]), .inr (false, [(0, 6)])], mgh15233, [81], [([], some (.inr (false, [(-9, -9)])), mgh15186), ([], some (.inr (false, [(0, 6)])), mgh15244)])
/-- MiceRegistersModel.figure -/
def mgc5657 : ak_C := (125, [.inl 81, .inr (false, [(1, 1)]), .inr (false, [(9, 9)])], mgh15289, [81], [([], some (.inr (false, [(-9, -9)])), mgh15244), ([], some (.inr (false, [(1, 9)])), mgh15361)])
def mgh15636 : aw_H := [(81, mgx15634), (94, mgx6150)]
def mgx15637 : aw_A := ms_o [(0, 8)] [(0, 4)] ar_t32 ar_t32 [(0, 180)] [(39, 39)] [(39, 60)] [(1, 7)] [(3, 3)]
def mgh15638 : aw_H := [(81, mgx15637), (94, mgx6362)]
/-- MiceRegistersModel.readsMouse -/
def mgh15639 : aw_H := [(81, mgx15634), (90, .inr (.inl (0, 240, [], []))), (94, mgx6150)]
def mgc5658 : ak_C := (127, [.inl 81], mgh15639, [81, 94], [([], some (.inr (false, [(0, 0)])), mgh15636), ([], some (.inr (false, [(1, 1)])), mgh15638), ([], some (.inr (false, [(0, 0)])), mgh15241), ([], some (.inr (false, [(0, 0)])), mgh15183)])
theorem mgk5658 : ai_chk [mgc43, mgc147, mgc5656, mgc5657] mgc5658 (fun pc => sm_ch sm_t127 pc, sm_Kn 3 5 none, fun x => sm_lk sm_ca3 x, some .boolean) [81, 94] 5 0 [] [] 2000 [] = true := by decide +kernel
def mgh15640 : aw_H := [(81, mgx15637)]
def mgx15641 : aw_A := ms_o [(0, 8)] [(0, 4)] ar_t32 ar_t32 [(0, 180)] [(40, 40)] [(39, 60)] [(1, 7)] [(3, 3)]
def mgh15642 : aw_H := [(81, mgx15641)]
def mgx15643 : aw_A := ms_o [(0, 8)] [(0, 4)] ar_t32 ar_t32 [(0, 180)] [(41, 41)] [(39, 60)] [(1, 7)] [(3, 3)]
def mgh15644 : aw_H := [(81, mgx15643)]
def mgx15645 : aw_A := ms_o [(0, 8)] [(0, 4)] ar_t32 ar_t32 [(0, 180)] [(42, 42)] [(39, 60)] [(1, 7)] [(3, 3)]
def mgh15646 : aw_H := [(81, mgx15645)]
def mgx15647 : aw_A := ms_o [(0, 8)] [(0, 4)] ar_t32 ar_t32 [(0, 180)] [(43, 43)] [(39, 60)] [(1, 7)] [(3, 3)]
def mgh15648 : aw_H := [(81, mgx15647)]
def mgx15649 : aw_A := ms_o [(0, 8)] [(0, 4)] ar_t32 ar_t32 [(0, 180)] [(44, 44)] [(39, 60)] [(1, 7)] [(3, 3)]
def mgh15650 : aw_H := [(81, mgx15649)]
def mgx15651 : aw_A := ms_o [(0, 8)] [(0, 4)] ar_t32 ar_t32 [(0, 180)] [(45, 45)] [(39, 60)] [(1, 7)] [(3, 3)]
def mgh15652 : aw_H := [(81, mgx15651)]
def mgx15653 : aw_A := ms_o [(0, 8)] [(0, 4)] ar_t32 ar_t32 [(0, 180)] [(46, 46)] [(39, 60)] [(1, 7)] [(3, 3)]
def mgh15654 : aw_H := [(81, mgx15653)]
def mgx15655 : aw_A := ms_o [(0, 8)] [(0, 4)] ar_t32 ar_t32 [(0, 180)] [(47, 47)] [(39, 60)] [(1, 7)] [(3, 3)]
def mgh15656 : aw_H := [(81, mgx15655)]
def mgx15657 : aw_A := ms_o [(0, 8)] [(0, 4)] ar_t32 ar_t32 [(0, 180)] [(48, 48)] [(39, 60)] [(1, 7)] [(3, 3)]
def mgh15658 : aw_H := [(81, mgx15657)]
def mgx15659 : aw_A := ms_o [(0, 8)] [(0, 4)] ar_t32 ar_t32 [(0, 180)] [(49, 49)] [(39, 60)] [(1, 7)] [(3, 3)]
def mgh15660 : aw_H := [(81, mgx15659)]
def mgx15661 : aw_A := ms_o [(0, 8)] [(0, 4)] ar_t32 ar_t32 [(0, 180)] [(50, 50)] [(39, 60)] [(1, 7)] [(3, 3)]
def mgh15662 : aw_H := [(81, mgx15661)]
def mgx15663 : aw_A := ms_o [(0, 8)] [(0, 4)] ar_t32 ar_t32 [(0, 180)] [(51, 51)] [(39, 60)] [(1, 7)] [(3, 3)]
def mgh15664 : aw_H := [(81, mgx15663)]
def mgx15665 : aw_A := ms_o [(0, 8)] [(0, 4)] ar_t32 ar_t32 [(0, 180)] [(52, 52)] [(39, 60)] [(1, 7)] [(3, 3)]
def mgh15666 : aw_H := [(81, mgx15665)]
def mgx15667 : aw_A := ms_o [(0, 8)] [(0, 4)] ar_t32 ar_t32 [(0, 180)] [(53, 53)] [(39, 60)] [(1, 7)] [(3, 3)]
def mgh15668 : aw_H := [(81, mgx15667)]
def mgx15669 : aw_A := ms_o [(0, 8)] [(0, 4)] ar_t32 ar_t32 [(0, 180)] [(54, 54)] [(39, 60)] [(1, 7)] [(3, 3)]
def mgh15670 : aw_H := [(81, mgx15669)]
def mgx15671 : aw_A := ms_o [(0, 8)] [(0, 4)] ar_t32 ar_t32 [(0, 180)] [(55, 55)] [(39, 60)] [(1, 7)] [(3, 3)]
def mgh15672 : aw_H := [(81, mgx15671)]
def mgx15673 : aw_A := ms_o [(0, 8)] [(0, 4)] ar_t32 ar_t32 [(0, 180)] [(56, 56)] [(39, 60)] [(1, 7)] [(3, 3)]
def mgh15674 : aw_H := [(81, mgx15673)]
def mgx15675 : aw_A := ms_o [(0, 8)] [(0, 4)] ar_t32 ar_t32 [(0, 180)] [(57, 57)] [(39, 60)] [(1, 7)] [(3, 3)]
def mgh15676 : aw_H := [(81, mgx15675)]
def mgx15677 : aw_A := ms_o [(0, 8)] [(0, 4)] ar_t32 ar_t32 [(0, 180)] [(58, 58)] [(39, 60)] [(1, 7)] [(3, 3)]
def mgh15678 : aw_H := [(81, mgx15677)]
def mgx15679 : aw_A := ms_o [(0, 8)] [(0, 4)] ar_t32 ar_t32 [(0, 180)] [(59, 59)] [(39, 60)] [(1, 7)] [(3, 3)]
def mgh15680 : aw_H := [(81, mgx15679)]
def mgx15681 : aw_A := ms_o [(0, 8)] [(0, 4)] ar_t32 ar_t32 [(0, 180)] [(60, 60)] [(39, 60)] [(1, 7)] [(3, 3)]
def mgh15682 : aw_H := [(81, mgx15681)]
/-- MiceRegistersModel.skip -/
def mgh15683 : aw_H := [(81, mgx15637), (90, .inr (.inl (0, 240, [], [])))]
def mgc6081 : ak_C := (122, [.inl 81], mgh15683, [81], [([], none, mgh15640), ([], none, mgh15642), ([], none, mgh15644), ([], none, mgh15646), ([], none, mgh15648), ([], none, mgh15650), ([], none, mgh15652), ([], none, mgh15654), ([], none, mgh15656), ([], none, mgh15658), ([], none, mgh15660), ([], none, mgh15662), ([], none, mgh15664), ([], none, mgh15666), ([], none, mgh15668), ([], none, mgh15670), ([], none, mgh15672), ([], none, mgh15674), ([], none, mgh15676), ([], none, mgh15678), ([], none, mgh15680), ([], none, mgh15682)])
/-- MiceRegistersModel.readsLine -/
def mgx15684 : aw_A := ms_o [(0, 8)] [(0, 4)] ar_t32 ar_t32 [(0, 180)] [(28, 28)] [(29, 60)] [(1, 5)] [(2, 2)]
def mgh15685 : aw_H := [(81, mgx15684)]
def mgc4502 : ak_C := (124, [.inl 81], mgh15685, [], [([], some (.inr (false, [(0, 0)])), [])])
theorem mgk4502 : ai_chk [] mgc4502 (fun pc => sm_ch sm_t124 pc, sm_Kn 3 3 none, fun x => sm_lk sm_ca3 x, some .boolean) [] 3 0 [] [] 2000 [] = true := by decide +kernel
/-- MiceRegistersModel.figure -/
def mgc4503 : ak_C := (125, [.inl 81, .inr (false, [(0, 0)]), .inr (false, [(0, 4)])], mgh14204, [81], [([], some (.inr (false, [(-9, -9)])), mgh14141), ([], some (.inr (false, [(0, 4)])), mgh14607)])
def mgx15686 : aw_A := ms_o [(0, 8)] [(0, 4)] ar_t32 ar_t32 [(0, 180)] [(31, 31)] [(31, 60)] [(1, 5)] [(2, 2)]
def mgh15687 : aw_H := [(81, mgx15686)]
/-- MiceRegistersModel.figure -/
def mgc4504 : ak_C := (125, [.inl 81, .inr (false, [(1, 1)]), .inr (false, [(9, 9)])], mgh14668, [81], [([], some (.inr (false, [(-9, -9)])), mgh14607), ([], some (.inr (false, [(1, 9)])), mgh15687)])
def mgh15688 : aw_H := [(81, mgx15684), (94, mgx6150)]
/-- MiceRegistersModel.readsMouse -/
def mgh15689 : aw_H := [(81, mgx15684), (90, .inr (.inl (0, 240, [], []))), (94, mgx6150)]
def mgc4505 : ak_C := (127, [.inl 81], mgh15689, [81, 94], [([], some (.inr (false, [(0, 0)])), mgh15688), ([], some (.inr (false, [(1, 1)])), mgh14971), ([], some (.inr (false, [(0, 0)])), mgh14604), ([], some (.inr (false, [(0, 0)])), mgh14138)])
theorem mgk4505 : ai_chk [mgc51, mgc147, mgc4503, mgc4504] mgc4505 (fun pc => sm_ch sm_t127 pc, sm_Kn 3 5 none, fun x => sm_lk sm_ca3 x, some .boolean) [81, 94] 5 0 [] [] 2000 [] = true := by decide +kernel
def mgx15690 : aw_A := ms_o [(0, 8)] [(0, 4)] ar_t32 ar_t32 [(0, 180)] [(32, 32)] [(31, 60)] [(1, 5)] [(3, 3)]
def mgh15691 : aw_H := [(81, mgx15690)]
def mgx15692 : aw_A := ms_o [(0, 8)] [(0, 4)] ar_t32 ar_t32 [(0, 180)] [(33, 33)] [(31, 60)] [(1, 5)] [(3, 3)]
def mgh15693 : aw_H := [(81, mgx15692)]
def mgx15694 : aw_A := ms_o [(0, 8)] [(0, 4)] ar_t32 ar_t32 [(0, 180)] [(34, 34)] [(31, 60)] [(1, 5)] [(3, 3)]
def mgh15695 : aw_H := [(81, mgx15694)]
def mgx15696 : aw_A := ms_o [(0, 8)] [(0, 4)] ar_t32 ar_t32 [(0, 180)] [(35, 35)] [(31, 60)] [(1, 5)] [(3, 3)]
def mgh15697 : aw_H := [(81, mgx15696)]
def mgx15698 : aw_A := ms_o [(0, 8)] [(0, 4)] ar_t32 ar_t32 [(0, 180)] [(36, 36)] [(31, 60)] [(1, 5)] [(3, 3)]
def mgh15699 : aw_H := [(81, mgx15698)]
def mgx15700 : aw_A := ms_o [(0, 8)] [(0, 4)] ar_t32 ar_t32 [(0, 180)] [(37, 37)] [(31, 60)] [(1, 5)] [(3, 3)]
def mgh15701 : aw_H := [(81, mgx15700)]
def mgx15702 : aw_A := ms_o [(0, 8)] [(0, 4)] ar_t32 ar_t32 [(0, 180)] [(38, 38)] [(31, 60)] [(1, 5)] [(3, 3)]
def mgh15703 : aw_H := [(81, mgx15702)]
def mgx15704 : aw_A := ms_o [(0, 8)] [(0, 4)] ar_t32 ar_t32 [(0, 180)] [(39, 39)] [(31, 60)] [(1, 5)] [(3, 3)]
def mgh15705 : aw_H := [(81, mgx15704)]
def mgx15706 : aw_A := ms_o [(0, 8)] [(0, 4)] ar_t32 ar_t32 [(0, 180)] [(40, 40)] [(31, 60)] [(1, 5)] [(3, 3)]
def mgh15707 : aw_H := [(81, mgx15706)]
def mgx15708 : aw_A := ms_o [(0, 8)] [(0, 4)] ar_t32 ar_t32 [(0, 180)] [(41, 41)] [(31, 60)] [(1, 5)] [(3, 3)]
def mgh15709 : aw_H := [(81, mgx15708)]
def mgx15710 : aw_A := ms_o [(0, 8)] [(0, 4)] ar_t32 ar_t32 [(0, 180)] [(42, 42)] [(31, 60)] [(1, 5)] [(3, 3)]
def mgh15711 : aw_H := [(81, mgx15710)]
def mgx15712 : aw_A := ms_o [(0, 8)] [(0, 4)] ar_t32 ar_t32 [(0, 180)] [(43, 43)] [(31, 60)] [(1, 5)] [(3, 3)]
def mgh15713 : aw_H := [(81, mgx15712)]
def mgx15714 : aw_A := ms_o [(0, 8)] [(0, 4)] ar_t32 ar_t32 [(0, 180)] [(44, 44)] [(31, 60)] [(1, 5)] [(3, 3)]
def mgh15715 : aw_H := [(81, mgx15714)]
def mgx15716 : aw_A := ms_o [(0, 8)] [(0, 4)] ar_t32 ar_t32 [(0, 180)] [(45, 45)] [(31, 60)] [(1, 5)] [(3, 3)]
def mgh15717 : aw_H := [(81, mgx15716)]
def mgx15718 : aw_A := ms_o [(0, 8)] [(0, 4)] ar_t32 ar_t32 [(0, 180)] [(46, 46)] [(31, 60)] [(1, 5)] [(3, 3)]
def mgh15719 : aw_H := [(81, mgx15718)]
def mgx15720 : aw_A := ms_o [(0, 8)] [(0, 4)] ar_t32 ar_t32 [(0, 180)] [(47, 47)] [(31, 60)] [(1, 5)] [(3, 3)]
def mgh15721 : aw_H := [(81, mgx15720)]
def mgx15722 : aw_A := ms_o [(0, 8)] [(0, 4)] ar_t32 ar_t32 [(0, 180)] [(48, 48)] [(31, 60)] [(1, 5)] [(3, 3)]
def mgh15723 : aw_H := [(81, mgx15722)]
def mgx15724 : aw_A := ms_o [(0, 8)] [(0, 4)] ar_t32 ar_t32 [(0, 180)] [(49, 49)] [(31, 60)] [(1, 5)] [(3, 3)]
def mgh15725 : aw_H := [(81, mgx15724)]
def mgx15726 : aw_A := ms_o [(0, 8)] [(0, 4)] ar_t32 ar_t32 [(0, 180)] [(50, 50)] [(31, 60)] [(1, 5)] [(3, 3)]
def mgh15727 : aw_H := [(81, mgx15726)]
def mgx15728 : aw_A := ms_o [(0, 8)] [(0, 4)] ar_t32 ar_t32 [(0, 180)] [(51, 51)] [(31, 60)] [(1, 5)] [(3, 3)]
def mgh15729 : aw_H := [(81, mgx15728)]
def mgx15730 : aw_A := ms_o [(0, 8)] [(0, 4)] ar_t32 ar_t32 [(0, 180)] [(52, 52)] [(31, 60)] [(1, 5)] [(3, 3)]
def mgh15731 : aw_H := [(81, mgx15730)]
def mgx15732 : aw_A := ms_o [(0, 8)] [(0, 4)] ar_t32 ar_t32 [(0, 180)] [(53, 53)] [(31, 60)] [(1, 5)] [(3, 3)]
def mgh15733 : aw_H := [(81, mgx15732)]
def mgx15734 : aw_A := ms_o [(0, 8)] [(0, 4)] ar_t32 ar_t32 [(0, 180)] [(54, 54)] [(31, 60)] [(1, 5)] [(3, 3)]
def mgh15735 : aw_H := [(81, mgx15734)]
def mgx15736 : aw_A := ms_o [(0, 8)] [(0, 4)] ar_t32 ar_t32 [(0, 180)] [(55, 55)] [(31, 60)] [(1, 5)] [(3, 3)]
def mgh15737 : aw_H := [(81, mgx15736)]
def mgx15738 : aw_A := ms_o [(0, 8)] [(0, 4)] ar_t32 ar_t32 [(0, 180)] [(56, 56)] [(31, 60)] [(1, 5)] [(3, 3)]
def mgh15739 : aw_H := [(81, mgx15738)]
def mgx15740 : aw_A := ms_o [(0, 8)] [(0, 4)] ar_t32 ar_t32 [(0, 180)] [(57, 57)] [(31, 60)] [(1, 5)] [(3, 3)]
def mgh15741 : aw_H := [(81, mgx15740)]
def mgx15742 : aw_A := ms_o [(0, 8)] [(0, 4)] ar_t32 ar_t32 [(0, 180)] [(58, 58)] [(31, 60)] [(1, 5)] [(3, 3)]
def mgh15743 : aw_H := [(81, mgx15742)]
def mgx15744 : aw_A := ms_o [(0, 8)] [(0, 4)] ar_t32 ar_t32 [(0, 180)] [(59, 59)] [(31, 60)] [(1, 5)] [(3, 3)]
def mgh15745 : aw_H := [(81, mgx15744)]
def mgx15746 : aw_A := ms_o [(0, 8)] [(0, 4)] ar_t32 ar_t32 [(0, 180)] [(60, 60)] [(31, 60)] [(1, 5)] [(3, 3)]
def mgh15747 : aw_H := [(81, mgx15746)]
/-- MiceRegistersModel.skip -/
def mgc5256 : ak_C := (122, [.inl 81], mgh14963, [81], [([], none, mgh14960), ([], none, mgh15691), ([], none, mgh15693), ([], none, mgh15695), ([], none, mgh15697), ([], none, mgh15699), ([], none, mgh15701), ([], none, mgh15703), ([], none, mgh15705), ([], none, mgh15707), ([], none, mgh15709), ([], none, mgh15711), ([], none, mgh15713), ([], none, mgh15715), ([], none, mgh15717), ([], none, mgh15719), ([], none, mgh15721), ([], none, mgh15723), ([], none, mgh15725), ([], none, mgh15727), ([], none, mgh15729), ([], none, mgh15731), ([], none, mgh15733), ([], none, mgh15735), ([], none, mgh15737), ([], none, mgh15739), ([], none, mgh15741), ([], none, mgh15743), ([], none, mgh15745), ([], none, mgh15747)])
/-- MiceRegistersModel.readsLine -/
def mgx15748 : aw_A := ms_o [(0, 8)] [(0, 4)] ar_t32 ar_t32 [(0, 180)] [(31, 31)] [(32, 60)] [(1, 5)] [(3, 3)]
def mgh15749 : aw_H := [(81, mgx15748)]
def mgc5022 : ak_C := (124, [.inl 81], mgh15749, [], [([], some (.inr (false, [(0, 0)])), [])])
theorem mgk5022 : ai_chk [] mgc5022 (fun pc => sm_ch sm_t124 pc, sm_Kn 3 3 none, fun x => sm_lk sm_ca3 x, some .boolean) [] 3 0 [] [] 2000 [] = true := by decide +kernel
/-- MiceRegistersModel.figure -/
def mgc5023 : ak_C := (125, [.inl 81, .inr (false, [(0, 0)]), .inr (false, [(0, 4)])], mgh14966, [81], [([], some (.inr (false, [(-9, -9)])), mgh14962), ([], some (.inr (false, [(0, 4)])), mgh14965)])
def mgx15750 : aw_A := ms_o [(0, 8)] [(0, 4)] ar_t32 ar_t32 [(0, 180)] [(34, 34)] [(34, 60)] [(1, 5)] [(3, 3)]
def mgh15751 : aw_H := [(81, mgx15750)]
/-- MiceRegistersModel.figure -/
def mgh15752 : aw_H := [(81, mgx14964), (90, .inr (.inl (0, 240, [], [])))]
def mgc5024 : ak_C := (125, [.inl 81, .inr (false, [(1, 1)]), .inr (false, [(9, 9)])], mgh15752, [81], [([], some (.inr (false, [(-9, -9)])), mgh14965), ([], some (.inr (false, [(1, 9)])), mgh15751)])
def mgh15753 : aw_H := [(81, mgx15748), (94, mgx6362)]
def mgx15754 : aw_A := ms_o [(0, 8)] [(0, 4)] ar_t32 ar_t32 [(0, 180)] [(34, 34)] [(34, 60)] [(1, 5)] [(4, 4)]
def mgh15755 : aw_H := [(81, mgx15754), (94, mgx6473)]
def mgh15756 : aw_H := [(81, mgx14964), (94, mgx6362)]
/-- MiceRegistersModel.readsMouse -/
def mgh15757 : aw_H := [(81, mgx15748), (90, .inr (.inl (0, 240, [], []))), (94, mgx6362)]
def mgc5025 : ak_C := (127, [.inl 81], mgh15757, [81, 94], [([], some (.inr (false, [(0, 0)])), mgh15753), ([], some (.inr (false, [(1, 1)])), mgh15755), ([], some (.inr (false, [(0, 0)])), mgh15756), ([], some (.inr (false, [(0, 0)])), mgh14970)])
theorem mgk5025 : ai_chk [mgc48, mgc147, mgc5023, mgc5024] mgc5025 (fun pc => sm_ch sm_t127 pc, sm_Kn 3 5 none, fun x => sm_lk sm_ca3 x, some .boolean) [81, 94] 5 0 [] [] 2000 [] = true := by decide +kernel
def mgh15758 : aw_H := [(81, mgx15754)]
def mgx15759 : aw_A := ms_o [(0, 8)] [(0, 4)] ar_t32 ar_t32 [(0, 180)] [(35, 35)] [(34, 60)] [(1, 5)] [(4, 4)]
def mgh15760 : aw_H := [(81, mgx15759)]
def mgx15761 : aw_A := ms_o [(0, 8)] [(0, 4)] ar_t32 ar_t32 [(0, 180)] [(36, 36)] [(34, 60)] [(1, 5)] [(4, 4)]
def mgh15762 : aw_H := [(81, mgx15761)]
def mgx15763 : aw_A := ms_o [(0, 8)] [(0, 4)] ar_t32 ar_t32 [(0, 180)] [(37, 37)] [(34, 60)] [(1, 5)] [(4, 4)]
def mgh15764 : aw_H := [(81, mgx15763)]
def mgx15765 : aw_A := ms_o [(0, 8)] [(0, 4)] ar_t32 ar_t32 [(0, 180)] [(38, 38)] [(34, 60)] [(1, 5)] [(4, 4)]
def mgh15766 : aw_H := [(81, mgx15765)]
def mgx15767 : aw_A := ms_o [(0, 8)] [(0, 4)] ar_t32 ar_t32 [(0, 180)] [(39, 39)] [(34, 60)] [(1, 5)] [(4, 4)]
def mgh15768 : aw_H := [(81, mgx15767)]
def mgx15769 : aw_A := ms_o [(0, 8)] [(0, 4)] ar_t32 ar_t32 [(0, 180)] [(40, 40)] [(34, 60)] [(1, 5)] [(4, 4)]
def mgh15770 : aw_H := [(81, mgx15769)]
def mgx15771 : aw_A := ms_o [(0, 8)] [(0, 4)] ar_t32 ar_t32 [(0, 180)] [(41, 41)] [(34, 60)] [(1, 5)] [(4, 4)]
def mgh15772 : aw_H := [(81, mgx15771)]
def mgx15773 : aw_A := ms_o [(0, 8)] [(0, 4)] ar_t32 ar_t32 [(0, 180)] [(42, 42)] [(34, 60)] [(1, 5)] [(4, 4)]
def mgh15774 : aw_H := [(81, mgx15773)]
def mgx15775 : aw_A := ms_o [(0, 8)] [(0, 4)] ar_t32 ar_t32 [(0, 180)] [(43, 43)] [(34, 60)] [(1, 5)] [(4, 4)]
def mgh15776 : aw_H := [(81, mgx15775)]
def mgx15777 : aw_A := ms_o [(0, 8)] [(0, 4)] ar_t32 ar_t32 [(0, 180)] [(44, 44)] [(34, 60)] [(1, 5)] [(4, 4)]
def mgh15778 : aw_H := [(81, mgx15777)]
def mgx15779 : aw_A := ms_o [(0, 8)] [(0, 4)] ar_t32 ar_t32 [(0, 180)] [(45, 45)] [(34, 60)] [(1, 5)] [(4, 4)]
def mgh15780 : aw_H := [(81, mgx15779)]
def mgx15781 : aw_A := ms_o [(0, 8)] [(0, 4)] ar_t32 ar_t32 [(0, 180)] [(46, 46)] [(34, 60)] [(1, 5)] [(4, 4)]
def mgh15782 : aw_H := [(81, mgx15781)]
def mgx15783 : aw_A := ms_o [(0, 8)] [(0, 4)] ar_t32 ar_t32 [(0, 180)] [(47, 47)] [(34, 60)] [(1, 5)] [(4, 4)]
def mgh15784 : aw_H := [(81, mgx15783)]
def mgx15785 : aw_A := ms_o [(0, 8)] [(0, 4)] ar_t32 ar_t32 [(0, 180)] [(48, 48)] [(34, 60)] [(1, 5)] [(4, 4)]
def mgh15786 : aw_H := [(81, mgx15785)]
def mgx15787 : aw_A := ms_o [(0, 8)] [(0, 4)] ar_t32 ar_t32 [(0, 180)] [(49, 49)] [(34, 60)] [(1, 5)] [(4, 4)]
def mgh15788 : aw_H := [(81, mgx15787)]
def mgx15789 : aw_A := ms_o [(0, 8)] [(0, 4)] ar_t32 ar_t32 [(0, 180)] [(50, 50)] [(34, 60)] [(1, 5)] [(4, 4)]
def mgh15790 : aw_H := [(81, mgx15789)]
def mgx15791 : aw_A := ms_o [(0, 8)] [(0, 4)] ar_t32 ar_t32 [(0, 180)] [(51, 51)] [(34, 60)] [(1, 5)] [(4, 4)]
def mgh15792 : aw_H := [(81, mgx15791)]
def mgx15793 : aw_A := ms_o [(0, 8)] [(0, 4)] ar_t32 ar_t32 [(0, 180)] [(52, 52)] [(34, 60)] [(1, 5)] [(4, 4)]
def mgh15794 : aw_H := [(81, mgx15793)]
def mgx15795 : aw_A := ms_o [(0, 8)] [(0, 4)] ar_t32 ar_t32 [(0, 180)] [(53, 53)] [(34, 60)] [(1, 5)] [(4, 4)]
def mgh15796 : aw_H := [(81, mgx15795)]
def mgx15797 : aw_A := ms_o [(0, 8)] [(0, 4)] ar_t32 ar_t32 [(0, 180)] [(54, 54)] [(34, 60)] [(1, 5)] [(4, 4)]
def mgh15798 : aw_H := [(81, mgx15797)]
def mgx15799 : aw_A := ms_o [(0, 8)] [(0, 4)] ar_t32 ar_t32 [(0, 180)] [(55, 55)] [(34, 60)] [(1, 5)] [(4, 4)]
def mgh15800 : aw_H := [(81, mgx15799)]
def mgx15801 : aw_A := ms_o [(0, 8)] [(0, 4)] ar_t32 ar_t32 [(0, 180)] [(56, 56)] [(34, 60)] [(1, 5)] [(4, 4)]
def mgh15802 : aw_H := [(81, mgx15801)]
def mgx15803 : aw_A := ms_o [(0, 8)] [(0, 4)] ar_t32 ar_t32 [(0, 180)] [(57, 57)] [(34, 60)] [(1, 5)] [(4, 4)]
def mgh15804 : aw_H := [(81, mgx15803)]
def mgx15805 : aw_A := ms_o [(0, 8)] [(0, 4)] ar_t32 ar_t32 [(0, 180)] [(58, 58)] [(34, 60)] [(1, 5)] [(4, 4)]
def mgh15806 : aw_H := [(81, mgx15805)]
def mgx15807 : aw_A := ms_o [(0, 8)] [(0, 4)] ar_t32 ar_t32 [(0, 180)] [(59, 59)] [(34, 60)] [(1, 5)] [(4, 4)]
def mgh15808 : aw_H := [(81, mgx15807)]
def mgx15809 : aw_A := ms_o [(0, 8)] [(0, 4)] ar_t32 ar_t32 [(0, 180)] [(60, 60)] [(34, 60)] [(1, 5)] [(4, 4)]
def mgh15810 : aw_H := [(81, mgx15809)]
/-- MiceRegistersModel.skip -/
def mgh15811 : aw_H := [(81, mgx15754), (90, .inr (.inl (0, 240, [], [])))]
def mgc5647 : ak_C := (122, [.inl 81], mgh15811, [81], [([], none, mgh15758), ([], none, mgh15760), ([], none, mgh15762), ([], none, mgh15764), ([], none, mgh15766), ([], none, mgh15768), ([], none, mgh15770), ([], none, mgh15772), ([], none, mgh15774), ([], none, mgh15776), ([], none, mgh15778), ([], none, mgh15780), ([], none, mgh15782), ([], none, mgh15784), ([], none, mgh15786), ([], none, mgh15788), ([], none, mgh15790), ([], none, mgh15792), ([], none, mgh15794), ([], none, mgh15796), ([], none, mgh15798), ([], none, mgh15800), ([], none, mgh15802), ([], none, mgh15804), ([], none, mgh15806), ([], none, mgh15808), ([], none, mgh15810)])
/-- MiceRegistersModel.readsLine -/
def mgx15812 : aw_A := ms_o [(0, 8)] [(0, 4)] ar_t32 ar_t32 [(0, 180)] [(34, 34)] [(35, 60)] [(1, 5)] [(4, 4)]
def mgh15813 : aw_H := [(81, mgx15812)]
def mgc5488 : ak_C := (124, [.inl 81], mgh15813, [], [([], some (.inr (false, [(0, 0)])), [])])
theorem mgk5488 : ai_chk [] mgc5488 (fun pc => sm_ch sm_t124 pc, sm_Kn 3 3 none, fun x => sm_lk sm_ca3 x, some .boolean) [] 3 0 [] [] 2000 [] = true := by decide +kernel
/-- MiceRegistersModel.readsMouse -/
def mgh15814 : aw_H := [(81, mgx15812), (90, .inr (.inl (0, 240, [], [])))]
def mgc5489 : ak_C := (127, [.inl 81], mgh15814, [], [([], some (.inr (false, [(0, 0)])), [])])
theorem mgk5489 : ai_chk [mgc45, mgc147] mgc5489 (fun pc => sm_ch sm_t127 pc, sm_Kn 3 5 none, fun x => sm_lk sm_ca3 x, some .boolean) [] 5 0 [] [] 2000 [] = true := by decide +kernel
/-- MiceRegistersModel.readsLine -/
def mgx15815 : aw_A := ms_o [(0, 8)] [(0, 4)] ar_t32 ar_t32 [(0, 180)] [(30, 30)] [(31, 60)] [(1, 5)] [(2, 2)]
def mgh15816 : aw_H := [(81, mgx15815)]
def mgc4510 : ak_C := (124, [.inl 81], mgh15816, [], [([], some (.inr (false, [(0, 0)])), [])])
theorem mgk4510 : ai_chk [] mgc4510 (fun pc => sm_ch sm_t124 pc, sm_Kn 3 3 none, fun x => sm_lk sm_ca3 x, some .boolean) [] 3 0 [] [] 2000 [] = true := by decide +kernel
def mgx15817 : aw_A := ms_o [(0, 8)] [(0, 4)] ar_t32 ar_t32 [(0, 180)] [(32, 32)] [(32, 60)] [(1, 5)] [(2, 2)]
def mgh15818 : aw_H := [(81, mgx15817)]
/-- MiceRegistersModel.figure -/
def mgh15819 : aw_H := [(81, mgx15686), (90, .inr (.inl (0, 240, [], [])))]
def mgc4511 : ak_C := (125, [.inl 81, .inr (false, [(0, 0)]), .inr (false, [(0, 4)])], mgh15819, [81], [([], some (.inr (false, [(-9, -9)])), mgh15687), ([], some (.inr (false, [(0, 4)])), mgh15818)])
def mgx15820 : aw_A := ms_o [(0, 8)] [(0, 4)] ar_t32 ar_t32 [(0, 180)] [(33, 33)] [(33, 60)] [(1, 5)] [(2, 2)]
def mgh15821 : aw_H := [(81, mgx15820)]
/-- MiceRegistersModel.figure -/
def mgh15822 : aw_H := [(81, mgx15817), (90, .inr (.inl (0, 240, [], [])))]
def mgc4512 : ak_C := (125, [.inl 81, .inr (false, [(1, 1)]), .inr (false, [(9, 9)])], mgh15822, [81], [([], some (.inr (false, [(-9, -9)])), mgh15818), ([], some (.inr (false, [(1, 9)])), mgh15821)])
def mgh15823 : aw_H := [(81, mgx15815), (94, mgx6150)]
def mgh15824 : aw_H := [(81, mgx15817), (94, mgx6150)]
def mgh15825 : aw_H := [(81, mgx15686), (94, mgx6150)]
/-- MiceRegistersModel.readsMouse -/
def mgh15826 : aw_H := [(81, mgx15815), (90, .inr (.inl (0, 240, [], []))), (94, mgx6150)]
def mgc4513 : ak_C := (127, [.inl 81], mgh15826, [81, 94], [([], some (.inr (false, [(0, 0)])), mgh15823), ([], some (.inr (false, [(1, 1)])), mgh15756), ([], some (.inr (false, [(0, 0)])), mgh15824), ([], some (.inr (false, [(0, 0)])), mgh15825)])
theorem mgk4513 : ai_chk [mgc49, mgc147, mgc4511, mgc4512] mgc4513 (fun pc => sm_ch sm_t127 pc, sm_Kn 3 5 none, fun x => sm_lk sm_ca3 x, some .boolean) [81, 94] 5 0 [] [] 2000 [] = true := by decide +kernel
def mgx15827 : aw_A := ms_o [(0, 8)] [(0, 4)] ar_t32 ar_t32 [(0, 180)] [(34, 34)] [(33, 60)] [(1, 5)] [(3, 3)]
def mgh15828 : aw_H := [(81, mgx15827)]
def mgx15829 : aw_A := ms_o [(0, 8)] [(0, 4)] ar_t32 ar_t32 [(0, 180)] [(35, 35)] [(33, 60)] [(1, 5)] [(3, 3)]
def mgh15830 : aw_H := [(81, mgx15829)]
def mgx15831 : aw_A := ms_o [(0, 8)] [(0, 4)] ar_t32 ar_t32 [(0, 180)] [(36, 36)] [(33, 60)] [(1, 5)] [(3, 3)]
def mgh15832 : aw_H := [(81, mgx15831)]
def mgx15833 : aw_A := ms_o [(0, 8)] [(0, 4)] ar_t32 ar_t32 [(0, 180)] [(37, 37)] [(33, 60)] [(1, 5)] [(3, 3)]
def mgh15834 : aw_H := [(81, mgx15833)]
def mgx15835 : aw_A := ms_o [(0, 8)] [(0, 4)] ar_t32 ar_t32 [(0, 180)] [(38, 38)] [(33, 60)] [(1, 5)] [(3, 3)]
def mgh15836 : aw_H := [(81, mgx15835)]
def mgx15837 : aw_A := ms_o [(0, 8)] [(0, 4)] ar_t32 ar_t32 [(0, 180)] [(39, 39)] [(33, 60)] [(1, 5)] [(3, 3)]
def mgh15838 : aw_H := [(81, mgx15837)]
def mgx15839 : aw_A := ms_o [(0, 8)] [(0, 4)] ar_t32 ar_t32 [(0, 180)] [(40, 40)] [(33, 60)] [(1, 5)] [(3, 3)]
def mgh15840 : aw_H := [(81, mgx15839)]
def mgx15841 : aw_A := ms_o [(0, 8)] [(0, 4)] ar_t32 ar_t32 [(0, 180)] [(41, 41)] [(33, 60)] [(1, 5)] [(3, 3)]
def mgh15842 : aw_H := [(81, mgx15841)]
def mgx15843 : aw_A := ms_o [(0, 8)] [(0, 4)] ar_t32 ar_t32 [(0, 180)] [(42, 42)] [(33, 60)] [(1, 5)] [(3, 3)]
def mgh15844 : aw_H := [(81, mgx15843)]
def mgx15845 : aw_A := ms_o [(0, 8)] [(0, 4)] ar_t32 ar_t32 [(0, 180)] [(43, 43)] [(33, 60)] [(1, 5)] [(3, 3)]
def mgh15846 : aw_H := [(81, mgx15845)]
def mgx15847 : aw_A := ms_o [(0, 8)] [(0, 4)] ar_t32 ar_t32 [(0, 180)] [(44, 44)] [(33, 60)] [(1, 5)] [(3, 3)]
def mgh15848 : aw_H := [(81, mgx15847)]
def mgx15849 : aw_A := ms_o [(0, 8)] [(0, 4)] ar_t32 ar_t32 [(0, 180)] [(45, 45)] [(33, 60)] [(1, 5)] [(3, 3)]
def mgh15850 : aw_H := [(81, mgx15849)]
def mgx15851 : aw_A := ms_o [(0, 8)] [(0, 4)] ar_t32 ar_t32 [(0, 180)] [(46, 46)] [(33, 60)] [(1, 5)] [(3, 3)]
def mgh15852 : aw_H := [(81, mgx15851)]
def mgx15853 : aw_A := ms_o [(0, 8)] [(0, 4)] ar_t32 ar_t32 [(0, 180)] [(47, 47)] [(33, 60)] [(1, 5)] [(3, 3)]
def mgh15854 : aw_H := [(81, mgx15853)]
def mgx15855 : aw_A := ms_o [(0, 8)] [(0, 4)] ar_t32 ar_t32 [(0, 180)] [(48, 48)] [(33, 60)] [(1, 5)] [(3, 3)]
def mgh15856 : aw_H := [(81, mgx15855)]
def mgx15857 : aw_A := ms_o [(0, 8)] [(0, 4)] ar_t32 ar_t32 [(0, 180)] [(49, 49)] [(33, 60)] [(1, 5)] [(3, 3)]
def mgh15858 : aw_H := [(81, mgx15857)]
def mgx15859 : aw_A := ms_o [(0, 8)] [(0, 4)] ar_t32 ar_t32 [(0, 180)] [(50, 50)] [(33, 60)] [(1, 5)] [(3, 3)]
def mgh15860 : aw_H := [(81, mgx15859)]
def mgx15861 : aw_A := ms_o [(0, 8)] [(0, 4)] ar_t32 ar_t32 [(0, 180)] [(51, 51)] [(33, 60)] [(1, 5)] [(3, 3)]
def mgh15862 : aw_H := [(81, mgx15861)]
def mgx15863 : aw_A := ms_o [(0, 8)] [(0, 4)] ar_t32 ar_t32 [(0, 180)] [(52, 52)] [(33, 60)] [(1, 5)] [(3, 3)]
def mgh15864 : aw_H := [(81, mgx15863)]
def mgx15865 : aw_A := ms_o [(0, 8)] [(0, 4)] ar_t32 ar_t32 [(0, 180)] [(53, 53)] [(33, 60)] [(1, 5)] [(3, 3)]
def mgh15866 : aw_H := [(81, mgx15865)]
def mgx15867 : aw_A := ms_o [(0, 8)] [(0, 4)] ar_t32 ar_t32 [(0, 180)] [(54, 54)] [(33, 60)] [(1, 5)] [(3, 3)]
def mgh15868 : aw_H := [(81, mgx15867)]
def mgx15869 : aw_A := ms_o [(0, 8)] [(0, 4)] ar_t32 ar_t32 [(0, 180)] [(55, 55)] [(33, 60)] [(1, 5)] [(3, 3)]
def mgh15870 : aw_H := [(81, mgx15869)]
def mgx15871 : aw_A := ms_o [(0, 8)] [(0, 4)] ar_t32 ar_t32 [(0, 180)] [(56, 56)] [(33, 60)] [(1, 5)] [(3, 3)]
def mgh15872 : aw_H := [(81, mgx15871)]
def mgx15873 : aw_A := ms_o [(0, 8)] [(0, 4)] ar_t32 ar_t32 [(0, 180)] [(57, 57)] [(33, 60)] [(1, 5)] [(3, 3)]
def mgh15874 : aw_H := [(81, mgx15873)]
def mgx15875 : aw_A := ms_o [(0, 8)] [(0, 4)] ar_t32 ar_t32 [(0, 180)] [(58, 58)] [(33, 60)] [(1, 5)] [(3, 3)]
def mgh15876 : aw_H := [(81, mgx15875)]
def mgx15877 : aw_A := ms_o [(0, 8)] [(0, 4)] ar_t32 ar_t32 [(0, 180)] [(59, 59)] [(33, 60)] [(1, 5)] [(3, 3)]
def mgh15878 : aw_H := [(81, mgx15877)]
def mgx15879 : aw_A := ms_o [(0, 8)] [(0, 4)] ar_t32 ar_t32 [(0, 180)] [(60, 60)] [(33, 60)] [(1, 5)] [(3, 3)]
def mgh15880 : aw_H := [(81, mgx15879)]
/-- MiceRegistersModel.skip -/
def mgc5484 : ak_C := (122, [.inl 81], mgh15752, [81], [([], none, mgh14965), ([], none, mgh15828), ([], none, mgh15830), ([], none, mgh15832), ([], none, mgh15834), ([], none, mgh15836), ([], none, mgh15838), ([], none, mgh15840), ([], none, mgh15842), ([], none, mgh15844), ([], none, mgh15846), ([], none, mgh15848), ([], none, mgh15850), ([], none, mgh15852), ([], none, mgh15854), ([], none, mgh15856), ([], none, mgh15858), ([], none, mgh15860), ([], none, mgh15862), ([], none, mgh15864), ([], none, mgh15866), ([], none, mgh15868), ([], none, mgh15870), ([], none, mgh15872), ([], none, mgh15874), ([], none, mgh15876), ([], none, mgh15878), ([], none, mgh15880)])
/-- MiceRegistersModel.readsLine -/
def mgx15881 : aw_A := ms_o [(0, 8)] [(0, 4)] ar_t32 ar_t32 [(0, 180)] [(29, 29)] [(30, 60)] [(1, 5)] [(2, 2)]
def mgh15882 : aw_H := [(81, mgx15881)]
def mgc4506 : ak_C := (124, [.inl 81], mgh15882, [], [([], some (.inr (false, [(0, 0)])), [])])
theorem mgk4506 : ai_chk [] mgc4506 (fun pc => sm_ch sm_t124 pc, sm_Kn 3 3 none, fun x => sm_lk sm_ca3 x, some .boolean) [] 3 0 [] [] 2000 [] = true := by decide +kernel
/-- MiceRegistersModel.figure -/
def mgc4507 : ak_C := (125, [.inl 81, .inr (false, [(0, 0)]), .inr (false, [(0, 4)])], mgh14668, [81], [([], some (.inr (false, [(-9, -9)])), mgh14607), ([], some (.inr (false, [(0, 4)])), mgh15687)])
/-- MiceRegistersModel.figure -/
def mgc4508 : ak_C := (125, [.inl 81, .inr (false, [(1, 1)]), .inr (false, [(9, 9)])], mgh15819, [81], [([], some (.inr (false, [(-9, -9)])), mgh15687), ([], some (.inr (false, [(1, 9)])), mgh15818)])
def mgh15883 : aw_H := [(81, mgx15881), (94, mgx6150)]
/-- MiceRegistersModel.readsMouse -/
def mgh15884 : aw_H := [(81, mgx15881), (90, .inr (.inl (0, 240, [], []))), (94, mgx6150)]
def mgc4509 : ak_C := (127, [.inl 81], mgh15884, [81, 94], [([], some (.inr (false, [(0, 0)])), mgh15883), ([], some (.inr (false, [(1, 1)])), mgh14970), ([], some (.inr (false, [(0, 0)])), mgh15825), ([], some (.inr (false, [(0, 0)])), mgh14604)])
theorem mgk4509 : ai_chk [mgc50, mgc147, mgc4507, mgc4508] mgc4509 (fun pc => sm_ch sm_t127 pc, sm_Kn 3 5 none, fun x => sm_lk sm_ca3 x, some .boolean) [81, 94] 5 0 [] [] 2000 [] = true := by decide +kernel
def mgx15885 : aw_A := ms_o [(0, 8)] [(0, 4)] ar_t32 ar_t32 [(0, 180)] [(33, 33)] [(32, 60)] [(1, 5)] [(3, 3)]
def mgh15886 : aw_H := [(81, mgx15885)]
def mgx15887 : aw_A := ms_o [(0, 8)] [(0, 4)] ar_t32 ar_t32 [(0, 180)] [(34, 34)] [(32, 60)] [(1, 5)] [(3, 3)]
def mgh15888 : aw_H := [(81, mgx15887)]
def mgx15889 : aw_A := ms_o [(0, 8)] [(0, 4)] ar_t32 ar_t32 [(0, 180)] [(35, 35)] [(32, 60)] [(1, 5)] [(3, 3)]
def mgh15890 : aw_H := [(81, mgx15889)]
def mgx15891 : aw_A := ms_o [(0, 8)] [(0, 4)] ar_t32 ar_t32 [(0, 180)] [(36, 36)] [(32, 60)] [(1, 5)] [(3, 3)]
def mgh15892 : aw_H := [(81, mgx15891)]
def mgx15893 : aw_A := ms_o [(0, 8)] [(0, 4)] ar_t32 ar_t32 [(0, 180)] [(37, 37)] [(32, 60)] [(1, 5)] [(3, 3)]
def mgh15894 : aw_H := [(81, mgx15893)]
def mgx15895 : aw_A := ms_o [(0, 8)] [(0, 4)] ar_t32 ar_t32 [(0, 180)] [(38, 38)] [(32, 60)] [(1, 5)] [(3, 3)]
def mgh15896 : aw_H := [(81, mgx15895)]
def mgx15897 : aw_A := ms_o [(0, 8)] [(0, 4)] ar_t32 ar_t32 [(0, 180)] [(39, 39)] [(32, 60)] [(1, 5)] [(3, 3)]
def mgh15898 : aw_H := [(81, mgx15897)]
def mgx15899 : aw_A := ms_o [(0, 8)] [(0, 4)] ar_t32 ar_t32 [(0, 180)] [(40, 40)] [(32, 60)] [(1, 5)] [(3, 3)]
def mgh15900 : aw_H := [(81, mgx15899)]
def mgx15901 : aw_A := ms_o [(0, 8)] [(0, 4)] ar_t32 ar_t32 [(0, 180)] [(41, 41)] [(32, 60)] [(1, 5)] [(3, 3)]
def mgh15902 : aw_H := [(81, mgx15901)]
def mgx15903 : aw_A := ms_o [(0, 8)] [(0, 4)] ar_t32 ar_t32 [(0, 180)] [(42, 42)] [(32, 60)] [(1, 5)] [(3, 3)]
def mgh15904 : aw_H := [(81, mgx15903)]
def mgx15905 : aw_A := ms_o [(0, 8)] [(0, 4)] ar_t32 ar_t32 [(0, 180)] [(43, 43)] [(32, 60)] [(1, 5)] [(3, 3)]
def mgh15906 : aw_H := [(81, mgx15905)]
def mgx15907 : aw_A := ms_o [(0, 8)] [(0, 4)] ar_t32 ar_t32 [(0, 180)] [(44, 44)] [(32, 60)] [(1, 5)] [(3, 3)]
def mgh15908 : aw_H := [(81, mgx15907)]
def mgx15909 : aw_A := ms_o [(0, 8)] [(0, 4)] ar_t32 ar_t32 [(0, 180)] [(45, 45)] [(32, 60)] [(1, 5)] [(3, 3)]
def mgh15910 : aw_H := [(81, mgx15909)]
def mgx15911 : aw_A := ms_o [(0, 8)] [(0, 4)] ar_t32 ar_t32 [(0, 180)] [(46, 46)] [(32, 60)] [(1, 5)] [(3, 3)]
def mgh15912 : aw_H := [(81, mgx15911)]
def mgx15913 : aw_A := ms_o [(0, 8)] [(0, 4)] ar_t32 ar_t32 [(0, 180)] [(47, 47)] [(32, 60)] [(1, 5)] [(3, 3)]
def mgh15914 : aw_H := [(81, mgx15913)]
def mgx15915 : aw_A := ms_o [(0, 8)] [(0, 4)] ar_t32 ar_t32 [(0, 180)] [(48, 48)] [(32, 60)] [(1, 5)] [(3, 3)]
def mgh15916 : aw_H := [(81, mgx15915)]
def mgx15917 : aw_A := ms_o [(0, 8)] [(0, 4)] ar_t32 ar_t32 [(0, 180)] [(49, 49)] [(32, 60)] [(1, 5)] [(3, 3)]
def mgh15918 : aw_H := [(81, mgx15917)]
def mgx15919 : aw_A := ms_o [(0, 8)] [(0, 4)] ar_t32 ar_t32 [(0, 180)] [(50, 50)] [(32, 60)] [(1, 5)] [(3, 3)]
def mgh15920 : aw_H := [(81, mgx15919)]
def mgx15921 : aw_A := ms_o [(0, 8)] [(0, 4)] ar_t32 ar_t32 [(0, 180)] [(51, 51)] [(32, 60)] [(1, 5)] [(3, 3)]
def mgh15922 : aw_H := [(81, mgx15921)]
def mgx15923 : aw_A := ms_o [(0, 8)] [(0, 4)] ar_t32 ar_t32 [(0, 180)] [(52, 52)] [(32, 60)] [(1, 5)] [(3, 3)]
def mgh15924 : aw_H := [(81, mgx15923)]
def mgx15925 : aw_A := ms_o [(0, 8)] [(0, 4)] ar_t32 ar_t32 [(0, 180)] [(53, 53)] [(32, 60)] [(1, 5)] [(3, 3)]
def mgh15926 : aw_H := [(81, mgx15925)]
def mgx15927 : aw_A := ms_o [(0, 8)] [(0, 4)] ar_t32 ar_t32 [(0, 180)] [(54, 54)] [(32, 60)] [(1, 5)] [(3, 3)]
def mgh15928 : aw_H := [(81, mgx15927)]
def mgx15929 : aw_A := ms_o [(0, 8)] [(0, 4)] ar_t32 ar_t32 [(0, 180)] [(55, 55)] [(32, 60)] [(1, 5)] [(3, 3)]
def mgh15930 : aw_H := [(81, mgx15929)]
def mgx15931 : aw_A := ms_o [(0, 8)] [(0, 4)] ar_t32 ar_t32 [(0, 180)] [(56, 56)] [(32, 60)] [(1, 5)] [(3, 3)]
def mgh15932 : aw_H := [(81, mgx15931)]
def mgx15933 : aw_A := ms_o [(0, 8)] [(0, 4)] ar_t32 ar_t32 [(0, 180)] [(57, 57)] [(32, 60)] [(1, 5)] [(3, 3)]
def mgh15934 : aw_H := [(81, mgx15933)]
def mgx15935 : aw_A := ms_o [(0, 8)] [(0, 4)] ar_t32 ar_t32 [(0, 180)] [(58, 58)] [(32, 60)] [(1, 5)] [(3, 3)]
def mgh15936 : aw_H := [(81, mgx15935)]
def mgx15937 : aw_A := ms_o [(0, 8)] [(0, 4)] ar_t32 ar_t32 [(0, 180)] [(59, 59)] [(32, 60)] [(1, 5)] [(3, 3)]
def mgh15938 : aw_H := [(81, mgx15937)]
def mgx15939 : aw_A := ms_o [(0, 8)] [(0, 4)] ar_t32 ar_t32 [(0, 180)] [(60, 60)] [(32, 60)] [(1, 5)] [(3, 3)]
def mgh15940 : aw_H := [(81, mgx15939)]
/-- MiceRegistersModel.skip -/
def mgc5372 : ak_C := (122, [.inl 81], mgh14966, [81], [([], none, mgh14962), ([], none, mgh15886), ([], none, mgh15888), ([], none, mgh15890), ([], none, mgh15892), ([], none, mgh15894), ([], none, mgh15896), ([], none, mgh15898), ([], none, mgh15900), ([], none, mgh15902), ([], none, mgh15904), ([], none, mgh15906), ([], none, mgh15908), ([], none, mgh15910), ([], none, mgh15912), ([], none, mgh15914), ([], none, mgh15916), ([], none, mgh15918), ([], none, mgh15920), ([], none, mgh15922), ([], none, mgh15924), ([], none, mgh15926), ([], none, mgh15928), ([], none, mgh15930), ([], none, mgh15932), ([], none, mgh15934), ([], none, mgh15936), ([], none, mgh15938), ([], none, mgh15940)])
/-- MiceRegistersModel.readsLine -/
def mgx15941 : aw_A := ms_o [(0, 8)] [(0, 4)] ar_t32 ar_t32 [(0, 180)] [(33, 33)] [(34, 60)] [(1, 5)] [(3, 3)]
def mgh15942 : aw_H := [(81, mgx15941)]
def mgc5030 : ak_C := (124, [.inl 81], mgh15942, [], [([], some (.inr (false, [(0, 0)])), [])])
theorem mgk5030 : ai_chk [] mgc5030 (fun pc => sm_ch sm_t124 pc, sm_Kn 3 3 none, fun x => sm_lk sm_ca3 x, some .boolean) [] 3 0 [] [] 2000 [] = true := by decide +kernel
def mgx15943 : aw_A := ms_o [(0, 8)] [(0, 4)] ar_t32 ar_t32 [(0, 180)] [(35, 35)] [(35, 60)] [(1, 5)] [(3, 3)]
def mgh15944 : aw_H := [(81, mgx15943)]
/-- MiceRegistersModel.figure -/
def mgh15945 : aw_H := [(81, mgx15750), (90, .inr (.inl (0, 240, [], [])))]
def mgc5031 : ak_C := (125, [.inl 81, .inr (false, [(0, 0)]), .inr (false, [(0, 4)])], mgh15945, [81], [([], some (.inr (false, [(-9, -9)])), mgh15751), ([], some (.inr (false, [(0, 4)])), mgh15944)])
def mgx15946 : aw_A := ms_o [(0, 8)] [(0, 4)] ar_t32 ar_t32 [(0, 180)] [(36, 36)] [(36, 60)] [(1, 5)] [(3, 3)]
def mgh15947 : aw_H := [(81, mgx15946)]
/-- MiceRegistersModel.figure -/
def mgh15948 : aw_H := [(81, mgx15943), (90, .inr (.inl (0, 240, [], [])))]
def mgc5032 : ak_C := (125, [.inl 81, .inr (false, [(1, 1)]), .inr (false, [(9, 9)])], mgh15948, [81], [([], some (.inr (false, [(-9, -9)])), mgh15944), ([], some (.inr (false, [(1, 9)])), mgh15947)])
def mgh15949 : aw_H := [(81, mgx15941), (94, mgx6362)]
def mgx15950 : aw_A := ms_o [(0, 8)] [(0, 4)] ar_t32 ar_t32 [(0, 180)] [(36, 36)] [(36, 60)] [(1, 5)] [(4, 4)]
def mgh15951 : aw_H := [(81, mgx15950), (94, mgx6473)]
def mgh15952 : aw_H := [(81, mgx15943), (94, mgx6362)]
def mgh15953 : aw_H := [(81, mgx15750), (94, mgx6362)]
/-- MiceRegistersModel.readsMouse -/
def mgh15954 : aw_H := [(81, mgx15941), (90, .inr (.inl (0, 240, [], []))), (94, mgx6362)]
def mgc5033 : ak_C := (127, [.inl 81], mgh15954, [81, 94], [([], some (.inr (false, [(0, 0)])), mgh15949), ([], some (.inr (false, [(1, 1)])), mgh15951), ([], some (.inr (false, [(0, 0)])), mgh15952), ([], some (.inr (false, [(0, 0)])), mgh15953)])
theorem mgk5033 : ai_chk [mgc46, mgc147, mgc5031, mgc5032] mgc5033 (fun pc => sm_ch sm_t127 pc, sm_Kn 3 5 none, fun x => sm_lk sm_ca3 x, some .boolean) [81, 94] 5 0 [] [] 2000 [] = true := by decide +kernel
def mgh15955 : aw_H := [(81, mgx15950)]
def mgx15956 : aw_A := ms_o [(0, 8)] [(0, 4)] ar_t32 ar_t32 [(0, 180)] [(37, 37)] [(36, 60)] [(1, 5)] [(4, 4)]
def mgh15957 : aw_H := [(81, mgx15956)]
def mgx15958 : aw_A := ms_o [(0, 8)] [(0, 4)] ar_t32 ar_t32 [(0, 180)] [(38, 38)] [(36, 60)] [(1, 5)] [(4, 4)]
def mgh15959 : aw_H := [(81, mgx15958)]
def mgx15960 : aw_A := ms_o [(0, 8)] [(0, 4)] ar_t32 ar_t32 [(0, 180)] [(39, 39)] [(36, 60)] [(1, 5)] [(4, 4)]
def mgh15961 : aw_H := [(81, mgx15960)]
def mgx15962 : aw_A := ms_o [(0, 8)] [(0, 4)] ar_t32 ar_t32 [(0, 180)] [(40, 40)] [(36, 60)] [(1, 5)] [(4, 4)]
def mgh15963 : aw_H := [(81, mgx15962)]
def mgx15964 : aw_A := ms_o [(0, 8)] [(0, 4)] ar_t32 ar_t32 [(0, 180)] [(41, 41)] [(36, 60)] [(1, 5)] [(4, 4)]
def mgh15965 : aw_H := [(81, mgx15964)]
def mgx15966 : aw_A := ms_o [(0, 8)] [(0, 4)] ar_t32 ar_t32 [(0, 180)] [(42, 42)] [(36, 60)] [(1, 5)] [(4, 4)]
def mgh15967 : aw_H := [(81, mgx15966)]
def mgx15968 : aw_A := ms_o [(0, 8)] [(0, 4)] ar_t32 ar_t32 [(0, 180)] [(43, 43)] [(36, 60)] [(1, 5)] [(4, 4)]
def mgh15969 : aw_H := [(81, mgx15968)]
def mgx15970 : aw_A := ms_o [(0, 8)] [(0, 4)] ar_t32 ar_t32 [(0, 180)] [(44, 44)] [(36, 60)] [(1, 5)] [(4, 4)]
def mgh15971 : aw_H := [(81, mgx15970)]
def mgx15972 : aw_A := ms_o [(0, 8)] [(0, 4)] ar_t32 ar_t32 [(0, 180)] [(45, 45)] [(36, 60)] [(1, 5)] [(4, 4)]
def mgh15973 : aw_H := [(81, mgx15972)]
def mgx15974 : aw_A := ms_o [(0, 8)] [(0, 4)] ar_t32 ar_t32 [(0, 180)] [(46, 46)] [(36, 60)] [(1, 5)] [(4, 4)]
def mgh15975 : aw_H := [(81, mgx15974)]
def mgx15976 : aw_A := ms_o [(0, 8)] [(0, 4)] ar_t32 ar_t32 [(0, 180)] [(47, 47)] [(36, 60)] [(1, 5)] [(4, 4)]
def mgh15977 : aw_H := [(81, mgx15976)]
def mgx15978 : aw_A := ms_o [(0, 8)] [(0, 4)] ar_t32 ar_t32 [(0, 180)] [(48, 48)] [(36, 60)] [(1, 5)] [(4, 4)]
def mgh15979 : aw_H := [(81, mgx15978)]
def mgx15980 : aw_A := ms_o [(0, 8)] [(0, 4)] ar_t32 ar_t32 [(0, 180)] [(49, 49)] [(36, 60)] [(1, 5)] [(4, 4)]
def mgh15981 : aw_H := [(81, mgx15980)]
def mgx15982 : aw_A := ms_o [(0, 8)] [(0, 4)] ar_t32 ar_t32 [(0, 180)] [(50, 50)] [(36, 60)] [(1, 5)] [(4, 4)]
def mgh15983 : aw_H := [(81, mgx15982)]
def mgx15984 : aw_A := ms_o [(0, 8)] [(0, 4)] ar_t32 ar_t32 [(0, 180)] [(51, 51)] [(36, 60)] [(1, 5)] [(4, 4)]
def mgh15985 : aw_H := [(81, mgx15984)]
def mgx15986 : aw_A := ms_o [(0, 8)] [(0, 4)] ar_t32 ar_t32 [(0, 180)] [(52, 52)] [(36, 60)] [(1, 5)] [(4, 4)]
def mgh15987 : aw_H := [(81, mgx15986)]
def mgx15988 : aw_A := ms_o [(0, 8)] [(0, 4)] ar_t32 ar_t32 [(0, 180)] [(53, 53)] [(36, 60)] [(1, 5)] [(4, 4)]
def mgh15989 : aw_H := [(81, mgx15988)]
def mgx15990 : aw_A := ms_o [(0, 8)] [(0, 4)] ar_t32 ar_t32 [(0, 180)] [(54, 54)] [(36, 60)] [(1, 5)] [(4, 4)]
def mgh15991 : aw_H := [(81, mgx15990)]
def mgx15992 : aw_A := ms_o [(0, 8)] [(0, 4)] ar_t32 ar_t32 [(0, 180)] [(55, 55)] [(36, 60)] [(1, 5)] [(4, 4)]
def mgh15993 : aw_H := [(81, mgx15992)]
def mgx15994 : aw_A := ms_o [(0, 8)] [(0, 4)] ar_t32 ar_t32 [(0, 180)] [(56, 56)] [(36, 60)] [(1, 5)] [(4, 4)]
def mgh15995 : aw_H := [(81, mgx15994)]
def mgx15996 : aw_A := ms_o [(0, 8)] [(0, 4)] ar_t32 ar_t32 [(0, 180)] [(57, 57)] [(36, 60)] [(1, 5)] [(4, 4)]
def mgh15997 : aw_H := [(81, mgx15996)]
def mgx15998 : aw_A := ms_o [(0, 8)] [(0, 4)] ar_t32 ar_t32 [(0, 180)] [(58, 58)] [(36, 60)] [(1, 5)] [(4, 4)]
def mgh15999 : aw_H := [(81, mgx15998)]
def mgx16000 : aw_A := ms_o [(0, 8)] [(0, 4)] ar_t32 ar_t32 [(0, 180)] [(59, 59)] [(36, 60)] [(1, 5)] [(4, 4)]
def mgh16001 : aw_H := [(81, mgx16000)]
def mgx16002 : aw_A := ms_o [(0, 8)] [(0, 4)] ar_t32 ar_t32 [(0, 180)] [(60, 60)] [(36, 60)] [(1, 5)] [(4, 4)]
def mgh16003 : aw_H := [(81, mgx16002)]
/-- MiceRegistersModel.skip -/
def mgh16004 : aw_H := [(81, mgx15950), (90, .inr (.inl (0, 240, [], [])))]
def mgc5851 : ak_C := (122, [.inl 81], mgh16004, [81], [([], none, mgh15955), ([], none, mgh15957), ([], none, mgh15959), ([], none, mgh15961), ([], none, mgh15963), ([], none, mgh15965), ([], none, mgh15967), ([], none, mgh15969), ([], none, mgh15971), ([], none, mgh15973), ([], none, mgh15975), ([], none, mgh15977), ([], none, mgh15979), ([], none, mgh15981), ([], none, mgh15983), ([], none, mgh15985), ([], none, mgh15987), ([], none, mgh15989), ([], none, mgh15991), ([], none, mgh15993), ([], none, mgh15995), ([], none, mgh15997), ([], none, mgh15999), ([], none, mgh16001), ([], none, mgh16003)])
/-- MiceRegistersModel.readsLine -/
def mgx16005 : aw_A := ms_o [(0, 8)] [(0, 4)] ar_t32 ar_t32 [(0, 180)] [(32, 32)] [(33, 60)] [(1, 5)] [(3, 3)]
def mgh16006 : aw_H := [(81, mgx16005)]
def mgc5026 : ak_C := (124, [.inl 81], mgh16006, [], [([], some (.inr (false, [(0, 0)])), [])])
theorem mgk5026 : ai_chk [] mgc5026 (fun pc => sm_ch sm_t124 pc, sm_Kn 3 3 none, fun x => sm_lk sm_ca3 x, some .boolean) [] 3 0 [] [] 2000 [] = true := by decide +kernel
/-- MiceRegistersModel.figure -/
def mgc5027 : ak_C := (125, [.inl 81, .inr (false, [(0, 0)]), .inr (false, [(0, 4)])], mgh15752, [81], [([], some (.inr (false, [(-9, -9)])), mgh14965), ([], some (.inr (false, [(0, 4)])), mgh15751)])
/-- MiceRegistersModel.figure -/
def mgc5028 : ak_C := (125, [.inl 81, .inr (false, [(1, 1)]), .inr (false, [(9, 9)])], mgh15945, [81], [([], some (.inr (false, [(-9, -9)])), mgh15751), ([], some (.inr (false, [(1, 9)])), mgh15944)])
def mgh16007 : aw_H := [(81, mgx16005), (94, mgx6362)]
def mgx16008 : aw_A := ms_o [(0, 8)] [(0, 4)] ar_t32 ar_t32 [(0, 180)] [(35, 35)] [(35, 60)] [(1, 5)] [(4, 4)]
def mgh16009 : aw_H := [(81, mgx16008), (94, mgx6473)]
/-- MiceRegistersModel.readsMouse -/
def mgh16010 : aw_H := [(81, mgx16005), (90, .inr (.inl (0, 240, [], []))), (94, mgx6362)]
def mgc5029 : ak_C := (127, [.inl 81], mgh16010, [81, 94], [([], some (.inr (false, [(0, 0)])), mgh16007), ([], some (.inr (false, [(1, 1)])), mgh16009), ([], some (.inr (false, [(0, 0)])), mgh15953), ([], some (.inr (false, [(0, 0)])), mgh15756)])
theorem mgk5029 : ai_chk [mgc47, mgc147, mgc5027, mgc5028] mgc5029 (fun pc => sm_ch sm_t127 pc, sm_Kn 3 5 none, fun x => sm_lk sm_ca3 x, some .boolean) [81, 94] 5 0 [] [] 2000 [] = true := by decide +kernel
def mgh16011 : aw_H := [(81, mgx16008)]
def mgx16012 : aw_A := ms_o [(0, 8)] [(0, 4)] ar_t32 ar_t32 [(0, 180)] [(36, 36)] [(35, 60)] [(1, 5)] [(4, 4)]
def mgh16013 : aw_H := [(81, mgx16012)]
def mgx16014 : aw_A := ms_o [(0, 8)] [(0, 4)] ar_t32 ar_t32 [(0, 180)] [(37, 37)] [(35, 60)] [(1, 5)] [(4, 4)]
def mgh16015 : aw_H := [(81, mgx16014)]
def mgx16016 : aw_A := ms_o [(0, 8)] [(0, 4)] ar_t32 ar_t32 [(0, 180)] [(38, 38)] [(35, 60)] [(1, 5)] [(4, 4)]
def mgh16017 : aw_H := [(81, mgx16016)]
def mgx16018 : aw_A := ms_o [(0, 8)] [(0, 4)] ar_t32 ar_t32 [(0, 180)] [(39, 39)] [(35, 60)] [(1, 5)] [(4, 4)]
def mgh16019 : aw_H := [(81, mgx16018)]
def mgx16020 : aw_A := ms_o [(0, 8)] [(0, 4)] ar_t32 ar_t32 [(0, 180)] [(40, 40)] [(35, 60)] [(1, 5)] [(4, 4)]
def mgh16021 : aw_H := [(81, mgx16020)]
def mgx16022 : aw_A := ms_o [(0, 8)] [(0, 4)] ar_t32 ar_t32 [(0, 180)] [(41, 41)] [(35, 60)] [(1, 5)] [(4, 4)]
def mgh16023 : aw_H := [(81, mgx16022)]
def mgx16024 : aw_A := ms_o [(0, 8)] [(0, 4)] ar_t32 ar_t32 [(0, 180)] [(42, 42)] [(35, 60)] [(1, 5)] [(4, 4)]
def mgh16025 : aw_H := [(81, mgx16024)]
def mgx16026 : aw_A := ms_o [(0, 8)] [(0, 4)] ar_t32 ar_t32 [(0, 180)] [(43, 43)] [(35, 60)] [(1, 5)] [(4, 4)]
def mgh16027 : aw_H := [(81, mgx16026)]
def mgx16028 : aw_A := ms_o [(0, 8)] [(0, 4)] ar_t32 ar_t32 [(0, 180)] [(44, 44)] [(35, 60)] [(1, 5)] [(4, 4)]
def mgh16029 : aw_H := [(81, mgx16028)]
def mgx16030 : aw_A := ms_o [(0, 8)] [(0, 4)] ar_t32 ar_t32 [(0, 180)] [(45, 45)] [(35, 60)] [(1, 5)] [(4, 4)]
def mgh16031 : aw_H := [(81, mgx16030)]
def mgx16032 : aw_A := ms_o [(0, 8)] [(0, 4)] ar_t32 ar_t32 [(0, 180)] [(46, 46)] [(35, 60)] [(1, 5)] [(4, 4)]
def mgh16033 : aw_H := [(81, mgx16032)]
def mgx16034 : aw_A := ms_o [(0, 8)] [(0, 4)] ar_t32 ar_t32 [(0, 180)] [(47, 47)] [(35, 60)] [(1, 5)] [(4, 4)]
def mgh16035 : aw_H := [(81, mgx16034)]
def mgx16036 : aw_A := ms_o [(0, 8)] [(0, 4)] ar_t32 ar_t32 [(0, 180)] [(48, 48)] [(35, 60)] [(1, 5)] [(4, 4)]
def mgh16037 : aw_H := [(81, mgx16036)]
def mgx16038 : aw_A := ms_o [(0, 8)] [(0, 4)] ar_t32 ar_t32 [(0, 180)] [(49, 49)] [(35, 60)] [(1, 5)] [(4, 4)]
def mgh16039 : aw_H := [(81, mgx16038)]
def mgx16040 : aw_A := ms_o [(0, 8)] [(0, 4)] ar_t32 ar_t32 [(0, 180)] [(50, 50)] [(35, 60)] [(1, 5)] [(4, 4)]
def mgh16041 : aw_H := [(81, mgx16040)]
def mgx16042 : aw_A := ms_o [(0, 8)] [(0, 4)] ar_t32 ar_t32 [(0, 180)] [(51, 51)] [(35, 60)] [(1, 5)] [(4, 4)]
def mgh16043 : aw_H := [(81, mgx16042)]
def mgx16044 : aw_A := ms_o [(0, 8)] [(0, 4)] ar_t32 ar_t32 [(0, 180)] [(52, 52)] [(35, 60)] [(1, 5)] [(4, 4)]
def mgh16045 : aw_H := [(81, mgx16044)]
def mgx16046 : aw_A := ms_o [(0, 8)] [(0, 4)] ar_t32 ar_t32 [(0, 180)] [(53, 53)] [(35, 60)] [(1, 5)] [(4, 4)]
def mgh16047 : aw_H := [(81, mgx16046)]
def mgx16048 : aw_A := ms_o [(0, 8)] [(0, 4)] ar_t32 ar_t32 [(0, 180)] [(54, 54)] [(35, 60)] [(1, 5)] [(4, 4)]
def mgh16049 : aw_H := [(81, mgx16048)]
def mgx16050 : aw_A := ms_o [(0, 8)] [(0, 4)] ar_t32 ar_t32 [(0, 180)] [(55, 55)] [(35, 60)] [(1, 5)] [(4, 4)]
def mgh16051 : aw_H := [(81, mgx16050)]
def mgx16052 : aw_A := ms_o [(0, 8)] [(0, 4)] ar_t32 ar_t32 [(0, 180)] [(56, 56)] [(35, 60)] [(1, 5)] [(4, 4)]
def mgh16053 : aw_H := [(81, mgx16052)]
def mgx16054 : aw_A := ms_o [(0, 8)] [(0, 4)] ar_t32 ar_t32 [(0, 180)] [(57, 57)] [(35, 60)] [(1, 5)] [(4, 4)]
def mgh16055 : aw_H := [(81, mgx16054)]
def mgx16056 : aw_A := ms_o [(0, 8)] [(0, 4)] ar_t32 ar_t32 [(0, 180)] [(58, 58)] [(35, 60)] [(1, 5)] [(4, 4)]
def mgh16057 : aw_H := [(81, mgx16056)]
def mgx16058 : aw_A := ms_o [(0, 8)] [(0, 4)] ar_t32 ar_t32 [(0, 180)] [(59, 59)] [(35, 60)] [(1, 5)] [(4, 4)]
def mgh16059 : aw_H := [(81, mgx16058)]
def mgx16060 : aw_A := ms_o [(0, 8)] [(0, 4)] ar_t32 ar_t32 [(0, 180)] [(60, 60)] [(35, 60)] [(1, 5)] [(4, 4)]
def mgh16061 : aw_H := [(81, mgx16060)]
/-- MiceRegistersModel.skip -/
def mgh16062 : aw_H := [(81, mgx16008), (90, .inr (.inl (0, 240, [], [])))]
def mgc5751 : ak_C := (122, [.inl 81], mgh16062, [81], [([], none, mgh16011), ([], none, mgh16013), ([], none, mgh16015), ([], none, mgh16017), ([], none, mgh16019), ([], none, mgh16021), ([], none, mgh16023), ([], none, mgh16025), ([], none, mgh16027), ([], none, mgh16029), ([], none, mgh16031), ([], none, mgh16033), ([], none, mgh16035), ([], none, mgh16037), ([], none, mgh16039), ([], none, mgh16041), ([], none, mgh16043), ([], none, mgh16045), ([], none, mgh16047), ([], none, mgh16049), ([], none, mgh16051), ([], none, mgh16053), ([], none, mgh16055), ([], none, mgh16057), ([], none, mgh16059), ([], none, mgh16061)])
/-- MiceRegistersModel.readsLine -/
def mgx16063 : aw_A := ms_o [(0, 8)] [(0, 4)] ar_t32 ar_t32 [(0, 180)] [(35, 35)] [(36, 60)] [(1, 5)] [(4, 4)]
def mgh16064 : aw_H := [(81, mgx16063)]
def mgc5490 : ak_C := (124, [.inl 81], mgh16064, [], [([], some (.inr (false, [(0, 0)])), [])])
theorem mgk5490 : ai_chk [] mgc5490 (fun pc => sm_ch sm_t124 pc, sm_Kn 3 3 none, fun x => sm_lk sm_ca3 x, some .boolean) [] 3 0 [] [] 2000 [] = true := by decide +kernel
/-- MiceRegistersModel.readsMouse -/
def mgh16065 : aw_H := [(81, mgx16063), (90, .inr (.inl (0, 240, [], [])))]
def mgc5491 : ak_C := (127, [.inl 81], mgh16065, [], [([], some (.inr (false, [(0, 0)])), [])])
theorem mgk5491 : ai_chk [mgc44, mgc147] mgc5491 (fun pc => sm_ch sm_t127 pc, sm_Kn 3 5 none, fun x => sm_lk sm_ca3 x, some .boolean) [] 5 0 [] [] 2000 [] = true := by decide +kernel
/-- MiceRegistersModel.readsLine -/
def mgx16066 : aw_A := ms_o [(0, 8)] [(0, 4)] ar_t32 ar_t32 [(0, 180)] [(36, 36)] [(37, 60)] [(1, 5)] [(4, 4)]
def mgh16067 : aw_H := [(81, mgx16066)]
def mgc5492 : ak_C := (124, [.inl 81], mgh16067, [], [([], some (.inr (false, [(0, 0)])), [])])
theorem mgk5492 : ai_chk [] mgc5492 (fun pc => sm_ch sm_t124 pc, sm_Kn 3 3 none, fun x => sm_lk sm_ca3 x, some .boolean) [] 3 0 [] [] 2000 [] = true := by decide +kernel
/-- MiceRegistersModel.readsMouse -/
def mgh16068 : aw_H := [(81, mgx16066), (90, .inr (.inl (0, 240, [], [])))]
def mgc5493 : ak_C := (127, [.inl 81], mgh16068, [], [([], some (.inr (false, [(0, 0)])), [])])
theorem mgk5493 : ai_chk [mgc43, mgc147] mgc5493 (fun pc => sm_ch sm_t127 pc, sm_Kn 3 5 none, fun x => sm_lk sm_ca3 x, some .boolean) [] 5 0 [] [] 2000 [] = true := by decide +kernel
/-- MiceRegistersModel.readsLine -/
def mgx16069 : aw_A := ms_o [(0, 8)] [(0, 4)] ar_t32 ar_t32 [(0, 180)] [(39, 39)] [(40, 60)] [(1, 8)] [(2, 2)]
def mgh16070 : aw_H := [(81, mgx16069)]
def mgc5998 : ak_C := (124, [.inl 81], mgh16070, [], [([], some (.inr (false, [(0, 0)])), [])])
theorem mgk5998 : ai_chk [] mgc5998 (fun pc => sm_ch sm_t124 pc, sm_Kn 3 3 none, fun x => sm_lk sm_ca3 x, some .boolean) [] 3 0 [] [] 2000 [] = true := by decide +kernel
def mgx16071 : aw_A := ms_o [(0, 8)] [(0, 4)] ar_t32 ar_t32 [(0, 180)] [(40, 40)] [(40, 60)] [(1, 8)] [(2, 2)]
def mgh16072 : aw_H := [(81, mgx16071)]
def mgx16073 : aw_A := ms_o [(0, 8)] [(0, 4)] ar_t32 ar_t32 [(0, 180)] [(41, 41)] [(41, 60)] [(1, 8)] [(2, 2)]
def mgh16074 : aw_H := [(81, mgx16073)]
/-- MiceRegistersModel.figure -/
def mgh16075 : aw_H := [(81, mgx16071), (90, .inr (.inl (0, 240, [], [])))]
def mgc5999 : ak_C := (125, [.inl 81, .inr (false, [(0, 0)]), .inr (false, [(0, 7)])], mgh16075, [81], [([], some (.inr (false, [(-9, -9)])), mgh16072), ([], some (.inr (false, [(0, 7)])), mgh16074)])
def mgx16076 : aw_A := ms_o [(0, 8)] [(0, 4)] ar_t32 ar_t32 [(0, 180)] [(42, 42)] [(42, 60)] [(1, 8)] [(2, 2)]
def mgh16077 : aw_H := [(81, mgx16076)]
/-- MiceRegistersModel.figure -/
def mgh16078 : aw_H := [(81, mgx16073), (90, .inr (.inl (0, 240, [], [])))]
def mgc6000 : ak_C := (125, [.inl 81, .inr (false, [(1, 1)]), .inr (false, [(9, 9)])], mgh16078, [81], [([], some (.inr (false, [(-9, -9)])), mgh16074), ([], some (.inr (false, [(1, 9)])), mgh16077)])
def mgh16079 : aw_H := [(81, mgx16069), (94, mgx6150)]
def mgx16080 : aw_A := ms_o [(0, 8)] [(0, 4)] ar_t32 ar_t32 [(0, 180)] [(42, 42)] [(42, 60)] [(1, 8)] [(3, 3)]
def mgh16081 : aw_H := [(81, mgx16080), (94, mgx6362)]
def mgh16082 : aw_H := [(81, mgx16073), (94, mgx6150)]
def mgh16083 : aw_H := [(81, mgx16071), (94, mgx6150)]
/-- MiceRegistersModel.readsMouse -/
def mgh16084 : aw_H := [(81, mgx16069), (90, .inr (.inl (0, 240, [], []))), (94, mgx6150)]
def mgc6001 : ak_C := (127, [.inl 81], mgh16084, [81, 94], [([], some (.inr (false, [(0, 0)])), mgh16079), ([], some (.inr (false, [(1, 1)])), mgh16081), ([], some (.inr (false, [(0, 0)])), mgh16082), ([], some (.inr (false, [(0, 0)])), mgh16083)])
theorem mgk6001 : ai_chk [mgc40, mgc147, mgc5999, mgc6000] mgc6001 (fun pc => sm_ch sm_t127 pc, sm_Kn 3 5 none, fun x => sm_lk sm_ca3 x, some .boolean) [81, 94] 5 0 [] [] 2000 [] = true := by decide +kernel
def mgh16085 : aw_H := [(81, mgx16080)]
def mgx16086 : aw_A := ms_o [(0, 8)] [(0, 4)] ar_t32 ar_t32 [(0, 180)] [(43, 43)] [(42, 60)] [(1, 8)] [(3, 3)]
def mgh16087 : aw_H := [(81, mgx16086)]
def mgx16088 : aw_A := ms_o [(0, 8)] [(0, 4)] ar_t32 ar_t32 [(0, 180)] [(44, 44)] [(42, 60)] [(1, 8)] [(3, 3)]
def mgh16089 : aw_H := [(81, mgx16088)]
def mgx16090 : aw_A := ms_o [(0, 8)] [(0, 4)] ar_t32 ar_t32 [(0, 180)] [(45, 45)] [(42, 60)] [(1, 8)] [(3, 3)]
def mgh16091 : aw_H := [(81, mgx16090)]
def mgx16092 : aw_A := ms_o [(0, 8)] [(0, 4)] ar_t32 ar_t32 [(0, 180)] [(46, 46)] [(42, 60)] [(1, 8)] [(3, 3)]
def mgh16093 : aw_H := [(81, mgx16092)]
def mgx16094 : aw_A := ms_o [(0, 8)] [(0, 4)] ar_t32 ar_t32 [(0, 180)] [(47, 47)] [(42, 60)] [(1, 8)] [(3, 3)]
def mgh16095 : aw_H := [(81, mgx16094)]
def mgx16096 : aw_A := ms_o [(0, 8)] [(0, 4)] ar_t32 ar_t32 [(0, 180)] [(48, 48)] [(42, 60)] [(1, 8)] [(3, 3)]
def mgh16097 : aw_H := [(81, mgx16096)]
def mgx16098 : aw_A := ms_o [(0, 8)] [(0, 4)] ar_t32 ar_t32 [(0, 180)] [(49, 49)] [(42, 60)] [(1, 8)] [(3, 3)]
def mgh16099 : aw_H := [(81, mgx16098)]
def mgx16100 : aw_A := ms_o [(0, 8)] [(0, 4)] ar_t32 ar_t32 [(0, 180)] [(50, 50)] [(42, 60)] [(1, 8)] [(3, 3)]
def mgh16101 : aw_H := [(81, mgx16100)]
def mgx16102 : aw_A := ms_o [(0, 8)] [(0, 4)] ar_t32 ar_t32 [(0, 180)] [(51, 51)] [(42, 60)] [(1, 8)] [(3, 3)]
def mgh16103 : aw_H := [(81, mgx16102)]
def mgx16104 : aw_A := ms_o [(0, 8)] [(0, 4)] ar_t32 ar_t32 [(0, 180)] [(52, 52)] [(42, 60)] [(1, 8)] [(3, 3)]
def mgh16105 : aw_H := [(81, mgx16104)]
def mgx16106 : aw_A := ms_o [(0, 8)] [(0, 4)] ar_t32 ar_t32 [(0, 180)] [(53, 53)] [(42, 60)] [(1, 8)] [(3, 3)]
def mgh16107 : aw_H := [(81, mgx16106)]
def mgx16108 : aw_A := ms_o [(0, 8)] [(0, 4)] ar_t32 ar_t32 [(0, 180)] [(54, 54)] [(42, 60)] [(1, 8)] [(3, 3)]
def mgh16109 : aw_H := [(81, mgx16108)]
def mgx16110 : aw_A := ms_o [(0, 8)] [(0, 4)] ar_t32 ar_t32 [(0, 180)] [(55, 55)] [(42, 60)] [(1, 8)] [(3, 3)]
def mgh16111 : aw_H := [(81, mgx16110)]
def mgx16112 : aw_A := ms_o [(0, 8)] [(0, 4)] ar_t32 ar_t32 [(0, 180)] [(56, 56)] [(42, 60)] [(1, 8)] [(3, 3)]
def mgh16113 : aw_H := [(81, mgx16112)]
def mgx16114 : aw_A := ms_o [(0, 8)] [(0, 4)] ar_t32 ar_t32 [(0, 180)] [(57, 57)] [(42, 60)] [(1, 8)] [(3, 3)]
def mgh16115 : aw_H := [(81, mgx16114)]
def mgx16116 : aw_A := ms_o [(0, 8)] [(0, 4)] ar_t32 ar_t32 [(0, 180)] [(58, 58)] [(42, 60)] [(1, 8)] [(3, 3)]
def mgh16117 : aw_H := [(81, mgx16116)]
def mgx16118 : aw_A := ms_o [(0, 8)] [(0, 4)] ar_t32 ar_t32 [(0, 180)] [(59, 59)] [(42, 60)] [(1, 8)] [(3, 3)]
def mgh16119 : aw_H := [(81, mgx16118)]
def mgx16120 : aw_A := ms_o [(0, 8)] [(0, 4)] ar_t32 ar_t32 [(0, 180)] [(60, 60)] [(42, 60)] [(1, 8)] [(3, 3)]
def mgh16121 : aw_H := [(81, mgx16120)]
/-- MiceRegistersModel.skip -/
def mgh16122 : aw_H := [(81, mgx16080), (90, .inr (.inl (0, 240, [], [])))]
def mgc6134 : ak_C := (122, [.inl 81], mgh16122, [81], [([], none, mgh16085), ([], none, mgh16087), ([], none, mgh16089), ([], none, mgh16091), ([], none, mgh16093), ([], none, mgh16095), ([], none, mgh16097), ([], none, mgh16099), ([], none, mgh16101), ([], none, mgh16103), ([], none, mgh16105), ([], none, mgh16107), ([], none, mgh16109), ([], none, mgh16111), ([], none, mgh16113), ([], none, mgh16115), ([], none, mgh16117), ([], none, mgh16119), ([], none, mgh16121)])
/-- MiceRegistersModel.readsLine -/
def mgx16123 : aw_A := ms_o [(0, 8)] [(0, 4)] ar_t32 ar_t32 [(0, 180)] [(32, 32)] [(33, 60)] [(1, 6)] [(2, 2)]
def mgh16124 : aw_H := [(81, mgx16123)]
def mgc5145 : ak_C := (124, [.inl 81], mgh16124, [], [([], some (.inr (false, [(0, 0)])), [])])
theorem mgk5145 : ai_chk [] mgc5145 (fun pc => sm_ch sm_t124 pc, sm_Kn 3 3 none, fun x => sm_lk sm_ca3 x, some .boolean) [] 3 0 [] [] 2000 [] = true := by decide +kernel
/-- MiceRegistersModel.figure -/
def mgc5146 : ak_C := (125, [.inl 81, .inr (false, [(0, 0)]), .inr (false, [(0, 5)])], mgh14516, [81], [([], some (.inr (false, [(-9, -9)])), mgh14461), ([], some (.inr (false, [(0, 5)])), mgh14401)])
/-- MiceRegistersModel.figure -/
def mgc5147 : ak_C := (125, [.inl 81, .inr (false, [(1, 1)]), .inr (false, [(9, 9)])], mgh14454, [81], [([], some (.inr (false, [(-9, -9)])), mgh14401), ([], some (.inr (false, [(1, 9)])), mgh15465)])
def mgh16125 : aw_H := [(81, mgx16123), (94, mgx6150)]
def mgx16126 : aw_A := ms_o [(0, 8)] [(0, 4)] ar_t32 ar_t32 [(0, 180)] [(35, 35)] [(35, 60)] [(1, 6)] [(3, 3)]
def mgh16127 : aw_H := [(81, mgx16126), (94, mgx6362)]
/-- MiceRegistersModel.readsMouse -/
def mgh16128 : aw_H := [(81, mgx16123), (90, .inr (.inl (0, 240, [], []))), (94, mgx6150)]
def mgc5148 : ak_C := (127, [.inl 81], mgh16128, [81, 94], [([], some (.inr (false, [(0, 0)])), mgh16125), ([], some (.inr (false, [(1, 1)])), mgh16127), ([], some (.inr (false, [(0, 0)])), mgh14397), ([], some (.inr (false, [(0, 0)])), mgh14459)])
theorem mgk5148 : ai_chk [mgc47, mgc147, mgc5146, mgc5147] mgc5148 (fun pc => sm_ch sm_t127 pc, sm_Kn 3 5 none, fun x => sm_lk sm_ca3 x, some .boolean) [81, 94] 5 0 [] [] 2000 [] = true := by decide +kernel
def mgh16129 : aw_H := [(81, mgx16126)]
def mgx16130 : aw_A := ms_o [(0, 8)] [(0, 4)] ar_t32 ar_t32 [(0, 180)] [(36, 36)] [(35, 60)] [(1, 6)] [(3, 3)]
def mgh16131 : aw_H := [(81, mgx16130)]
def mgx16132 : aw_A := ms_o [(0, 8)] [(0, 4)] ar_t32 ar_t32 [(0, 180)] [(37, 37)] [(35, 60)] [(1, 6)] [(3, 3)]
def mgh16133 : aw_H := [(81, mgx16132)]
def mgx16134 : aw_A := ms_o [(0, 8)] [(0, 4)] ar_t32 ar_t32 [(0, 180)] [(38, 38)] [(35, 60)] [(1, 6)] [(3, 3)]
def mgh16135 : aw_H := [(81, mgx16134)]
def mgx16136 : aw_A := ms_o [(0, 8)] [(0, 4)] ar_t32 ar_t32 [(0, 180)] [(39, 39)] [(35, 60)] [(1, 6)] [(3, 3)]
def mgh16137 : aw_H := [(81, mgx16136)]
def mgx16138 : aw_A := ms_o [(0, 8)] [(0, 4)] ar_t32 ar_t32 [(0, 180)] [(40, 40)] [(35, 60)] [(1, 6)] [(3, 3)]
def mgh16139 : aw_H := [(81, mgx16138)]
def mgx16140 : aw_A := ms_o [(0, 8)] [(0, 4)] ar_t32 ar_t32 [(0, 180)] [(41, 41)] [(35, 60)] [(1, 6)] [(3, 3)]
def mgh16141 : aw_H := [(81, mgx16140)]
def mgx16142 : aw_A := ms_o [(0, 8)] [(0, 4)] ar_t32 ar_t32 [(0, 180)] [(42, 42)] [(35, 60)] [(1, 6)] [(3, 3)]
def mgh16143 : aw_H := [(81, mgx16142)]
def mgx16144 : aw_A := ms_o [(0, 8)] [(0, 4)] ar_t32 ar_t32 [(0, 180)] [(43, 43)] [(35, 60)] [(1, 6)] [(3, 3)]
def mgh16145 : aw_H := [(81, mgx16144)]
def mgx16146 : aw_A := ms_o [(0, 8)] [(0, 4)] ar_t32 ar_t32 [(0, 180)] [(44, 44)] [(35, 60)] [(1, 6)] [(3, 3)]
def mgh16147 : aw_H := [(81, mgx16146)]
def mgx16148 : aw_A := ms_o [(0, 8)] [(0, 4)] ar_t32 ar_t32 [(0, 180)] [(45, 45)] [(35, 60)] [(1, 6)] [(3, 3)]
def mgh16149 : aw_H := [(81, mgx16148)]
def mgx16150 : aw_A := ms_o [(0, 8)] [(0, 4)] ar_t32 ar_t32 [(0, 180)] [(46, 46)] [(35, 60)] [(1, 6)] [(3, 3)]
def mgh16151 : aw_H := [(81, mgx16150)]
def mgx16152 : aw_A := ms_o [(0, 8)] [(0, 4)] ar_t32 ar_t32 [(0, 180)] [(47, 47)] [(35, 60)] [(1, 6)] [(3, 3)]
def mgh16153 : aw_H := [(81, mgx16152)]
def mgx16154 : aw_A := ms_o [(0, 8)] [(0, 4)] ar_t32 ar_t32 [(0, 180)] [(48, 48)] [(35, 60)] [(1, 6)] [(3, 3)]
def mgh16155 : aw_H := [(81, mgx16154)]
def mgx16156 : aw_A := ms_o [(0, 8)] [(0, 4)] ar_t32 ar_t32 [(0, 180)] [(49, 49)] [(35, 60)] [(1, 6)] [(3, 3)]
def mgh16157 : aw_H := [(81, mgx16156)]
def mgx16158 : aw_A := ms_o [(0, 8)] [(0, 4)] ar_t32 ar_t32 [(0, 180)] [(50, 50)] [(35, 60)] [(1, 6)] [(3, 3)]
def mgh16159 : aw_H := [(81, mgx16158)]
def mgx16160 : aw_A := ms_o [(0, 8)] [(0, 4)] ar_t32 ar_t32 [(0, 180)] [(51, 51)] [(35, 60)] [(1, 6)] [(3, 3)]
def mgh16161 : aw_H := [(81, mgx16160)]
def mgx16162 : aw_A := ms_o [(0, 8)] [(0, 4)] ar_t32 ar_t32 [(0, 180)] [(52, 52)] [(35, 60)] [(1, 6)] [(3, 3)]
def mgh16163 : aw_H := [(81, mgx16162)]
def mgx16164 : aw_A := ms_o [(0, 8)] [(0, 4)] ar_t32 ar_t32 [(0, 180)] [(53, 53)] [(35, 60)] [(1, 6)] [(3, 3)]
def mgh16165 : aw_H := [(81, mgx16164)]
def mgx16166 : aw_A := ms_o [(0, 8)] [(0, 4)] ar_t32 ar_t32 [(0, 180)] [(54, 54)] [(35, 60)] [(1, 6)] [(3, 3)]
def mgh16167 : aw_H := [(81, mgx16166)]
def mgx16168 : aw_A := ms_o [(0, 8)] [(0, 4)] ar_t32 ar_t32 [(0, 180)] [(55, 55)] [(35, 60)] [(1, 6)] [(3, 3)]
def mgh16169 : aw_H := [(81, mgx16168)]
def mgx16170 : aw_A := ms_o [(0, 8)] [(0, 4)] ar_t32 ar_t32 [(0, 180)] [(56, 56)] [(35, 60)] [(1, 6)] [(3, 3)]
def mgh16171 : aw_H := [(81, mgx16170)]
def mgx16172 : aw_A := ms_o [(0, 8)] [(0, 4)] ar_t32 ar_t32 [(0, 180)] [(57, 57)] [(35, 60)] [(1, 6)] [(3, 3)]
def mgh16173 : aw_H := [(81, mgx16172)]
def mgx16174 : aw_A := ms_o [(0, 8)] [(0, 4)] ar_t32 ar_t32 [(0, 180)] [(58, 58)] [(35, 60)] [(1, 6)] [(3, 3)]
def mgh16175 : aw_H := [(81, mgx16174)]
def mgx16176 : aw_A := ms_o [(0, 8)] [(0, 4)] ar_t32 ar_t32 [(0, 180)] [(59, 59)] [(35, 60)] [(1, 6)] [(3, 3)]
def mgh16177 : aw_H := [(81, mgx16176)]
def mgx16178 : aw_A := ms_o [(0, 8)] [(0, 4)] ar_t32 ar_t32 [(0, 180)] [(60, 60)] [(35, 60)] [(1, 6)] [(3, 3)]
def mgh16179 : aw_H := [(81, mgx16178)]
/-- MiceRegistersModel.skip -/
def mgh16180 : aw_H := [(81, mgx16126), (90, .inr (.inl (0, 240, [], [])))]
def mgc5750 : ak_C := (122, [.inl 81], mgh16180, [81], [([], none, mgh16129), ([], none, mgh16131), ([], none, mgh16133), ([], none, mgh16135), ([], none, mgh16137), ([], none, mgh16139), ([], none, mgh16141), ([], none, mgh16143), ([], none, mgh16145), ([], none, mgh16147), ([], none, mgh16149), ([], none, mgh16151), ([], none, mgh16153), ([], none, mgh16155), ([], none, mgh16157), ([], none, mgh16159), ([], none, mgh16161), ([], none, mgh16163), ([], none, mgh16165), ([], none, mgh16167), ([], none, mgh16169), ([], none, mgh16171), ([], none, mgh16173), ([], none, mgh16175), ([], none, mgh16177), ([], none, mgh16179)])
/-- MiceRegistersModel.readsLine -/
def mgx16181 : aw_A := ms_o [(0, 8)] [(0, 4)] ar_t32 ar_t32 [(0, 180)] [(31, 31)] [(32, 60)] [(1, 6)] [(2, 2)]
def mgh16182 : aw_H := [(81, mgx16181)]
def mgc5141 : ak_C := (124, [.inl 81], mgh16182, [], [([], some (.inr (false, [(0, 0)])), [])])
theorem mgk5141 : ai_chk [] mgc5141 (fun pc => sm_ch sm_t124 pc, sm_Kn 3 3 none, fun x => sm_lk sm_ca3 x, some .boolean) [] 3 0 [] [] 2000 [] = true := by decide +kernel
/-- MiceRegistersModel.figure -/
def mgc5142 : ak_C := (125, [.inl 81, .inr (false, [(0, 0)]), .inr (false, [(0, 5)])], mgh14072, [81], [([], some (.inr (false, [(-9, -9)])), mgh14015), ([], some (.inr (false, [(0, 5)])), mgh14461)])
/-- MiceRegistersModel.figure -/
def mgc5143 : ak_C := (125, [.inl 81, .inr (false, [(1, 1)]), .inr (false, [(9, 9)])], mgh14516, [81], [([], some (.inr (false, [(-9, -9)])), mgh14461), ([], some (.inr (false, [(1, 9)])), mgh14401)])
def mgh16183 : aw_H := [(81, mgx16181), (94, mgx6150)]
def mgx16184 : aw_A := ms_o [(0, 8)] [(0, 4)] ar_t32 ar_t32 [(0, 180)] [(34, 34)] [(34, 60)] [(1, 6)] [(3, 3)]
def mgh16185 : aw_H := [(81, mgx16184), (94, mgx6362)]
/-- MiceRegistersModel.readsMouse -/
def mgh16186 : aw_H := [(81, mgx16181), (90, .inr (.inl (0, 240, [], []))), (94, mgx6150)]
def mgc5144 : ak_C := (127, [.inl 81], mgh16186, [81, 94], [([], some (.inr (false, [(0, 0)])), mgh16183), ([], some (.inr (false, [(1, 1)])), mgh16185), ([], some (.inr (false, [(0, 0)])), mgh14459), ([], some (.inr (false, [(0, 0)])), mgh14013)])
theorem mgk5144 : ai_chk [mgc48, mgc147, mgc5142, mgc5143] mgc5144 (fun pc => sm_ch sm_t127 pc, sm_Kn 3 5 none, fun x => sm_lk sm_ca3 x, some .boolean) [81, 94] 5 0 [] [] 2000 [] = true := by decide +kernel
def mgh16187 : aw_H := [(81, mgx16184)]
def mgx16188 : aw_A := ms_o [(0, 8)] [(0, 4)] ar_t32 ar_t32 [(0, 180)] [(35, 35)] [(34, 60)] [(1, 6)] [(3, 3)]
def mgh16189 : aw_H := [(81, mgx16188)]
def mgx16190 : aw_A := ms_o [(0, 8)] [(0, 4)] ar_t32 ar_t32 [(0, 180)] [(36, 36)] [(34, 60)] [(1, 6)] [(3, 3)]
def mgh16191 : aw_H := [(81, mgx16190)]
def mgx16192 : aw_A := ms_o [(0, 8)] [(0, 4)] ar_t32 ar_t32 [(0, 180)] [(37, 37)] [(34, 60)] [(1, 6)] [(3, 3)]
def mgh16193 : aw_H := [(81, mgx16192)]
def mgx16194 : aw_A := ms_o [(0, 8)] [(0, 4)] ar_t32 ar_t32 [(0, 180)] [(38, 38)] [(34, 60)] [(1, 6)] [(3, 3)]
def mgh16195 : aw_H := [(81, mgx16194)]
def mgx16196 : aw_A := ms_o [(0, 8)] [(0, 4)] ar_t32 ar_t32 [(0, 180)] [(39, 39)] [(34, 60)] [(1, 6)] [(3, 3)]
def mgh16197 : aw_H := [(81, mgx16196)]
def mgx16198 : aw_A := ms_o [(0, 8)] [(0, 4)] ar_t32 ar_t32 [(0, 180)] [(40, 40)] [(34, 60)] [(1, 6)] [(3, 3)]
def mgh16199 : aw_H := [(81, mgx16198)]
def mgx16200 : aw_A := ms_o [(0, 8)] [(0, 4)] ar_t32 ar_t32 [(0, 180)] [(41, 41)] [(34, 60)] [(1, 6)] [(3, 3)]
def mgh16201 : aw_H := [(81, mgx16200)]
def mgx16202 : aw_A := ms_o [(0, 8)] [(0, 4)] ar_t32 ar_t32 [(0, 180)] [(42, 42)] [(34, 60)] [(1, 6)] [(3, 3)]
def mgh16203 : aw_H := [(81, mgx16202)]
def mgx16204 : aw_A := ms_o [(0, 8)] [(0, 4)] ar_t32 ar_t32 [(0, 180)] [(43, 43)] [(34, 60)] [(1, 6)] [(3, 3)]
def mgh16205 : aw_H := [(81, mgx16204)]
def mgx16206 : aw_A := ms_o [(0, 8)] [(0, 4)] ar_t32 ar_t32 [(0, 180)] [(44, 44)] [(34, 60)] [(1, 6)] [(3, 3)]
def mgh16207 : aw_H := [(81, mgx16206)]
def mgx16208 : aw_A := ms_o [(0, 8)] [(0, 4)] ar_t32 ar_t32 [(0, 180)] [(45, 45)] [(34, 60)] [(1, 6)] [(3, 3)]
def mgh16209 : aw_H := [(81, mgx16208)]
def mgx16210 : aw_A := ms_o [(0, 8)] [(0, 4)] ar_t32 ar_t32 [(0, 180)] [(46, 46)] [(34, 60)] [(1, 6)] [(3, 3)]
def mgh16211 : aw_H := [(81, mgx16210)]
def mgx16212 : aw_A := ms_o [(0, 8)] [(0, 4)] ar_t32 ar_t32 [(0, 180)] [(47, 47)] [(34, 60)] [(1, 6)] [(3, 3)]
def mgh16213 : aw_H := [(81, mgx16212)]
def mgx16214 : aw_A := ms_o [(0, 8)] [(0, 4)] ar_t32 ar_t32 [(0, 180)] [(48, 48)] [(34, 60)] [(1, 6)] [(3, 3)]
def mgh16215 : aw_H := [(81, mgx16214)]
def mgx16216 : aw_A := ms_o [(0, 8)] [(0, 4)] ar_t32 ar_t32 [(0, 180)] [(49, 49)] [(34, 60)] [(1, 6)] [(3, 3)]
def mgh16217 : aw_H := [(81, mgx16216)]
def mgx16218 : aw_A := ms_o [(0, 8)] [(0, 4)] ar_t32 ar_t32 [(0, 180)] [(50, 50)] [(34, 60)] [(1, 6)] [(3, 3)]
def mgh16219 : aw_H := [(81, mgx16218)]
def mgx16220 : aw_A := ms_o [(0, 8)] [(0, 4)] ar_t32 ar_t32 [(0, 180)] [(51, 51)] [(34, 60)] [(1, 6)] [(3, 3)]
def mgh16221 : aw_H := [(81, mgx16220)]
def mgx16222 : aw_A := ms_o [(0, 8)] [(0, 4)] ar_t32 ar_t32 [(0, 180)] [(52, 52)] [(34, 60)] [(1, 6)] [(3, 3)]
def mgh16223 : aw_H := [(81, mgx16222)]
def mgx16224 : aw_A := ms_o [(0, 8)] [(0, 4)] ar_t32 ar_t32 [(0, 180)] [(53, 53)] [(34, 60)] [(1, 6)] [(3, 3)]
def mgh16225 : aw_H := [(81, mgx16224)]
def mgx16226 : aw_A := ms_o [(0, 8)] [(0, 4)] ar_t32 ar_t32 [(0, 180)] [(54, 54)] [(34, 60)] [(1, 6)] [(3, 3)]
def mgh16227 : aw_H := [(81, mgx16226)]
def mgx16228 : aw_A := ms_o [(0, 8)] [(0, 4)] ar_t32 ar_t32 [(0, 180)] [(55, 55)] [(34, 60)] [(1, 6)] [(3, 3)]
def mgh16229 : aw_H := [(81, mgx16228)]
def mgx16230 : aw_A := ms_o [(0, 8)] [(0, 4)] ar_t32 ar_t32 [(0, 180)] [(56, 56)] [(34, 60)] [(1, 6)] [(3, 3)]
def mgh16231 : aw_H := [(81, mgx16230)]
def mgx16232 : aw_A := ms_o [(0, 8)] [(0, 4)] ar_t32 ar_t32 [(0, 180)] [(57, 57)] [(34, 60)] [(1, 6)] [(3, 3)]
def mgh16233 : aw_H := [(81, mgx16232)]
def mgx16234 : aw_A := ms_o [(0, 8)] [(0, 4)] ar_t32 ar_t32 [(0, 180)] [(58, 58)] [(34, 60)] [(1, 6)] [(3, 3)]
def mgh16235 : aw_H := [(81, mgx16234)]
def mgx16236 : aw_A := ms_o [(0, 8)] [(0, 4)] ar_t32 ar_t32 [(0, 180)] [(59, 59)] [(34, 60)] [(1, 6)] [(3, 3)]
def mgh16237 : aw_H := [(81, mgx16236)]
def mgx16238 : aw_A := ms_o [(0, 8)] [(0, 4)] ar_t32 ar_t32 [(0, 180)] [(60, 60)] [(34, 60)] [(1, 6)] [(3, 3)]
def mgh16239 : aw_H := [(81, mgx16238)]
/-- MiceRegistersModel.skip -/
def mgh16240 : aw_H := [(81, mgx16184), (90, .inr (.inl (0, 240, [], [])))]
def mgc5543 : ak_C := (122, [.inl 81], mgh16240, [81], [([], none, mgh16187), ([], none, mgh16189), ([], none, mgh16191), ([], none, mgh16193), ([], none, mgh16195), ([], none, mgh16197), ([], none, mgh16199), ([], none, mgh16201), ([], none, mgh16203), ([], none, mgh16205), ([], none, mgh16207), ([], none, mgh16209), ([], none, mgh16211), ([], none, mgh16213), ([], none, mgh16215), ([], none, mgh16217), ([], none, mgh16219), ([], none, mgh16221), ([], none, mgh16223), ([], none, mgh16225), ([], none, mgh16227), ([], none, mgh16229), ([], none, mgh16231), ([], none, mgh16233), ([], none, mgh16235), ([], none, mgh16237), ([], none, mgh16239)])
/-- MiceRegistersModel.readsLine -/
def mgx16241 : aw_A := ms_o [(0, 8)] [(0, 4)] ar_t32 ar_t32 [(0, 180)] [(37, 37)] [(38, 60)] [(1, 6)] [(3, 3)]
def mgh16242 : aw_H := [(81, mgx16241)]
def mgc5556 : ak_C := (124, [.inl 81], mgh16242, [], [([], some (.inr (false, [(0, 0)])), [])])
theorem mgk5556 : ai_chk [] mgc5556 (fun pc => sm_ch sm_t124 pc, sm_Kn 3 3 none, fun x => sm_lk sm_ca3 x, some .boolean) [] 3 0 [] [] 2000 [] = true := by decide +kernel
def mgx16243 : aw_A := ms_o [(0, 8)] [(0, 4)] ar_t32 ar_t32 [(0, 180)] [(38, 38)] [(38, 60)] [(1, 6)] [(3, 3)]
def mgh16244 : aw_H := [(81, mgx16243)]
def mgx16245 : aw_A := ms_o [(0, 8)] [(0, 4)] ar_t32 ar_t32 [(0, 180)] [(39, 39)] [(39, 60)] [(1, 6)] [(3, 3)]
def mgh16246 : aw_H := [(81, mgx16245)]
/-- MiceRegistersModel.figure -/
def mgh16247 : aw_H := [(81, mgx16243), (90, .inr (.inl (0, 240, [], [])))]
def mgc5557 : ak_C := (125, [.inl 81, .inr (false, [(0, 0)]), .inr (false, [(0, 5)])], mgh16247, [81], [([], some (.inr (false, [(-9, -9)])), mgh16244), ([], some (.inr (false, [(0, 5)])), mgh16246)])
def mgx16248 : aw_A := ms_o [(0, 8)] [(0, 4)] ar_t32 ar_t32 [(0, 180)] [(40, 40)] [(40, 60)] [(1, 6)] [(3, 3)]
def mgh16249 : aw_H := [(81, mgx16248)]
/-- MiceRegistersModel.figure -/
def mgh16250 : aw_H := [(81, mgx16245), (90, .inr (.inl (0, 240, [], [])))]
def mgc5558 : ak_C := (125, [.inl 81, .inr (false, [(1, 1)]), .inr (false, [(9, 9)])], mgh16250, [81], [([], some (.inr (false, [(-9, -9)])), mgh16246), ([], some (.inr (false, [(1, 9)])), mgh16249)])
def mgh16251 : aw_H := [(81, mgx16241), (94, mgx6362)]
def mgx16252 : aw_A := ms_o [(0, 8)] [(0, 4)] ar_t32 ar_t32 [(0, 180)] [(40, 40)] [(40, 60)] [(1, 6)] [(4, 4)]
def mgh16253 : aw_H := [(81, mgx16252), (94, mgx6473)]
def mgh16254 : aw_H := [(81, mgx16245), (94, mgx6362)]
def mgh16255 : aw_H := [(81, mgx16243), (94, mgx6362)]
/-- MiceRegistersModel.readsMouse -/
def mgh16256 : aw_H := [(81, mgx16241), (90, .inr (.inl (0, 240, [], []))), (94, mgx6362)]
def mgc5559 : ak_C := (127, [.inl 81], mgh16256, [81, 94], [([], some (.inr (false, [(0, 0)])), mgh16251), ([], some (.inr (false, [(1, 1)])), mgh16253), ([], some (.inr (false, [(0, 0)])), mgh16254), ([], some (.inr (false, [(0, 0)])), mgh16255)])
theorem mgk5559 : ai_chk [mgc42, mgc147, mgc5557, mgc5558] mgc5559 (fun pc => sm_ch sm_t127 pc, sm_Kn 3 5 none, fun x => sm_lk sm_ca3 x, some .boolean) [81, 94] 5 0 [] [] 2000 [] = true := by decide +kernel
def mgh16257 : aw_H := [(81, mgx16252)]
def mgx16258 : aw_A := ms_o [(0, 8)] [(0, 4)] ar_t32 ar_t32 [(0, 180)] [(41, 41)] [(40, 60)] [(1, 6)] [(4, 4)]
def mgh16259 : aw_H := [(81, mgx16258)]
def mgx16260 : aw_A := ms_o [(0, 8)] [(0, 4)] ar_t32 ar_t32 [(0, 180)] [(42, 42)] [(40, 60)] [(1, 6)] [(4, 4)]
def mgh16261 : aw_H := [(81, mgx16260)]
def mgx16262 : aw_A := ms_o [(0, 8)] [(0, 4)] ar_t32 ar_t32 [(0, 180)] [(43, 43)] [(40, 60)] [(1, 6)] [(4, 4)]
def mgh16263 : aw_H := [(81, mgx16262)]
def mgx16264 : aw_A := ms_o [(0, 8)] [(0, 4)] ar_t32 ar_t32 [(0, 180)] [(44, 44)] [(40, 60)] [(1, 6)] [(4, 4)]
def mgh16265 : aw_H := [(81, mgx16264)]
def mgx16266 : aw_A := ms_o [(0, 8)] [(0, 4)] ar_t32 ar_t32 [(0, 180)] [(45, 45)] [(40, 60)] [(1, 6)] [(4, 4)]
def mgh16267 : aw_H := [(81, mgx16266)]
def mgx16268 : aw_A := ms_o [(0, 8)] [(0, 4)] ar_t32 ar_t32 [(0, 180)] [(46, 46)] [(40, 60)] [(1, 6)] [(4, 4)]
def mgh16269 : aw_H := [(81, mgx16268)]
def mgx16270 : aw_A := ms_o [(0, 8)] [(0, 4)] ar_t32 ar_t32 [(0, 180)] [(47, 47)] [(40, 60)] [(1, 6)] [(4, 4)]
def mgh16271 : aw_H := [(81, mgx16270)]
def mgx16272 : aw_A := ms_o [(0, 8)] [(0, 4)] ar_t32 ar_t32 [(0, 180)] [(48, 48)] [(40, 60)] [(1, 6)] [(4, 4)]
def mgh16273 : aw_H := [(81, mgx16272)]
def mgx16274 : aw_A := ms_o [(0, 8)] [(0, 4)] ar_t32 ar_t32 [(0, 180)] [(49, 49)] [(40, 60)] [(1, 6)] [(4, 4)]
def mgh16275 : aw_H := [(81, mgx16274)]
def mgx16276 : aw_A := ms_o [(0, 8)] [(0, 4)] ar_t32 ar_t32 [(0, 180)] [(50, 50)] [(40, 60)] [(1, 6)] [(4, 4)]
def mgh16277 : aw_H := [(81, mgx16276)]
def mgx16278 : aw_A := ms_o [(0, 8)] [(0, 4)] ar_t32 ar_t32 [(0, 180)] [(51, 51)] [(40, 60)] [(1, 6)] [(4, 4)]
def mgh16279 : aw_H := [(81, mgx16278)]
def mgx16280 : aw_A := ms_o [(0, 8)] [(0, 4)] ar_t32 ar_t32 [(0, 180)] [(52, 52)] [(40, 60)] [(1, 6)] [(4, 4)]
def mgh16281 : aw_H := [(81, mgx16280)]
def mgx16282 : aw_A := ms_o [(0, 8)] [(0, 4)] ar_t32 ar_t32 [(0, 180)] [(53, 53)] [(40, 60)] [(1, 6)] [(4, 4)]
def mgh16283 : aw_H := [(81, mgx16282)]
def mgx16284 : aw_A := ms_o [(0, 8)] [(0, 4)] ar_t32 ar_t32 [(0, 180)] [(54, 54)] [(40, 60)] [(1, 6)] [(4, 4)]
def mgh16285 : aw_H := [(81, mgx16284)]
def mgx16286 : aw_A := ms_o [(0, 8)] [(0, 4)] ar_t32 ar_t32 [(0, 180)] [(55, 55)] [(40, 60)] [(1, 6)] [(4, 4)]
def mgh16287 : aw_H := [(81, mgx16286)]
def mgx16288 : aw_A := ms_o [(0, 8)] [(0, 4)] ar_t32 ar_t32 [(0, 180)] [(56, 56)] [(40, 60)] [(1, 6)] [(4, 4)]
def mgh16289 : aw_H := [(81, mgx16288)]
def mgx16290 : aw_A := ms_o [(0, 8)] [(0, 4)] ar_t32 ar_t32 [(0, 180)] [(57, 57)] [(40, 60)] [(1, 6)] [(4, 4)]
def mgh16291 : aw_H := [(81, mgx16290)]
def mgx16292 : aw_A := ms_o [(0, 8)] [(0, 4)] ar_t32 ar_t32 [(0, 180)] [(58, 58)] [(40, 60)] [(1, 6)] [(4, 4)]
def mgh16293 : aw_H := [(81, mgx16292)]
def mgx16294 : aw_A := ms_o [(0, 8)] [(0, 4)] ar_t32 ar_t32 [(0, 180)] [(59, 59)] [(40, 60)] [(1, 6)] [(4, 4)]
def mgh16295 : aw_H := [(81, mgx16294)]
def mgx16296 : aw_A := ms_o [(0, 8)] [(0, 4)] ar_t32 ar_t32 [(0, 180)] [(60, 60)] [(40, 60)] [(1, 6)] [(4, 4)]
def mgh16297 : aw_H := [(81, mgx16296)]
/-- MiceRegistersModel.skip -/
def mgh16298 : aw_H := [(81, mgx16252), (90, .inr (.inl (0, 240, [], [])))]
def mgc6087 : ak_C := (122, [.inl 81], mgh16298, [81], [([], none, mgh16257), ([], none, mgh16259), ([], none, mgh16261), ([], none, mgh16263), ([], none, mgh16265), ([], none, mgh16267), ([], none, mgh16269), ([], none, mgh16271), ([], none, mgh16273), ([], none, mgh16275), ([], none, mgh16277), ([], none, mgh16279), ([], none, mgh16281), ([], none, mgh16283), ([], none, mgh16285), ([], none, mgh16287), ([], none, mgh16289), ([], none, mgh16291), ([], none, mgh16293), ([], none, mgh16295), ([], none, mgh16297)])
/-- MiceRegistersModel.readsLine -/
def mgx16299 : aw_A := ms_o [(0, 8)] [(0, 4)] ar_t32 ar_t32 [(0, 180)] [(35, 35)] [(36, 60)] [(1, 6)] [(3, 3)]
def mgh16300 : aw_H := [(81, mgx16299)]
def mgc5548 : ak_C := (124, [.inl 81], mgh16300, [], [([], some (.inr (false, [(0, 0)])), [])])
theorem mgk5548 : ai_chk [] mgc5548 (fun pc => sm_ch sm_t124 pc, sm_Kn 3 3 none, fun x => sm_lk sm_ca3 x, some .boolean) [] 3 0 [] [] 2000 [] = true := by decide +kernel
/-- MiceRegistersModel.figure -/
def mgc5549 : ak_C := (125, [.inl 81, .inr (false, [(0, 0)]), .inr (false, [(0, 5)])], mgh15523, [81], [([], some (.inr (false, [(-9, -9)])), mgh15474), ([], some (.inr (false, [(0, 5)])), mgh15586)])
/-- MiceRegistersModel.figure -/
def mgc5550 : ak_C := (125, [.inl 81, .inr (false, [(1, 1)]), .inr (false, [(9, 9)])], mgh15633, [81], [([], some (.inr (false, [(-9, -9)])), mgh15586), ([], some (.inr (false, [(1, 9)])), mgh16244)])
def mgh16301 : aw_H := [(81, mgx16299), (94, mgx6362)]
def mgx16302 : aw_A := ms_o [(0, 8)] [(0, 4)] ar_t32 ar_t32 [(0, 180)] [(38, 38)] [(38, 60)] [(1, 6)] [(4, 4)]
def mgh16303 : aw_H := [(81, mgx16302), (94, mgx6473)]
/-- MiceRegistersModel.readsMouse -/
def mgh16304 : aw_H := [(81, mgx16299), (90, .inr (.inl (0, 240, [], []))), (94, mgx6362)]
def mgc5551 : ak_C := (127, [.inl 81], mgh16304, [81, 94], [([], some (.inr (false, [(0, 0)])), mgh16301), ([], some (.inr (false, [(1, 1)])), mgh16303), ([], some (.inr (false, [(0, 0)])), mgh15583), ([], some (.inr (false, [(0, 0)])), mgh15471)])
theorem mgk5551 : ai_chk [mgc44, mgc147, mgc5549, mgc5550] mgc5551 (fun pc => sm_ch sm_t127 pc, sm_Kn 3 5 none, fun x => sm_lk sm_ca3 x, some .boolean) [81, 94] 5 0 [] [] 2000 [] = true := by decide +kernel
def mgh16305 : aw_H := [(81, mgx16302)]
def mgx16306 : aw_A := ms_o [(0, 8)] [(0, 4)] ar_t32 ar_t32 [(0, 180)] [(39, 39)] [(38, 60)] [(1, 6)] [(4, 4)]
def mgh16307 : aw_H := [(81, mgx16306)]
def mgx16308 : aw_A := ms_o [(0, 8)] [(0, 4)] ar_t32 ar_t32 [(0, 180)] [(40, 40)] [(38, 60)] [(1, 6)] [(4, 4)]
def mgh16309 : aw_H := [(81, mgx16308)]
def mgx16310 : aw_A := ms_o [(0, 8)] [(0, 4)] ar_t32 ar_t32 [(0, 180)] [(41, 41)] [(38, 60)] [(1, 6)] [(4, 4)]
def mgh16311 : aw_H := [(81, mgx16310)]
def mgx16312 : aw_A := ms_o [(0, 8)] [(0, 4)] ar_t32 ar_t32 [(0, 180)] [(42, 42)] [(38, 60)] [(1, 6)] [(4, 4)]
def mgh16313 : aw_H := [(81, mgx16312)]
def mgx16314 : aw_A := ms_o [(0, 8)] [(0, 4)] ar_t32 ar_t32 [(0, 180)] [(43, 43)] [(38, 60)] [(1, 6)] [(4, 4)]
def mgh16315 : aw_H := [(81, mgx16314)]
def mgx16316 : aw_A := ms_o [(0, 8)] [(0, 4)] ar_t32 ar_t32 [(0, 180)] [(44, 44)] [(38, 60)] [(1, 6)] [(4, 4)]
def mgh16317 : aw_H := [(81, mgx16316)]
def mgx16318 : aw_A := ms_o [(0, 8)] [(0, 4)] ar_t32 ar_t32 [(0, 180)] [(45, 45)] [(38, 60)] [(1, 6)] [(4, 4)]
def mgh16319 : aw_H := [(81, mgx16318)]
def mgx16320 : aw_A := ms_o [(0, 8)] [(0, 4)] ar_t32 ar_t32 [(0, 180)] [(46, 46)] [(38, 60)] [(1, 6)] [(4, 4)]
def mgh16321 : aw_H := [(81, mgx16320)]
def mgx16322 : aw_A := ms_o [(0, 8)] [(0, 4)] ar_t32 ar_t32 [(0, 180)] [(47, 47)] [(38, 60)] [(1, 6)] [(4, 4)]
def mgh16323 : aw_H := [(81, mgx16322)]
def mgx16324 : aw_A := ms_o [(0, 8)] [(0, 4)] ar_t32 ar_t32 [(0, 180)] [(48, 48)] [(38, 60)] [(1, 6)] [(4, 4)]
def mgh16325 : aw_H := [(81, mgx16324)]
def mgx16326 : aw_A := ms_o [(0, 8)] [(0, 4)] ar_t32 ar_t32 [(0, 180)] [(49, 49)] [(38, 60)] [(1, 6)] [(4, 4)]
def mgh16327 : aw_H := [(81, mgx16326)]
def mgx16328 : aw_A := ms_o [(0, 8)] [(0, 4)] ar_t32 ar_t32 [(0, 180)] [(50, 50)] [(38, 60)] [(1, 6)] [(4, 4)]
def mgh16329 : aw_H := [(81, mgx16328)]
def mgx16330 : aw_A := ms_o [(0, 8)] [(0, 4)] ar_t32 ar_t32 [(0, 180)] [(51, 51)] [(38, 60)] [(1, 6)] [(4, 4)]
def mgh16331 : aw_H := [(81, mgx16330)]
def mgx16332 : aw_A := ms_o [(0, 8)] [(0, 4)] ar_t32 ar_t32 [(0, 180)] [(52, 52)] [(38, 60)] [(1, 6)] [(4, 4)]
def mgh16333 : aw_H := [(81, mgx16332)]
def mgx16334 : aw_A := ms_o [(0, 8)] [(0, 4)] ar_t32 ar_t32 [(0, 180)] [(53, 53)] [(38, 60)] [(1, 6)] [(4, 4)]
def mgh16335 : aw_H := [(81, mgx16334)]
def mgx16336 : aw_A := ms_o [(0, 8)] [(0, 4)] ar_t32 ar_t32 [(0, 180)] [(54, 54)] [(38, 60)] [(1, 6)] [(4, 4)]
def mgh16337 : aw_H := [(81, mgx16336)]
def mgx16338 : aw_A := ms_o [(0, 8)] [(0, 4)] ar_t32 ar_t32 [(0, 180)] [(55, 55)] [(38, 60)] [(1, 6)] [(4, 4)]
def mgh16339 : aw_H := [(81, mgx16338)]
def mgx16340 : aw_A := ms_o [(0, 8)] [(0, 4)] ar_t32 ar_t32 [(0, 180)] [(56, 56)] [(38, 60)] [(1, 6)] [(4, 4)]
def mgh16341 : aw_H := [(81, mgx16340)]
def mgx16342 : aw_A := ms_o [(0, 8)] [(0, 4)] ar_t32 ar_t32 [(0, 180)] [(57, 57)] [(38, 60)] [(1, 6)] [(4, 4)]
def mgh16343 : aw_H := [(81, mgx16342)]
def mgx16344 : aw_A := ms_o [(0, 8)] [(0, 4)] ar_t32 ar_t32 [(0, 180)] [(58, 58)] [(38, 60)] [(1, 6)] [(4, 4)]
def mgh16345 : aw_H := [(81, mgx16344)]
def mgx16346 : aw_A := ms_o [(0, 8)] [(0, 4)] ar_t32 ar_t32 [(0, 180)] [(59, 59)] [(38, 60)] [(1, 6)] [(4, 4)]
def mgh16347 : aw_H := [(81, mgx16346)]
def mgx16348 : aw_A := ms_o [(0, 8)] [(0, 4)] ar_t32 ar_t32 [(0, 180)] [(60, 60)] [(38, 60)] [(1, 6)] [(4, 4)]
def mgh16349 : aw_H := [(81, mgx16348)]
/-- MiceRegistersModel.skip -/
def mgh16350 : aw_H := [(81, mgx16302), (90, .inr (.inl (0, 240, [], [])))]
def mgc5994 : ak_C := (122, [.inl 81], mgh16350, [81], [([], none, mgh16305), ([], none, mgh16307), ([], none, mgh16309), ([], none, mgh16311), ([], none, mgh16313), ([], none, mgh16315), ([], none, mgh16317), ([], none, mgh16319), ([], none, mgh16321), ([], none, mgh16323), ([], none, mgh16325), ([], none, mgh16327), ([], none, mgh16329), ([], none, mgh16331), ([], none, mgh16333), ([], none, mgh16335), ([], none, mgh16337), ([], none, mgh16339), ([], none, mgh16341), ([], none, mgh16343), ([], none, mgh16345), ([], none, mgh16347), ([], none, mgh16349)])
/-- MiceRegistersModel.readsLine -/
def mgx16351 : aw_A := ms_o [(0, 8)] [(0, 4)] ar_t32 ar_t32 [(0, 180)] [(38, 38)] [(39, 60)] [(1, 7)] [(3, 3)]
def mgh16352 : aw_H := [(81, mgx16351)]
def mgc5907 : ak_C := (124, [.inl 81], mgh16352, [], [([], some (.inr (false, [(0, 0)])), [])])
theorem mgk5907 : ai_chk [] mgc5907 (fun pc => sm_ch sm_t124 pc, sm_Kn 3 3 none, fun x => sm_lk sm_ca3 x, some .boolean) [] 3 0 [] [] 2000 [] = true := by decide +kernel
/-- MiceRegistersModel.figure -/
def mgc5908 : ak_C := (125, [.inl 81, .inr (false, [(0, 0)]), .inr (false, [(0, 6)])], mgh15683, [81], [([], some (.inr (false, [(-9, -9)])), mgh15640), ([], some (.inr (false, [(0, 6)])), mgh15370)])
/-- MiceRegistersModel.figure -/
def mgc5909 : ak_C := (125, [.inl 81, .inr (false, [(1, 1)]), .inr (false, [(9, 9)])], mgh15411, [81], [([], some (.inr (false, [(-9, -9)])), mgh15370), ([], some (.inr (false, [(1, 9)])), mgh15422)])
def mgh16353 : aw_H := [(81, mgx16351), (94, mgx6362)]
def mgx16354 : aw_A := ms_o [(0, 8)] [(0, 4)] ar_t32 ar_t32 [(0, 180)] [(41, 41)] [(41, 60)] [(1, 7)] [(4, 4)]
def mgh16355 : aw_H := [(81, mgx16354), (94, mgx6473)]
/-- MiceRegistersModel.readsMouse -/
def mgh16356 : aw_H := [(81, mgx16351), (90, .inr (.inl (0, 240, [], []))), (94, mgx6362)]
def mgc5910 : ak_C := (127, [.inl 81], mgh16356, [81, 94], [([], some (.inr (false, [(0, 0)])), mgh16353), ([], some (.inr (false, [(1, 1)])), mgh16355), ([], some (.inr (false, [(0, 0)])), mgh15367), ([], some (.inr (false, [(0, 0)])), mgh15638)])
theorem mgk5910 : ai_chk [mgc41, mgc147, mgc5908, mgc5909] mgc5910 (fun pc => sm_ch sm_t127 pc, sm_Kn 3 5 none, fun x => sm_lk sm_ca3 x, some .boolean) [81, 94] 5 0 [] [] 2000 [] = true := by decide +kernel
def mgh16357 : aw_H := [(81, mgx16354)]
def mgx16358 : aw_A := ms_o [(0, 8)] [(0, 4)] ar_t32 ar_t32 [(0, 180)] [(42, 42)] [(41, 60)] [(1, 7)] [(4, 4)]
def mgh16359 : aw_H := [(81, mgx16358)]
def mgx16360 : aw_A := ms_o [(0, 8)] [(0, 4)] ar_t32 ar_t32 [(0, 180)] [(43, 43)] [(41, 60)] [(1, 7)] [(4, 4)]
def mgh16361 : aw_H := [(81, mgx16360)]
def mgx16362 : aw_A := ms_o [(0, 8)] [(0, 4)] ar_t32 ar_t32 [(0, 180)] [(44, 44)] [(41, 60)] [(1, 7)] [(4, 4)]
def mgh16363 : aw_H := [(81, mgx16362)]
def mgx16364 : aw_A := ms_o [(0, 8)] [(0, 4)] ar_t32 ar_t32 [(0, 180)] [(45, 45)] [(41, 60)] [(1, 7)] [(4, 4)]
def mgh16365 : aw_H := [(81, mgx16364)]
def mgx16366 : aw_A := ms_o [(0, 8)] [(0, 4)] ar_t32 ar_t32 [(0, 180)] [(46, 46)] [(41, 60)] [(1, 7)] [(4, 4)]
def mgh16367 : aw_H := [(81, mgx16366)]
def mgx16368 : aw_A := ms_o [(0, 8)] [(0, 4)] ar_t32 ar_t32 [(0, 180)] [(47, 47)] [(41, 60)] [(1, 7)] [(4, 4)]
def mgh16369 : aw_H := [(81, mgx16368)]
def mgx16370 : aw_A := ms_o [(0, 8)] [(0, 4)] ar_t32 ar_t32 [(0, 180)] [(48, 48)] [(41, 60)] [(1, 7)] [(4, 4)]
def mgh16371 : aw_H := [(81, mgx16370)]
def mgx16372 : aw_A := ms_o [(0, 8)] [(0, 4)] ar_t32 ar_t32 [(0, 180)] [(49, 49)] [(41, 60)] [(1, 7)] [(4, 4)]
def mgh16373 : aw_H := [(81, mgx16372)]
def mgx16374 : aw_A := ms_o [(0, 8)] [(0, 4)] ar_t32 ar_t32 [(0, 180)] [(50, 50)] [(41, 60)] [(1, 7)] [(4, 4)]
def mgh16375 : aw_H := [(81, mgx16374)]
def mgx16376 : aw_A := ms_o [(0, 8)] [(0, 4)] ar_t32 ar_t32 [(0, 180)] [(51, 51)] [(41, 60)] [(1, 7)] [(4, 4)]
def mgh16377 : aw_H := [(81, mgx16376)]
def mgx16378 : aw_A := ms_o [(0, 8)] [(0, 4)] ar_t32 ar_t32 [(0, 180)] [(52, 52)] [(41, 60)] [(1, 7)] [(4, 4)]
def mgh16379 : aw_H := [(81, mgx16378)]
def mgx16380 : aw_A := ms_o [(0, 8)] [(0, 4)] ar_t32 ar_t32 [(0, 180)] [(53, 53)] [(41, 60)] [(1, 7)] [(4, 4)]
def mgh16381 : aw_H := [(81, mgx16380)]
def mgx16382 : aw_A := ms_o [(0, 8)] [(0, 4)] ar_t32 ar_t32 [(0, 180)] [(54, 54)] [(41, 60)] [(1, 7)] [(4, 4)]
def mgh16383 : aw_H := [(81, mgx16382)]
def mgx16384 : aw_A := ms_o [(0, 8)] [(0, 4)] ar_t32 ar_t32 [(0, 180)] [(55, 55)] [(41, 60)] [(1, 7)] [(4, 4)]
def mgh16385 : aw_H := [(81, mgx16384)]
def mgx16386 : aw_A := ms_o [(0, 8)] [(0, 4)] ar_t32 ar_t32 [(0, 180)] [(56, 56)] [(41, 60)] [(1, 7)] [(4, 4)]
def mgh16387 : aw_H := [(81, mgx16386)]
def mgx16388 : aw_A := ms_o [(0, 8)] [(0, 4)] ar_t32 ar_t32 [(0, 180)] [(57, 57)] [(41, 60)] [(1, 7)] [(4, 4)]
def mgh16389 : aw_H := [(81, mgx16388)]
def mgx16390 : aw_A := ms_o [(0, 8)] [(0, 4)] ar_t32 ar_t32 [(0, 180)] [(58, 58)] [(41, 60)] [(1, 7)] [(4, 4)]
def mgh16391 : aw_H := [(81, mgx16390)]
def mgx16392 : aw_A := ms_o [(0, 8)] [(0, 4)] ar_t32 ar_t32 [(0, 180)] [(59, 59)] [(41, 60)] [(1, 7)] [(4, 4)]
def mgh16393 : aw_H := [(81, mgx16392)]
def mgx16394 : aw_A := ms_o [(0, 8)] [(0, 4)] ar_t32 ar_t32 [(0, 180)] [(60, 60)] [(41, 60)] [(1, 7)] [(4, 4)]
def mgh16395 : aw_H := [(81, mgx16394)]
/-- MiceRegistersModel.skip -/
def mgh16396 : aw_H := [(81, mgx16354), (90, .inr (.inl (0, 240, [], [])))]
def mgc6092 : ak_C := (122, [.inl 81], mgh16396, [81], [([], none, mgh16357), ([], none, mgh16359), ([], none, mgh16361), ([], none, mgh16363), ([], none, mgh16365), ([], none, mgh16367), ([], none, mgh16369), ([], none, mgh16371), ([], none, mgh16373), ([], none, mgh16375), ([], none, mgh16377), ([], none, mgh16379), ([], none, mgh16381), ([], none, mgh16383), ([], none, mgh16385), ([], none, mgh16387), ([], none, mgh16389), ([], none, mgh16391), ([], none, mgh16393), ([], none, mgh16395)])
/-- MiceRegistersModel.readsLine -/
def mgx16397 : aw_A := ms_o [(0, 8)] [(0, 4)] ar_t32 ar_t32 [(0, 180)] [(39, 39)] [(40, 60)] [(1, 7)] [(3, 3)]
def mgh16398 : aw_H := [(81, mgx16397)]
def mgc5911 : ak_C := (124, [.inl 81], mgh16398, [], [([], some (.inr (false, [(0, 0)])), [])])
theorem mgk5911 : ai_chk [] mgc5911 (fun pc => sm_ch sm_t124 pc, sm_Kn 3 3 none, fun x => sm_lk sm_ca3 x, some .boolean) [] 3 0 [] [] 2000 [] = true := by decide +kernel
/-- MiceRegistersModel.figure -/
def mgc5912 : ak_C := (125, [.inl 81, .inr (false, [(0, 0)]), .inr (false, [(0, 6)])], mgh15411, [81], [([], some (.inr (false, [(-9, -9)])), mgh15370), ([], some (.inr (false, [(0, 6)])), mgh15422)])
def mgx16399 : aw_A := ms_o [(0, 8)] [(0, 4)] ar_t32 ar_t32 [(0, 180)] [(42, 42)] [(42, 60)] [(1, 7)] [(3, 3)]
def mgh16400 : aw_H := [(81, mgx16399)]
/-- MiceRegistersModel.figure -/
def mgc5913 : ak_C := (125, [.inl 81, .inr (false, [(1, 1)]), .inr (false, [(9, 9)])], mgh15461, [81], [([], some (.inr (false, [(-9, -9)])), mgh15422), ([], some (.inr (false, [(1, 9)])), mgh16400)])
def mgh16401 : aw_H := [(81, mgx16397), (94, mgx6362)]
def mgx16402 : aw_A := ms_o [(0, 8)] [(0, 4)] ar_t32 ar_t32 [(0, 180)] [(42, 42)] [(42, 60)] [(1, 7)] [(4, 4)]
def mgh16403 : aw_H := [(81, mgx16402), (94, mgx6473)]
/-- MiceRegistersModel.readsMouse -/
def mgh16404 : aw_H := [(81, mgx16397), (90, .inr (.inl (0, 240, [], []))), (94, mgx6362)]
def mgc5914 : ak_C := (127, [.inl 81], mgh16404, [81, 94], [([], some (.inr (false, [(0, 0)])), mgh16401), ([], some (.inr (false, [(1, 1)])), mgh16403), ([], some (.inr (false, [(0, 0)])), mgh15419), ([], some (.inr (false, [(0, 0)])), mgh15367)])
theorem mgk5914 : ai_chk [mgc40, mgc147, mgc5912, mgc5913] mgc5914 (fun pc => sm_ch sm_t127 pc, sm_Kn 3 5 none, fun x => sm_lk sm_ca3 x, some .boolean) [81, 94] 5 0 [] [] 2000 [] = true := by decide +kernel
def mgh16405 : aw_H := [(81, mgx16402)]
def mgx16406 : aw_A := ms_o [(0, 8)] [(0, 4)] ar_t32 ar_t32 [(0, 180)] [(43, 43)] [(42, 60)] [(1, 7)] [(4, 4)]
def mgh16407 : aw_H := [(81, mgx16406)]
def mgx16408 : aw_A := ms_o [(0, 8)] [(0, 4)] ar_t32 ar_t32 [(0, 180)] [(44, 44)] [(42, 60)] [(1, 7)] [(4, 4)]
def mgh16409 : aw_H := [(81, mgx16408)]
def mgx16410 : aw_A := ms_o [(0, 8)] [(0, 4)] ar_t32 ar_t32 [(0, 180)] [(45, 45)] [(42, 60)] [(1, 7)] [(4, 4)]
def mgh16411 : aw_H := [(81, mgx16410)]
def mgx16412 : aw_A := ms_o [(0, 8)] [(0, 4)] ar_t32 ar_t32 [(0, 180)] [(46, 46)] [(42, 60)] [(1, 7)] [(4, 4)]
def mgh16413 : aw_H := [(81, mgx16412)]
def mgx16414 : aw_A := ms_o [(0, 8)] [(0, 4)] ar_t32 ar_t32 [(0, 180)] [(47, 47)] [(42, 60)] [(1, 7)] [(4, 4)]
def mgh16415 : aw_H := [(81, mgx16414)]
def mgx16416 : aw_A := ms_o [(0, 8)] [(0, 4)] ar_t32 ar_t32 [(0, 180)] [(48, 48)] [(42, 60)] [(1, 7)] [(4, 4)]
def mgh16417 : aw_H := [(81, mgx16416)]
def mgx16418 : aw_A := ms_o [(0, 8)] [(0, 4)] ar_t32 ar_t32 [(0, 180)] [(49, 49)] [(42, 60)] [(1, 7)] [(4, 4)]
def mgh16419 : aw_H := [(81, mgx16418)]
def mgx16420 : aw_A := ms_o [(0, 8)] [(0, 4)] ar_t32 ar_t32 [(0, 180)] [(50, 50)] [(42, 60)] [(1, 7)] [(4, 4)]
def mgh16421 : aw_H := [(81, mgx16420)]
def mgx16422 : aw_A := ms_o [(0, 8)] [(0, 4)] ar_t32 ar_t32 [(0, 180)] [(51, 51)] [(42, 60)] [(1, 7)] [(4, 4)]
def mgh16423 : aw_H := [(81, mgx16422)]
def mgx16424 : aw_A := ms_o [(0, 8)] [(0, 4)] ar_t32 ar_t32 [(0, 180)] [(52, 52)] [(42, 60)] [(1, 7)] [(4, 4)]
def mgh16425 : aw_H := [(81, mgx16424)]
def mgx16426 : aw_A := ms_o [(0, 8)] [(0, 4)] ar_t32 ar_t32 [(0, 180)] [(53, 53)] [(42, 60)] [(1, 7)] [(4, 4)]
def mgh16427 : aw_H := [(81, mgx16426)]
def mgx16428 : aw_A := ms_o [(0, 8)] [(0, 4)] ar_t32 ar_t32 [(0, 180)] [(54, 54)] [(42, 60)] [(1, 7)] [(4, 4)]
def mgh16429 : aw_H := [(81, mgx16428)]
def mgx16430 : aw_A := ms_o [(0, 8)] [(0, 4)] ar_t32 ar_t32 [(0, 180)] [(55, 55)] [(42, 60)] [(1, 7)] [(4, 4)]
def mgh16431 : aw_H := [(81, mgx16430)]
def mgx16432 : aw_A := ms_o [(0, 8)] [(0, 4)] ar_t32 ar_t32 [(0, 180)] [(56, 56)] [(42, 60)] [(1, 7)] [(4, 4)]
def mgh16433 : aw_H := [(81, mgx16432)]
def mgx16434 : aw_A := ms_o [(0, 8)] [(0, 4)] ar_t32 ar_t32 [(0, 180)] [(57, 57)] [(42, 60)] [(1, 7)] [(4, 4)]
def mgh16435 : aw_H := [(81, mgx16434)]
def mgx16436 : aw_A := ms_o [(0, 8)] [(0, 4)] ar_t32 ar_t32 [(0, 180)] [(58, 58)] [(42, 60)] [(1, 7)] [(4, 4)]
def mgh16437 : aw_H := [(81, mgx16436)]
def mgx16438 : aw_A := ms_o [(0, 8)] [(0, 4)] ar_t32 ar_t32 [(0, 180)] [(59, 59)] [(42, 60)] [(1, 7)] [(4, 4)]
def mgh16439 : aw_H := [(81, mgx16438)]
def mgx16440 : aw_A := ms_o [(0, 8)] [(0, 4)] ar_t32 ar_t32 [(0, 180)] [(60, 60)] [(42, 60)] [(1, 7)] [(4, 4)]
def mgh16441 : aw_H := [(81, mgx16440)]
/-- MiceRegistersModel.skip -/
def mgh16442 : aw_H := [(81, mgx16402), (90, .inr (.inl (0, 240, [], [])))]
def mgc6206 : ak_C := (122, [.inl 81], mgh16442, [81], [([], none, mgh16405), ([], none, mgh16407), ([], none, mgh16409), ([], none, mgh16411), ([], none, mgh16413), ([], none, mgh16415), ([], none, mgh16417), ([], none, mgh16419), ([], none, mgh16421), ([], none, mgh16423), ([], none, mgh16425), ([], none, mgh16427), ([], none, mgh16429), ([], none, mgh16431), ([], none, mgh16433), ([], none, mgh16435), ([], none, mgh16437), ([], none, mgh16439), ([], none, mgh16441)])
/-- MiceRegistersModel.readsLine -/
def mgx16443 : aw_A := ms_o [(0, 8)] [(0, 4)] ar_t32 ar_t32 [(0, 180)] [(36, 36)] [(37, 60)] [(1, 6)] [(3, 3)]
def mgh16444 : aw_H := [(81, mgx16443)]
def mgc5552 : ak_C := (124, [.inl 81], mgh16444, [], [([], some (.inr (false, [(0, 0)])), [])])
theorem mgk5552 : ai_chk [] mgc5552 (fun pc => sm_ch sm_t124 pc, sm_Kn 3 3 none, fun x => sm_lk sm_ca3 x, some .boolean) [] 3 0 [] [] 2000 [] = true := by decide +kernel
/-- MiceRegistersModel.figure -/
def mgc5553 : ak_C := (125, [.inl 81, .inr (false, [(0, 0)]), .inr (false, [(0, 5)])], mgh15633, [81], [([], some (.inr (false, [(-9, -9)])), mgh15586), ([], some (.inr (false, [(0, 5)])), mgh16244)])
/-- MiceRegistersModel.figure -/
def mgc5554 : ak_C := (125, [.inl 81, .inr (false, [(1, 1)]), .inr (false, [(9, 9)])], mgh16247, [81], [([], some (.inr (false, [(-9, -9)])), mgh16244), ([], some (.inr (false, [(1, 9)])), mgh16246)])
def mgh16445 : aw_H := [(81, mgx16443), (94, mgx6362)]
def mgx16446 : aw_A := ms_o [(0, 8)] [(0, 4)] ar_t32 ar_t32 [(0, 180)] [(39, 39)] [(39, 60)] [(1, 6)] [(4, 4)]
def mgh16447 : aw_H := [(81, mgx16446), (94, mgx6473)]
/-- MiceRegistersModel.readsMouse -/
def mgh16448 : aw_H := [(81, mgx16443), (90, .inr (.inl (0, 240, [], []))), (94, mgx6362)]
def mgc5555 : ak_C := (127, [.inl 81], mgh16448, [81, 94], [([], some (.inr (false, [(0, 0)])), mgh16445), ([], some (.inr (false, [(1, 1)])), mgh16447), ([], some (.inr (false, [(0, 0)])), mgh16255), ([], some (.inr (false, [(0, 0)])), mgh15583)])
theorem mgk5555 : ai_chk [mgc43, mgc147, mgc5553, mgc5554] mgc5555 (fun pc => sm_ch sm_t127 pc, sm_Kn 3 5 none, fun x => sm_lk sm_ca3 x, some .boolean) [81, 94] 5 0 [] [] 2000 [] = true := by decide +kernel
def mgh16449 : aw_H := [(81, mgx16446)]
def mgx16450 : aw_A := ms_o [(0, 8)] [(0, 4)] ar_t32 ar_t32 [(0, 180)] [(40, 40)] [(39, 60)] [(1, 6)] [(4, 4)]
def mgh16451 : aw_H := [(81, mgx16450)]
def mgx16452 : aw_A := ms_o [(0, 8)] [(0, 4)] ar_t32 ar_t32 [(0, 180)] [(41, 41)] [(39, 60)] [(1, 6)] [(4, 4)]
def mgh16453 : aw_H := [(81, mgx16452)]
def mgx16454 : aw_A := ms_o [(0, 8)] [(0, 4)] ar_t32 ar_t32 [(0, 180)] [(42, 42)] [(39, 60)] [(1, 6)] [(4, 4)]
def mgh16455 : aw_H := [(81, mgx16454)]
def mgx16456 : aw_A := ms_o [(0, 8)] [(0, 4)] ar_t32 ar_t32 [(0, 180)] [(43, 43)] [(39, 60)] [(1, 6)] [(4, 4)]
def mgh16457 : aw_H := [(81, mgx16456)]
def mgx16458 : aw_A := ms_o [(0, 8)] [(0, 4)] ar_t32 ar_t32 [(0, 180)] [(44, 44)] [(39, 60)] [(1, 6)] [(4, 4)]
def mgh16459 : aw_H := [(81, mgx16458)]
def mgx16460 : aw_A := ms_o [(0, 8)] [(0, 4)] ar_t32 ar_t32 [(0, 180)] [(45, 45)] [(39, 60)] [(1, 6)] [(4, 4)]
def mgh16461 : aw_H := [(81, mgx16460)]
def mgx16462 : aw_A := ms_o [(0, 8)] [(0, 4)] ar_t32 ar_t32 [(0, 180)] [(46, 46)] [(39, 60)] [(1, 6)] [(4, 4)]
def mgh16463 : aw_H := [(81, mgx16462)]
def mgx16464 : aw_A := ms_o [(0, 8)] [(0, 4)] ar_t32 ar_t32 [(0, 180)] [(47, 47)] [(39, 60)] [(1, 6)] [(4, 4)]
def mgh16465 : aw_H := [(81, mgx16464)]
def mgx16466 : aw_A := ms_o [(0, 8)] [(0, 4)] ar_t32 ar_t32 [(0, 180)] [(48, 48)] [(39, 60)] [(1, 6)] [(4, 4)]
def mgh16467 : aw_H := [(81, mgx16466)]
def mgx16468 : aw_A := ms_o [(0, 8)] [(0, 4)] ar_t32 ar_t32 [(0, 180)] [(49, 49)] [(39, 60)] [(1, 6)] [(4, 4)]
def mgh16469 : aw_H := [(81, mgx16468)]
def mgx16470 : aw_A := ms_o [(0, 8)] [(0, 4)] ar_t32 ar_t32 [(0, 180)] [(50, 50)] [(39, 60)] [(1, 6)] [(4, 4)]
def mgh16471 : aw_H := [(81, mgx16470)]
def mgx16472 : aw_A := ms_o [(0, 8)] [(0, 4)] ar_t32 ar_t32 [(0, 180)] [(51, 51)] [(39, 60)] [(1, 6)] [(4, 4)]
def mgh16473 : aw_H := [(81, mgx16472)]
def mgx16474 : aw_A := ms_o [(0, 8)] [(0, 4)] ar_t32 ar_t32 [(0, 180)] [(52, 52)] [(39, 60)] [(1, 6)] [(4, 4)]
def mgh16475 : aw_H := [(81, mgx16474)]
def mgx16476 : aw_A := ms_o [(0, 8)] [(0, 4)] ar_t32 ar_t32 [(0, 180)] [(53, 53)] [(39, 60)] [(1, 6)] [(4, 4)]
def mgh16477 : aw_H := [(81, mgx16476)]
def mgx16478 : aw_A := ms_o [(0, 8)] [(0, 4)] ar_t32 ar_t32 [(0, 180)] [(54, 54)] [(39, 60)] [(1, 6)] [(4, 4)]
def mgh16479 : aw_H := [(81, mgx16478)]
def mgx16480 : aw_A := ms_o [(0, 8)] [(0, 4)] ar_t32 ar_t32 [(0, 180)] [(55, 55)] [(39, 60)] [(1, 6)] [(4, 4)]
def mgh16481 : aw_H := [(81, mgx16480)]
def mgx16482 : aw_A := ms_o [(0, 8)] [(0, 4)] ar_t32 ar_t32 [(0, 180)] [(56, 56)] [(39, 60)] [(1, 6)] [(4, 4)]
def mgh16483 : aw_H := [(81, mgx16482)]
def mgx16484 : aw_A := ms_o [(0, 8)] [(0, 4)] ar_t32 ar_t32 [(0, 180)] [(57, 57)] [(39, 60)] [(1, 6)] [(4, 4)]
def mgh16485 : aw_H := [(81, mgx16484)]
def mgx16486 : aw_A := ms_o [(0, 8)] [(0, 4)] ar_t32 ar_t32 [(0, 180)] [(58, 58)] [(39, 60)] [(1, 6)] [(4, 4)]
def mgh16487 : aw_H := [(81, mgx16486)]
def mgx16488 : aw_A := ms_o [(0, 8)] [(0, 4)] ar_t32 ar_t32 [(0, 180)] [(59, 59)] [(39, 60)] [(1, 6)] [(4, 4)]
def mgh16489 : aw_H := [(81, mgx16488)]
def mgx16490 : aw_A := ms_o [(0, 8)] [(0, 4)] ar_t32 ar_t32 [(0, 180)] [(60, 60)] [(39, 60)] [(1, 6)] [(4, 4)]
def mgh16491 : aw_H := [(81, mgx16490)]
/-- MiceRegistersModel.skip -/
def mgh16492 : aw_H := [(81, mgx16446), (90, .inr (.inl (0, 240, [], [])))]
def mgc6082 : ak_C := (122, [.inl 81], mgh16492, [81], [([], none, mgh16449), ([], none, mgh16451), ([], none, mgh16453), ([], none, mgh16455), ([], none, mgh16457), ([], none, mgh16459), ([], none, mgh16461), ([], none, mgh16463), ([], none, mgh16465), ([], none, mgh16467), ([], none, mgh16469), ([], none, mgh16471), ([], none, mgh16473), ([], none, mgh16475), ([], none, mgh16477), ([], none, mgh16479), ([], none, mgh16481), ([], none, mgh16483), ([], none, mgh16485), ([], none, mgh16487), ([], none, mgh16489), ([], none, mgh16491)])
/-- MiceRegistersModel.readsLine -/
def mgx16493 : aw_A := ms_o [(0, 8)] [(0, 4)] ar_t32 ar_t32 [(0, 180)] [(34, 34)] [(35, 60)] [(1, 6)] [(3, 3)]
def mgh16494 : aw_H := [(81, mgx16493)]
def mgc5544 : ak_C := (124, [.inl 81], mgh16494, [], [([], some (.inr (false, [(0, 0)])), [])])
theorem mgk5544 : ai_chk [] mgc5544 (fun pc => sm_ch sm_t124 pc, sm_Kn 3 3 none, fun x => sm_lk sm_ca3 x, some .boolean) [] 3 0 [] [] 2000 [] = true := by decide +kernel
/-- MiceRegistersModel.figure -/
def mgc5545 : ak_C := (125, [.inl 81, .inr (false, [(0, 0)]), .inr (false, [(0, 5)])], mgh16180, [81], [([], some (.inr (false, [(-9, -9)])), mgh16129), ([], some (.inr (false, [(0, 5)])), mgh15474)])
/-- MiceRegistersModel.figure -/
def mgc5546 : ak_C := (125, [.inl 81, .inr (false, [(1, 1)]), .inr (false, [(9, 9)])], mgh15523, [81], [([], some (.inr (false, [(-9, -9)])), mgh15474), ([], some (.inr (false, [(1, 9)])), mgh15586)])
def mgh16495 : aw_H := [(81, mgx16493), (94, mgx6362)]
def mgx16496 : aw_A := ms_o [(0, 8)] [(0, 4)] ar_t32 ar_t32 [(0, 180)] [(37, 37)] [(37, 60)] [(1, 6)] [(4, 4)]
def mgh16497 : aw_H := [(81, mgx16496), (94, mgx6473)]
/-- MiceRegistersModel.readsMouse -/
def mgh16498 : aw_H := [(81, mgx16493), (90, .inr (.inl (0, 240, [], []))), (94, mgx6362)]
def mgc5547 : ak_C := (127, [.inl 81], mgh16498, [81, 94], [([], some (.inr (false, [(0, 0)])), mgh16495), ([], some (.inr (false, [(1, 1)])), mgh16497), ([], some (.inr (false, [(0, 0)])), mgh15471), ([], some (.inr (false, [(0, 0)])), mgh16127)])
theorem mgk5547 : ai_chk [mgc45, mgc147, mgc5545, mgc5546] mgc5547 (fun pc => sm_ch sm_t127 pc, sm_Kn 3 5 none, fun x => sm_lk sm_ca3 x, some .boolean) [81, 94] 5 0 [] [] 2000 [] = true := by decide +kernel
def mgh16499 : aw_H := [(81, mgx16496)]
def mgx16500 : aw_A := ms_o [(0, 8)] [(0, 4)] ar_t32 ar_t32 [(0, 180)] [(38, 38)] [(37, 60)] [(1, 6)] [(4, 4)]
def mgh16501 : aw_H := [(81, mgx16500)]
def mgx16502 : aw_A := ms_o [(0, 8)] [(0, 4)] ar_t32 ar_t32 [(0, 180)] [(39, 39)] [(37, 60)] [(1, 6)] [(4, 4)]
def mgh16503 : aw_H := [(81, mgx16502)]
def mgx16504 : aw_A := ms_o [(0, 8)] [(0, 4)] ar_t32 ar_t32 [(0, 180)] [(40, 40)] [(37, 60)] [(1, 6)] [(4, 4)]
def mgh16505 : aw_H := [(81, mgx16504)]
def mgx16506 : aw_A := ms_o [(0, 8)] [(0, 4)] ar_t32 ar_t32 [(0, 180)] [(41, 41)] [(37, 60)] [(1, 6)] [(4, 4)]
def mgh16507 : aw_H := [(81, mgx16506)]
def mgx16508 : aw_A := ms_o [(0, 8)] [(0, 4)] ar_t32 ar_t32 [(0, 180)] [(42, 42)] [(37, 60)] [(1, 6)] [(4, 4)]
def mgh16509 : aw_H := [(81, mgx16508)]
def mgx16510 : aw_A := ms_o [(0, 8)] [(0, 4)] ar_t32 ar_t32 [(0, 180)] [(43, 43)] [(37, 60)] [(1, 6)] [(4, 4)]
def mgh16511 : aw_H := [(81, mgx16510)]
def mgx16512 : aw_A := ms_o [(0, 8)] [(0, 4)] ar_t32 ar_t32 [(0, 180)] [(44, 44)] [(37, 60)] [(1, 6)] [(4, 4)]
def mgh16513 : aw_H := [(81, mgx16512)]
def mgx16514 : aw_A := ms_o [(0, 8)] [(0, 4)] ar_t32 ar_t32 [(0, 180)] [(45, 45)] [(37, 60)] [(1, 6)] [(4, 4)]
def mgh16515 : aw_H := [(81, mgx16514)]
def mgx16516 : aw_A := ms_o [(0, 8)] [(0, 4)] ar_t32 ar_t32 [(0, 180)] [(46, 46)] [(37, 60)] [(1, 6)] [(4, 4)]
def mgh16517 : aw_H := [(81, mgx16516)]
def mgx16518 : aw_A := ms_o [(0, 8)] [(0, 4)] ar_t32 ar_t32 [(0, 180)] [(47, 47)] [(37, 60)] [(1, 6)] [(4, 4)]
def mgh16519 : aw_H := [(81, mgx16518)]
def mgx16520 : aw_A := ms_o [(0, 8)] [(0, 4)] ar_t32 ar_t32 [(0, 180)] [(48, 48)] [(37, 60)] [(1, 6)] [(4, 4)]
def mgh16521 : aw_H := [(81, mgx16520)]
def mgx16522 : aw_A := ms_o [(0, 8)] [(0, 4)] ar_t32 ar_t32 [(0, 180)] [(49, 49)] [(37, 60)] [(1, 6)] [(4, 4)]
def mgh16523 : aw_H := [(81, mgx16522)]
def mgx16524 : aw_A := ms_o [(0, 8)] [(0, 4)] ar_t32 ar_t32 [(0, 180)] [(50, 50)] [(37, 60)] [(1, 6)] [(4, 4)]
def mgh16525 : aw_H := [(81, mgx16524)]
def mgx16526 : aw_A := ms_o [(0, 8)] [(0, 4)] ar_t32 ar_t32 [(0, 180)] [(51, 51)] [(37, 60)] [(1, 6)] [(4, 4)]
def mgh16527 : aw_H := [(81, mgx16526)]
def mgx16528 : aw_A := ms_o [(0, 8)] [(0, 4)] ar_t32 ar_t32 [(0, 180)] [(52, 52)] [(37, 60)] [(1, 6)] [(4, 4)]
def mgh16529 : aw_H := [(81, mgx16528)]
def mgx16530 : aw_A := ms_o [(0, 8)] [(0, 4)] ar_t32 ar_t32 [(0, 180)] [(53, 53)] [(37, 60)] [(1, 6)] [(4, 4)]
def mgh16531 : aw_H := [(81, mgx16530)]
def mgx16532 : aw_A := ms_o [(0, 8)] [(0, 4)] ar_t32 ar_t32 [(0, 180)] [(54, 54)] [(37, 60)] [(1, 6)] [(4, 4)]
def mgh16533 : aw_H := [(81, mgx16532)]
def mgx16534 : aw_A := ms_o [(0, 8)] [(0, 4)] ar_t32 ar_t32 [(0, 180)] [(55, 55)] [(37, 60)] [(1, 6)] [(4, 4)]
def mgh16535 : aw_H := [(81, mgx16534)]
def mgx16536 : aw_A := ms_o [(0, 8)] [(0, 4)] ar_t32 ar_t32 [(0, 180)] [(56, 56)] [(37, 60)] [(1, 6)] [(4, 4)]
def mgh16537 : aw_H := [(81, mgx16536)]
def mgx16538 : aw_A := ms_o [(0, 8)] [(0, 4)] ar_t32 ar_t32 [(0, 180)] [(57, 57)] [(37, 60)] [(1, 6)] [(4, 4)]
def mgh16539 : aw_H := [(81, mgx16538)]
def mgx16540 : aw_A := ms_o [(0, 8)] [(0, 4)] ar_t32 ar_t32 [(0, 180)] [(58, 58)] [(37, 60)] [(1, 6)] [(4, 4)]
def mgh16541 : aw_H := [(81, mgx16540)]
def mgx16542 : aw_A := ms_o [(0, 8)] [(0, 4)] ar_t32 ar_t32 [(0, 180)] [(59, 59)] [(37, 60)] [(1, 6)] [(4, 4)]
def mgh16543 : aw_H := [(81, mgx16542)]
def mgx16544 : aw_A := ms_o [(0, 8)] [(0, 4)] ar_t32 ar_t32 [(0, 180)] [(60, 60)] [(37, 60)] [(1, 6)] [(4, 4)]
def mgh16545 : aw_H := [(81, mgx16544)]
/-- MiceRegistersModel.skip -/
def mgh16546 : aw_H := [(81, mgx16496), (90, .inr (.inl (0, 240, [], [])))]
def mgc5856 : ak_C := (122, [.inl 81], mgh16546, [81], [([], none, mgh16499), ([], none, mgh16501), ([], none, mgh16503), ([], none, mgh16505), ([], none, mgh16507), ([], none, mgh16509), ([], none, mgh16511), ([], none, mgh16513), ([], none, mgh16515), ([], none, mgh16517), ([], none, mgh16519), ([], none, mgh16521), ([], none, mgh16523), ([], none, mgh16525), ([], none, mgh16527), ([], none, mgh16529), ([], none, mgh16531), ([], none, mgh16533), ([], none, mgh16535), ([], none, mgh16537), ([], none, mgh16539), ([], none, mgh16541), ([], none, mgh16543), ([], none, mgh16545)])
/-- MiceRegistersModel.readsLine -/
def mgx16547 : aw_A := ms_o [(0, 8)] [(0, 4)] ar_t32 ar_t32 [(0, 180)] [(40, 40)] [(41, 60)] [(1, 6)] [(4, 4)]
def mgh16548 : aw_H := [(81, mgx16547)]
def mgc5863 : ak_C := (124, [.inl 81], mgh16548, [], [([], some (.inr (false, [(0, 0)])), [])])
theorem mgk5863 : ai_chk [] mgc5863 (fun pc => sm_ch sm_t124 pc, sm_Kn 3 3 none, fun x => sm_lk sm_ca3 x, some .boolean) [] 3 0 [] [] 2000 [] = true := by decide +kernel
/-- MiceRegistersModel.readsMouse -/
def mgh16549 : aw_H := [(81, mgx16547), (90, .inr (.inl (0, 240, [], [])))]
def mgc5864 : ak_C := (127, [.inl 81], mgh16549, [], [([], some (.inr (false, [(0, 0)])), [])])
theorem mgk5864 : ai_chk [mgc39, mgc147] mgc5864 (fun pc => sm_ch sm_t127 pc, sm_Kn 3 5 none, fun x => sm_lk sm_ca3 x, some .boolean) [] 5 0 [] [] 2000 [] = true := by decide +kernel
/-- MiceRegistersModel.readsLine -/
def mgx16550 : aw_A := ms_o [(0, 8)] [(0, 4)] ar_t32 ar_t32 [(0, 180)] [(38, 38)] [(39, 60)] [(1, 6)] [(4, 4)]
def mgh16551 : aw_H := [(81, mgx16550)]
def mgc5859 : ak_C := (124, [.inl 81], mgh16551, [], [([], some (.inr (false, [(0, 0)])), [])])
theorem mgk5859 : ai_chk [] mgc5859 (fun pc => sm_ch sm_t124 pc, sm_Kn 3 3 none, fun x => sm_lk sm_ca3 x, some .boolean) [] 3 0 [] [] 2000 [] = true := by decide +kernel
/-- MiceRegistersModel.readsMouse -/
def mgh16552 : aw_H := [(81, mgx16550), (90, .inr (.inl (0, 240, [], [])))]
def mgc5860 : ak_C := (127, [.inl 81], mgh16552, [], [([], some (.inr (false, [(0, 0)])), [])])
theorem mgk5860 : ai_chk [mgc41, mgc147] mgc5860 (fun pc => sm_ch sm_t127 pc, sm_Kn 3 5 none, fun x => sm_lk sm_ca3 x, some .boolean) [] 5 0 [] [] 2000 [] = true := by decide +kernel
/-- MiceRegistersModel.readsLine -/
def mgx16553 : aw_A := ms_o [(0, 8)] [(0, 4)] ar_t32 ar_t32 [(0, 180)] [(39, 39)] [(40, 60)] [(1, 6)] [(4, 4)]
def mgh16554 : aw_H := [(81, mgx16553)]
def mgc5861 : ak_C := (124, [.inl 81], mgh16554, [], [([], some (.inr (false, [(0, 0)])), [])])
theorem mgk5861 : ai_chk [] mgc5861 (fun pc => sm_ch sm_t124 pc, sm_Kn 3 3 none, fun x => sm_lk sm_ca3 x, some .boolean) [] 3 0 [] [] 2000 [] = true := by decide +kernel
/-- MiceRegistersModel.readsMouse -/
def mgh16555 : aw_H := [(81, mgx16553), (90, .inr (.inl (0, 240, [], [])))]
def mgc5862 : ak_C := (127, [.inl 81], mgh16555, [], [([], some (.inr (false, [(0, 0)])), [])])
theorem mgk5862 : ai_chk [mgc40, mgc147] mgc5862 (fun pc => sm_ch sm_t127 pc, sm_Kn 3 5 none, fun x => sm_lk sm_ca3 x, some .boolean) [] 5 0 [] [] 2000 [] = true := by decide +kernel
/-- MiceRegistersModel.readsLine -/
def mgx16556 : aw_A := ms_o [(0, 8)] [(0, 4)] ar_t32 ar_t32 [(0, 180)] [(42, 42)] [(43, 60)] [(1, 7)] [(4, 4)]
def mgh16557 : aw_H := [(81, mgx16556)]
def mgc6095 : ak_C := (124, [.inl 81], mgh16557, [], [([], some (.inr (false, [(0, 0)])), [])])
theorem mgk6095 : ai_chk [] mgc6095 (fun pc => sm_ch sm_t124 pc, sm_Kn 3 3 none, fun x => sm_lk sm_ca3 x, some .boolean) [] 3 0 [] [] 2000 [] = true := by decide +kernel
/-- MiceRegistersModel.readsMouse -/
def mgh16558 : aw_H := [(81, mgx16556), (90, .inr (.inl (0, 240, [], [])))]
def mgc6096 : ak_C := (127, [.inl 81], mgh16558, [], [([], some (.inr (false, [(0, 0)])), [])])
theorem mgk6096 : ai_chk [mgc37, mgc147] mgc6096 (fun pc => sm_ch sm_t127 pc, sm_Kn 3 5 none, fun x => sm_lk sm_ca3 x, some .boolean) [] 5 0 [] [] 2000 [] = true := by decide +kernel
/-- MiceRegistersModel.readsLine -/
def mgx16559 : aw_A := ms_o [(0, 8)] [(0, 4)] ar_t32 ar_t32 [(0, 180)] [(41, 41)] [(42, 60)] [(1, 7)] [(4, 4)]
def mgh16560 : aw_H := [(81, mgx16559)]
def mgc6093 : ak_C := (124, [.inl 81], mgh16560, [], [([], some (.inr (false, [(0, 0)])), [])])
theorem mgk6093 : ai_chk [] mgc6093 (fun pc => sm_ch sm_t124 pc, sm_Kn 3 3 none, fun x => sm_lk sm_ca3 x, some .boolean) [] 3 0 [] [] 2000 [] = true := by decide +kernel
/-- MiceRegistersModel.readsMouse -/
def mgh16561 : aw_H := [(81, mgx16559), (90, .inr (.inl (0, 240, [], [])))]
def mgc6094 : ak_C := (127, [.inl 81], mgh16561, [], [([], some (.inr (false, [(0, 0)])), [])])
theorem mgk6094 : ai_chk [mgc38, mgc147] mgc6094 (fun pc => sm_ch sm_t127 pc, sm_Kn 3 5 none, fun x => sm_lk sm_ca3 x, some .boolean) [] 5 0 [] [] 2000 [] = true := by decide +kernel
/-- MiceRegistersModel.readsLine -/
def mgx16562 : aw_A := ms_o [(0, 8)] [(0, 4)] ar_t32 ar_t32 [(0, 180)] [(37, 37)] [(38, 60)] [(1, 6)] [(4, 4)]
def mgh16563 : aw_H := [(81, mgx16562)]
def mgc5857 : ak_C := (124, [.inl 81], mgh16563, [], [([], some (.inr (false, [(0, 0)])), [])])
theorem mgk5857 : ai_chk [] mgc5857 (fun pc => sm_ch sm_t124 pc, sm_Kn 3 3 none, fun x => sm_lk sm_ca3 x, some .boolean) [] 3 0 [] [] 2000 [] = true := by decide +kernel
/-- MiceRegistersModel.readsMouse -/
def mgh16564 : aw_H := [(81, mgx16562), (90, .inr (.inl (0, 240, [], [])))]
def mgc5858 : ak_C := (127, [.inl 81], mgh16564, [], [([], some (.inr (false, [(0, 0)])), [])])
theorem mgk5858 : ai_chk [mgc42, mgc147] mgc5858 (fun pc => sm_ch sm_t127 pc, sm_Kn 3 5 none, fun x => sm_lk sm_ca3 x, some .boolean) [] 5 0 [] [] 2000 [] = true := by decide +kernel
/-- MiceRegistersModel.readsLine -/
def mgx16565 : aw_A := ms_o [(0, 8)] [(0, 4)] ar_t32 ar_t32 [(0, 180)] [(40, 40)] [(41, 60)] [(1, 7)] [(3, 3)]
def mgh16566 : aw_H := [(81, mgx16565)]
def mgc5915 : ak_C := (124, [.inl 81], mgh16566, [], [([], some (.inr (false, [(0, 0)])), [])])
theorem mgk5915 : ai_chk [] mgc5915 (fun pc => sm_ch sm_t124 pc, sm_Kn 3 3 none, fun x => sm_lk sm_ca3 x, some .boolean) [] 3 0 [] [] 2000 [] = true := by decide +kernel
/-- MiceRegistersModel.figure -/
def mgc5916 : ak_C := (125, [.inl 81, .inr (false, [(0, 0)]), .inr (false, [(0, 6)])], mgh15461, [81], [([], some (.inr (false, [(-9, -9)])), mgh15422), ([], some (.inr (false, [(0, 6)])), mgh16400)])
def mgx16567 : aw_A := ms_o [(0, 8)] [(0, 4)] ar_t32 ar_t32 [(0, 180)] [(43, 43)] [(43, 60)] [(1, 7)] [(3, 3)]
def mgh16568 : aw_H := [(81, mgx16567)]
/-- MiceRegistersModel.figure -/
def mgh16569 : aw_H := [(81, mgx16399), (90, .inr (.inl (0, 240, [], [])))]
def mgc5917 : ak_C := (125, [.inl 81, .inr (false, [(1, 1)]), .inr (false, [(9, 9)])], mgh16569, [81], [([], some (.inr (false, [(-9, -9)])), mgh16400), ([], some (.inr (false, [(1, 9)])), mgh16568)])
def mgh16570 : aw_H := [(81, mgx16565), (94, mgx6362)]
def mgx16571 : aw_A := ms_o [(0, 8)] [(0, 4)] ar_t32 ar_t32 [(0, 180)] [(43, 43)] [(43, 60)] [(1, 7)] [(4, 4)]
def mgh16572 : aw_H := [(81, mgx16571), (94, mgx6473)]
def mgh16573 : aw_H := [(81, mgx16399), (94, mgx6362)]
/-- MiceRegistersModel.readsMouse -/
def mgh16574 : aw_H := [(81, mgx16565), (90, .inr (.inl (0, 240, [], []))), (94, mgx6362)]
def mgc5918 : ak_C := (127, [.inl 81], mgh16574, [81, 94], [([], some (.inr (false, [(0, 0)])), mgh16570), ([], some (.inr (false, [(1, 1)])), mgh16572), ([], some (.inr (false, [(0, 0)])), mgh16573), ([], some (.inr (false, [(0, 0)])), mgh15419)])
theorem mgk5918 : ai_chk [mgc39, mgc147, mgc5916, mgc5917] mgc5918 (fun pc => sm_ch sm_t127 pc, sm_Kn 3 5 none, fun x => sm_lk sm_ca3 x, some .boolean) [81, 94] 5 0 [] [] 2000 [] = true := by decide +kernel
def mgh16575 : aw_H := [(81, mgx16571)]
def mgx16576 : aw_A := ms_o [(0, 8)] [(0, 4)] ar_t32 ar_t32 [(0, 180)] [(44, 44)] [(43, 60)] [(1, 7)] [(4, 4)]
def mgh16577 : aw_H := [(81, mgx16576)]
def mgx16578 : aw_A := ms_o [(0, 8)] [(0, 4)] ar_t32 ar_t32 [(0, 180)] [(45, 45)] [(43, 60)] [(1, 7)] [(4, 4)]
def mgh16579 : aw_H := [(81, mgx16578)]
def mgx16580 : aw_A := ms_o [(0, 8)] [(0, 4)] ar_t32 ar_t32 [(0, 180)] [(46, 46)] [(43, 60)] [(1, 7)] [(4, 4)]
def mgh16581 : aw_H := [(81, mgx16580)]
def mgx16582 : aw_A := ms_o [(0, 8)] [(0, 4)] ar_t32 ar_t32 [(0, 180)] [(47, 47)] [(43, 60)] [(1, 7)] [(4, 4)]
def mgh16583 : aw_H := [(81, mgx16582)]
def mgx16584 : aw_A := ms_o [(0, 8)] [(0, 4)] ar_t32 ar_t32 [(0, 180)] [(48, 48)] [(43, 60)] [(1, 7)] [(4, 4)]
def mgh16585 : aw_H := [(81, mgx16584)]
def mgx16586 : aw_A := ms_o [(0, 8)] [(0, 4)] ar_t32 ar_t32 [(0, 180)] [(49, 49)] [(43, 60)] [(1, 7)] [(4, 4)]
def mgh16587 : aw_H := [(81, mgx16586)]
def mgx16588 : aw_A := ms_o [(0, 8)] [(0, 4)] ar_t32 ar_t32 [(0, 180)] [(50, 50)] [(43, 60)] [(1, 7)] [(4, 4)]
def mgh16589 : aw_H := [(81, mgx16588)]
def mgx16590 : aw_A := ms_o [(0, 8)] [(0, 4)] ar_t32 ar_t32 [(0, 180)] [(51, 51)] [(43, 60)] [(1, 7)] [(4, 4)]
def mgh16591 : aw_H := [(81, mgx16590)]
def mgx16592 : aw_A := ms_o [(0, 8)] [(0, 4)] ar_t32 ar_t32 [(0, 180)] [(52, 52)] [(43, 60)] [(1, 7)] [(4, 4)]
def mgh16593 : aw_H := [(81, mgx16592)]
def mgx16594 : aw_A := ms_o [(0, 8)] [(0, 4)] ar_t32 ar_t32 [(0, 180)] [(53, 53)] [(43, 60)] [(1, 7)] [(4, 4)]
def mgh16595 : aw_H := [(81, mgx16594)]
def mgx16596 : aw_A := ms_o [(0, 8)] [(0, 4)] ar_t32 ar_t32 [(0, 180)] [(54, 54)] [(43, 60)] [(1, 7)] [(4, 4)]
def mgh16597 : aw_H := [(81, mgx16596)]
def mgx16598 : aw_A := ms_o [(0, 8)] [(0, 4)] ar_t32 ar_t32 [(0, 180)] [(55, 55)] [(43, 60)] [(1, 7)] [(4, 4)]
def mgh16599 : aw_H := [(81, mgx16598)]
def mgx16600 : aw_A := ms_o [(0, 8)] [(0, 4)] ar_t32 ar_t32 [(0, 180)] [(56, 56)] [(43, 60)] [(1, 7)] [(4, 4)]
def mgh16601 : aw_H := [(81, mgx16600)]
def mgx16602 : aw_A := ms_o [(0, 8)] [(0, 4)] ar_t32 ar_t32 [(0, 180)] [(57, 57)] [(43, 60)] [(1, 7)] [(4, 4)]
def mgh16603 : aw_H := [(81, mgx16602)]
def mgx16604 : aw_A := ms_o [(0, 8)] [(0, 4)] ar_t32 ar_t32 [(0, 180)] [(58, 58)] [(43, 60)] [(1, 7)] [(4, 4)]
def mgh16605 : aw_H := [(81, mgx16604)]
def mgx16606 : aw_A := ms_o [(0, 8)] [(0, 4)] ar_t32 ar_t32 [(0, 180)] [(59, 59)] [(43, 60)] [(1, 7)] [(4, 4)]
def mgh16607 : aw_H := [(81, mgx16606)]
def mgx16608 : aw_A := ms_o [(0, 8)] [(0, 4)] ar_t32 ar_t32 [(0, 180)] [(60, 60)] [(43, 60)] [(1, 7)] [(4, 4)]
def mgh16609 : aw_H := [(81, mgx16608)]
/-- MiceRegistersModel.skip -/
def mgh16610 : aw_H := [(81, mgx16571), (90, .inr (.inl (0, 240, [], [])))]
def mgc6211 : ak_C := (122, [.inl 81], mgh16610, [81], [([], none, mgh16575), ([], none, mgh16577), ([], none, mgh16579), ([], none, mgh16581), ([], none, mgh16583), ([], none, mgh16585), ([], none, mgh16587), ([], none, mgh16589), ([], none, mgh16591), ([], none, mgh16593), ([], none, mgh16595), ([], none, mgh16597), ([], none, mgh16599), ([], none, mgh16601), ([], none, mgh16603), ([], none, mgh16605), ([], none, mgh16607), ([], none, mgh16609)])
/-- MiceRegistersModel.readsLine -/
def mgx16611 : aw_A := ms_o [(0, 8)] [(0, 4)] ar_t32 ar_t32 [(0, 180)] [(43, 43)] [(44, 60)] [(1, 7)] [(4, 4)]
def mgh16612 : aw_H := [(81, mgx16611)]
def mgc6097 : ak_C := (124, [.inl 81], mgh16612, [], [([], some (.inr (false, [(0, 0)])), [])])
theorem mgk6097 : ai_chk [] mgc6097 (fun pc => sm_ch sm_t124 pc, sm_Kn 3 3 none, fun x => sm_lk sm_ca3 x, some .boolean) [] 3 0 [] [] 2000 [] = true := by decide +kernel
/-- MiceRegistersModel.readsMouse -/
def mgh16613 : aw_H := [(81, mgx16611), (90, .inr (.inl (0, 240, [], [])))]
def mgc6098 : ak_C := (127, [.inl 81], mgh16613, [], [([], some (.inr (false, [(0, 0)])), [])])
theorem mgk6098 : ai_chk [mgc36, mgc147] mgc6098 (fun pc => sm_ch sm_t127 pc, sm_Kn 3 5 none, fun x => sm_lk sm_ca3 x, some .boolean) [] 5 0 [] [] 2000 [] = true := by decide +kernel
/-- MiceRegistersModel.readsLine -/
def mgx16614 : aw_A := ms_o [(0, 8)] [(0, 4)] ar_t32 ar_t32 [(0, 180)] [(42, 42)] [(43, 60)] [(1, 8)] [(3, 3)]
def mgh16615 : aw_H := [(81, mgx16614)]
def mgc6135 : ak_C := (124, [.inl 81], mgh16615, [], [([], some (.inr (false, [(0, 0)])), [])])
theorem mgk6135 : ai_chk [] mgc6135 (fun pc => sm_ch sm_t124 pc, sm_Kn 3 3 none, fun x => sm_lk sm_ca3 x, some .boolean) [] 3 0 [] [] 2000 [] = true := by decide +kernel
def mgx16616 : aw_A := ms_o [(0, 8)] [(0, 4)] ar_t32 ar_t32 [(0, 180)] [(43, 43)] [(43, 60)] [(1, 8)] [(3, 3)]
def mgh16617 : aw_H := [(81, mgx16616)]
def mgx16618 : aw_A := ms_o [(0, 8)] [(0, 4)] ar_t32 ar_t32 [(0, 180)] [(44, 44)] [(44, 60)] [(1, 8)] [(3, 3)]
def mgh16619 : aw_H := [(81, mgx16618)]
/-- MiceRegistersModel.figure -/
def mgh16620 : aw_H := [(81, mgx16616), (90, .inr (.inl (0, 240, [], [])))]
def mgc6136 : ak_C := (125, [.inl 81, .inr (false, [(0, 0)]), .inr (false, [(0, 7)])], mgh16620, [81], [([], some (.inr (false, [(-9, -9)])), mgh16617), ([], some (.inr (false, [(0, 7)])), mgh16619)])
def mgx16621 : aw_A := ms_o [(0, 8)] [(0, 4)] ar_t32 ar_t32 [(0, 180)] [(45, 45)] [(45, 60)] [(1, 8)] [(3, 3)]
def mgh16622 : aw_H := [(81, mgx16621)]
/-- MiceRegistersModel.figure -/
def mgh16623 : aw_H := [(81, mgx16618), (90, .inr (.inl (0, 240, [], [])))]
def mgc6137 : ak_C := (125, [.inl 81, .inr (false, [(1, 1)]), .inr (false, [(9, 9)])], mgh16623, [81], [([], some (.inr (false, [(-9, -9)])), mgh16619), ([], some (.inr (false, [(1, 9)])), mgh16622)])
def mgh16624 : aw_H := [(81, mgx16614), (94, mgx6362)]
def mgx16625 : aw_A := ms_o [(0, 8)] [(0, 4)] ar_t32 ar_t32 [(0, 180)] [(45, 45)] [(45, 60)] [(1, 8)] [(4, 4)]
def mgh16626 : aw_H := [(81, mgx16625), (94, mgx6473)]
def mgh16627 : aw_H := [(81, mgx16618), (94, mgx6362)]
def mgh16628 : aw_H := [(81, mgx16616), (94, mgx6362)]
/-- MiceRegistersModel.readsMouse -/
def mgh16629 : aw_H := [(81, mgx16614), (90, .inr (.inl (0, 240, [], []))), (94, mgx6362)]
def mgc6138 : ak_C := (127, [.inl 81], mgh16629, [81, 94], [([], some (.inr (false, [(0, 0)])), mgh16624), ([], some (.inr (false, [(1, 1)])), mgh16626), ([], some (.inr (false, [(0, 0)])), mgh16627), ([], some (.inr (false, [(0, 0)])), mgh16628)])
theorem mgk6138 : ai_chk [mgc37, mgc147, mgc6136, mgc6137] mgc6138 (fun pc => sm_ch sm_t127 pc, sm_Kn 3 5 none, fun x => sm_lk sm_ca3 x, some .boolean) [81, 94] 5 0 [] [] 2000 [] = true := by decide +kernel
def mgh16630 : aw_H := [(81, mgx16625)]
def mgx16631 : aw_A := ms_o [(0, 8)] [(0, 4)] ar_t32 ar_t32 [(0, 180)] [(46, 46)] [(45, 60)] [(1, 8)] [(4, 4)]
def mgh16632 : aw_H := [(81, mgx16631)]
def mgx16633 : aw_A := ms_o [(0, 8)] [(0, 4)] ar_t32 ar_t32 [(0, 180)] [(47, 47)] [(45, 60)] [(1, 8)] [(4, 4)]
def mgh16634 : aw_H := [(81, mgx16633)]
def mgx16635 : aw_A := ms_o [(0, 8)] [(0, 4)] ar_t32 ar_t32 [(0, 180)] [(48, 48)] [(45, 60)] [(1, 8)] [(4, 4)]
def mgh16636 : aw_H := [(81, mgx16635)]
def mgx16637 : aw_A := ms_o [(0, 8)] [(0, 4)] ar_t32 ar_t32 [(0, 180)] [(49, 49)] [(45, 60)] [(1, 8)] [(4, 4)]
def mgh16638 : aw_H := [(81, mgx16637)]
def mgx16639 : aw_A := ms_o [(0, 8)] [(0, 4)] ar_t32 ar_t32 [(0, 180)] [(50, 50)] [(45, 60)] [(1, 8)] [(4, 4)]
def mgh16640 : aw_H := [(81, mgx16639)]
def mgx16641 : aw_A := ms_o [(0, 8)] [(0, 4)] ar_t32 ar_t32 [(0, 180)] [(51, 51)] [(45, 60)] [(1, 8)] [(4, 4)]
def mgh16642 : aw_H := [(81, mgx16641)]
def mgx16643 : aw_A := ms_o [(0, 8)] [(0, 4)] ar_t32 ar_t32 [(0, 180)] [(52, 52)] [(45, 60)] [(1, 8)] [(4, 4)]
def mgh16644 : aw_H := [(81, mgx16643)]
def mgx16645 : aw_A := ms_o [(0, 8)] [(0, 4)] ar_t32 ar_t32 [(0, 180)] [(53, 53)] [(45, 60)] [(1, 8)] [(4, 4)]
def mgh16646 : aw_H := [(81, mgx16645)]
def mgx16647 : aw_A := ms_o [(0, 8)] [(0, 4)] ar_t32 ar_t32 [(0, 180)] [(54, 54)] [(45, 60)] [(1, 8)] [(4, 4)]
def mgh16648 : aw_H := [(81, mgx16647)]
def mgx16649 : aw_A := ms_o [(0, 8)] [(0, 4)] ar_t32 ar_t32 [(0, 180)] [(55, 55)] [(45, 60)] [(1, 8)] [(4, 4)]
def mgh16650 : aw_H := [(81, mgx16649)]
def mgx16651 : aw_A := ms_o [(0, 8)] [(0, 4)] ar_t32 ar_t32 [(0, 180)] [(56, 56)] [(45, 60)] [(1, 8)] [(4, 4)]
def mgh16652 : aw_H := [(81, mgx16651)]
def mgx16653 : aw_A := ms_o [(0, 8)] [(0, 4)] ar_t32 ar_t32 [(0, 180)] [(57, 57)] [(45, 60)] [(1, 8)] [(4, 4)]
def mgh16654 : aw_H := [(81, mgx16653)]
def mgx16655 : aw_A := ms_o [(0, 8)] [(0, 4)] ar_t32 ar_t32 [(0, 180)] [(58, 58)] [(45, 60)] [(1, 8)] [(4, 4)]
def mgh16656 : aw_H := [(81, mgx16655)]
def mgx16657 : aw_A := ms_o [(0, 8)] [(0, 4)] ar_t32 ar_t32 [(0, 180)] [(59, 59)] [(45, 60)] [(1, 8)] [(4, 4)]
def mgh16658 : aw_H := [(81, mgx16657)]
def mgx16659 : aw_A := ms_o [(0, 8)] [(0, 4)] ar_t32 ar_t32 [(0, 180)] [(60, 60)] [(45, 60)] [(1, 8)] [(4, 4)]
def mgh16660 : aw_H := [(81, mgx16659)]
/-- MiceRegistersModel.skip -/
def mgh16661 : aw_H := [(81, mgx16625), (90, .inr (.inl (0, 240, [], [])))]
def mgc6221 : ak_C := (122, [.inl 81], mgh16661, [81], [([], none, mgh16630), ([], none, mgh16632), ([], none, mgh16634), ([], none, mgh16636), ([], none, mgh16638), ([], none, mgh16640), ([], none, mgh16642), ([], none, mgh16644), ([], none, mgh16646), ([], none, mgh16648), ([], none, mgh16650), ([], none, mgh16652), ([], none, mgh16654), ([], none, mgh16656), ([], none, mgh16658), ([], none, mgh16660)])
/-- MiceRegistersModel.readsLine -/
def mgx16662 : aw_A := ms_o [(0, 8)] [(0, 4)] ar_t32 ar_t32 [(0, 180)] [(41, 41)] [(42, 60)] [(1, 7)] [(3, 3)]
def mgh16663 : aw_H := [(81, mgx16662)]
def mgc5919 : ak_C := (124, [.inl 81], mgh16663, [], [([], some (.inr (false, [(0, 0)])), [])])
theorem mgk5919 : ai_chk [] mgc5919 (fun pc => sm_ch sm_t124 pc, sm_Kn 3 3 none, fun x => sm_lk sm_ca3 x, some .boolean) [] 3 0 [] [] 2000 [] = true := by decide +kernel
/-- MiceRegistersModel.figure -/
def mgc5920 : ak_C := (125, [.inl 81, .inr (false, [(0, 0)]), .inr (false, [(0, 6)])], mgh16569, [81], [([], some (.inr (false, [(-9, -9)])), mgh16400), ([], some (.inr (false, [(0, 6)])), mgh16568)])
def mgx16664 : aw_A := ms_o [(0, 8)] [(0, 4)] ar_t32 ar_t32 [(0, 180)] [(44, 44)] [(44, 60)] [(1, 7)] [(3, 3)]
def mgh16665 : aw_H := [(81, mgx16664)]
/-- MiceRegistersModel.figure -/
def mgh16666 : aw_H := [(81, mgx16567), (90, .inr (.inl (0, 240, [], [])))]
def mgc5921 : ak_C := (125, [.inl 81, .inr (false, [(1, 1)]), .inr (false, [(9, 9)])], mgh16666, [81], [([], some (.inr (false, [(-9, -9)])), mgh16568), ([], some (.inr (false, [(1, 9)])), mgh16665)])
def mgh16667 : aw_H := [(81, mgx16662), (94, mgx6362)]
def mgx16668 : aw_A := ms_o [(0, 8)] [(0, 4)] ar_t32 ar_t32 [(0, 180)] [(44, 44)] [(44, 60)] [(1, 7)] [(4, 4)]
def mgh16669 : aw_H := [(81, mgx16668), (94, mgx6473)]
def mgh16670 : aw_H := [(81, mgx16567), (94, mgx6362)]
/-- MiceRegistersModel.readsMouse -/
def mgh16671 : aw_H := [(81, mgx16662), (90, .inr (.inl (0, 240, [], []))), (94, mgx6362)]
def mgc5922 : ak_C := (127, [.inl 81], mgh16671, [81, 94], [([], some (.inr (false, [(0, 0)])), mgh16667), ([], some (.inr (false, [(1, 1)])), mgh16669), ([], some (.inr (false, [(0, 0)])), mgh16670), ([], some (.inr (false, [(0, 0)])), mgh16573)])
theorem mgk5922 : ai_chk [mgc38, mgc147, mgc5920, mgc5921] mgc5922 (fun pc => sm_ch sm_t127 pc, sm_Kn 3 5 none, fun x => sm_lk sm_ca3 x, some .boolean) [81, 94] 5 0 [] [] 2000 [] = true := by decide +kernel
def mgh16672 : aw_H := [(81, mgx16668)]
def mgx16673 : aw_A := ms_o [(0, 8)] [(0, 4)] ar_t32 ar_t32 [(0, 180)] [(45, 45)] [(44, 60)] [(1, 7)] [(4, 4)]
def mgh16674 : aw_H := [(81, mgx16673)]
def mgx16675 : aw_A := ms_o [(0, 8)] [(0, 4)] ar_t32 ar_t32 [(0, 180)] [(46, 46)] [(44, 60)] [(1, 7)] [(4, 4)]
def mgh16676 : aw_H := [(81, mgx16675)]
def mgx16677 : aw_A := ms_o [(0, 8)] [(0, 4)] ar_t32 ar_t32 [(0, 180)] [(47, 47)] [(44, 60)] [(1, 7)] [(4, 4)]
def mgh16678 : aw_H := [(81, mgx16677)]
def mgx16679 : aw_A := ms_o [(0, 8)] [(0, 4)] ar_t32 ar_t32 [(0, 180)] [(48, 48)] [(44, 60)] [(1, 7)] [(4, 4)]
def mgh16680 : aw_H := [(81, mgx16679)]
def mgx16681 : aw_A := ms_o [(0, 8)] [(0, 4)] ar_t32 ar_t32 [(0, 180)] [(49, 49)] [(44, 60)] [(1, 7)] [(4, 4)]
def mgh16682 : aw_H := [(81, mgx16681)]
def mgx16683 : aw_A := ms_o [(0, 8)] [(0, 4)] ar_t32 ar_t32 [(0, 180)] [(50, 50)] [(44, 60)] [(1, 7)] [(4, 4)]
def mgh16684 : aw_H := [(81, mgx16683)]
def mgx16685 : aw_A := ms_o [(0, 8)] [(0, 4)] ar_t32 ar_t32 [(0, 180)] [(51, 51)] [(44, 60)] [(1, 7)] [(4, 4)]
def mgh16686 : aw_H := [(81, mgx16685)]
def mgx16687 : aw_A := ms_o [(0, 8)] [(0, 4)] ar_t32 ar_t32 [(0, 180)] [(52, 52)] [(44, 60)] [(1, 7)] [(4, 4)]
def mgh16688 : aw_H := [(81, mgx16687)]
def mgx16689 : aw_A := ms_o [(0, 8)] [(0, 4)] ar_t32 ar_t32 [(0, 180)] [(53, 53)] [(44, 60)] [(1, 7)] [(4, 4)]
def mgh16690 : aw_H := [(81, mgx16689)]
def mgx16691 : aw_A := ms_o [(0, 8)] [(0, 4)] ar_t32 ar_t32 [(0, 180)] [(54, 54)] [(44, 60)] [(1, 7)] [(4, 4)]
def mgh16692 : aw_H := [(81, mgx16691)]
def mgx16693 : aw_A := ms_o [(0, 8)] [(0, 4)] ar_t32 ar_t32 [(0, 180)] [(55, 55)] [(44, 60)] [(1, 7)] [(4, 4)]
def mgh16694 : aw_H := [(81, mgx16693)]
def mgx16695 : aw_A := ms_o [(0, 8)] [(0, 4)] ar_t32 ar_t32 [(0, 180)] [(56, 56)] [(44, 60)] [(1, 7)] [(4, 4)]
def mgh16696 : aw_H := [(81, mgx16695)]
def mgx16697 : aw_A := ms_o [(0, 8)] [(0, 4)] ar_t32 ar_t32 [(0, 180)] [(57, 57)] [(44, 60)] [(1, 7)] [(4, 4)]
def mgh16698 : aw_H := [(81, mgx16697)]
def mgx16699 : aw_A := ms_o [(0, 8)] [(0, 4)] ar_t32 ar_t32 [(0, 180)] [(58, 58)] [(44, 60)] [(1, 7)] [(4, 4)]
def mgh16700 : aw_H := [(81, mgx16699)]
def mgx16701 : aw_A := ms_o [(0, 8)] [(0, 4)] ar_t32 ar_t32 [(0, 180)] [(59, 59)] [(44, 60)] [(1, 7)] [(4, 4)]
def mgh16702 : aw_H := [(81, mgx16701)]
def mgx16703 : aw_A := ms_o [(0, 8)] [(0, 4)] ar_t32 ar_t32 [(0, 180)] [(60, 60)] [(44, 60)] [(1, 7)] [(4, 4)]
def mgh16704 : aw_H := [(81, mgx16703)]
/-- MiceRegistersModel.skip -/
def mgh16705 : aw_H := [(81, mgx16668), (90, .inr (.inl (0, 240, [], [])))]
def mgc6216 : ak_C := (122, [.inl 81], mgh16705, [81], [([], none, mgh16672), ([], none, mgh16674), ([], none, mgh16676), ([], none, mgh16678), ([], none, mgh16680), ([], none, mgh16682), ([], none, mgh16684), ([], none, mgh16686), ([], none, mgh16688), ([], none, mgh16690), ([], none, mgh16692), ([], none, mgh16694), ([], none, mgh16696), ([], none, mgh16698), ([], none, mgh16700), ([], none, mgh16702), ([], none, mgh16704)])
/-- MiceRegistersModel.readsLine -/
def mgx16706 : aw_A := ms_o [(0, 8)] [(0, 4)] ar_t32 ar_t32 [(0, 180)] [(45, 45)] [(46, 60)] [(1, 8)] [(4, 4)]
def mgh16707 : aw_H := [(81, mgx16706)]
def mgc6222 : ak_C := (124, [.inl 81], mgh16707, [], [([], some (.inr (false, [(0, 0)])), [])])
theorem mgk6222 : ai_chk [] mgc6222 (fun pc => sm_ch sm_t124 pc, sm_Kn 3 3 none, fun x => sm_lk sm_ca3 x, some .boolean) [] 3 0 [] [] 2000 [] = true := by decide +kernel
/-- MiceRegistersModel.readsMouse -/
def mgh16708 : aw_H := [(81, mgx16706), (90, .inr (.inl (0, 240, [], [])))]
def mgc6223 : ak_C := (127, [.inl 81], mgh16708, [], [([], some (.inr (false, [(0, 0)])), [])])
theorem mgk6223 : ai_chk [mgc34, mgc147] mgc6223 (fun pc => sm_ch sm_t127 pc, sm_Kn 3 5 none, fun x => sm_lk sm_ca3 x, some .boolean) [] 5 0 [] [] 2000 [] = true := by decide +kernel
/-- MiceRegistersModel.readsLine -/
def mgx16709 : aw_A := ms_o [(0, 8)] [(0, 4)] ar_t32 ar_t32 [(0, 180)] [(44, 44)] [(45, 60)] [(1, 7)] [(4, 4)]
def mgh16710 : aw_H := [(81, mgx16709)]
def mgc6099 : ak_C := (124, [.inl 81], mgh16710, [], [([], some (.inr (false, [(0, 0)])), [])])
theorem mgk6099 : ai_chk [] mgc6099 (fun pc => sm_ch sm_t124 pc, sm_Kn 3 3 none, fun x => sm_lk sm_ca3 x, some .boolean) [] 3 0 [] [] 2000 [] = true := by decide +kernel
/-- MiceRegistersModel.readsMouse -/
def mgh16711 : aw_H := [(81, mgx16709), (90, .inr (.inl (0, 240, [], [])))]
def mgc6100 : ak_C := (127, [.inl 81], mgh16711, [], [([], some (.inr (false, [(0, 0)])), [])])
theorem mgk6100 : ai_chk [mgc35, mgc147] mgc6100 (fun pc => sm_ch sm_t127 pc, sm_Kn 3 5 none, fun x => sm_lk sm_ca3 x, some .boolean) [] 5 0 [] [] 2000 [] = true := by decide +kernel
/-- MiceRegistersModel.twoFigures -/
def mgc4809 : ak_C := (126, [.inl 81, .inr (false, [(1, 1)]), .inr (false, [(40, 40)])], mgh13160, [81], [([], some (.inr (false, [(-9, -9)])), mgh13157), ([], some (.inr (false, [(0, 99)])), mgh13162), ([], some (.inr (false, [(-9, -9)])), mgh13159)])
theorem mgk4809 : ai_chk [mgc4802, mgc4808, mgc144] mgc4809 (fun pc => sm_ch sm_t126 pc, sm_Kn 3 6 none, fun x => sm_lk sm_ca3 x, some .int) [81] 6 0 [] [] 2000 [] = true := by decide +kernel
def mgh16712 : aw_H := [(81, mgx13181), (92, .inr (.inl (0, 8, [], []))), (93, .inr (.inl (0, 8, [], [])))]
def mgx16713 : aw_A := ms_o [(0, 8)] [(0, 4)] ar_t32 ar_t32 [(0, 180)] [(36, 36)] [(37, 60)] [(8, 8)] [(0, 0)]
def mgh16714 : aw_H := [(81, mgx16713), (92, .inr (.inl (0, 8, [], []))), (93, .inr (.inl (0, 8, [], [])))]
/-- MiceRegistersModel.readsLine -/
def mgx16715 : aw_A := ms_o [(0, 8)] [(0, 4)] ar_t32 ar_t32 [(0, 180)] [(36, 36)] [(37, 60)] [(0, 8)] [(0, 0)]
def mgh16716 : aw_H := [(81, mgx16715), (90, .inr (.inl (0, 240, [], []))), (92, .inr (.inl (0, 8, [], []))), (93, .inr (.inl (0, 8, [], [])))]
def mgc5387 : ak_C := (124, [.inl 81], mgh16716, [81, 92, 93], [([], some (.inr (false, [(0, 0)])), mgh13170), ([], some (.inr (false, [(1, 1)])), mgh16712), ([], some (.inr (false, [(0, 0)])), mgh13171), ([], some (.inr (false, [(0, 0)])), mgh13274), ([], some (.inr (false, [(0, 0)])), mgh16714)])
theorem mgk5387 : ai_chk [mgc4796, mgc4809] mgc5387 (fun pc => sm_ch sm_t124 pc, sm_Kn 3 3 none, fun x => sm_lk sm_ca3 x, some .boolean) [81, 92, 93] 3 0 [] [] 2000 [] = true := by decide +kernel
/-- MiceRegistersModel.figure -/
def mgc5388 : ak_C := (125, [.inl 81, .inr (false, [(0, 0)]), .inr (false, [(0, 7)])], mgh12930, [81], [([], some (.inr (false, [(-9, -9)])), mgh12883), ([], some (.inr (false, [(0, 7)])), mgh13177)])
/-- MiceRegistersModel.figure -/
def mgc5389 : ak_C := (125, [.inl 81, .inr (false, [(1, 1)]), .inr (false, [(9, 9)])], mgh13180, [81], [([], some (.inr (false, [(-9, -9)])), mgh13177), ([], some (.inr (false, [(1, 9)])), mgh13179)])
def mgh16717 : aw_H := [(81, mgx16715), (94, mgx4446)]
def mgh16718 : aw_H := [(81, mgx14078), (94, mgx4449)]
/-- MiceRegistersModel.readsMouse -/
def mgh16719 : aw_H := [(81, mgx16715), (90, .inr (.inl (0, 240, [], []))), (94, mgx4446)]
def mgc5390 : ak_C := (127, [.inl 81], mgh16719, [81, 94], [([], some (.inr (false, [(0, 0)])), mgh16717), ([], some (.inr (false, [(1, 1)])), mgh16718), ([], some (.inr (false, [(0, 0)])), mgh13188), ([], some (.inr (false, [(0, 0)])), mgh13282)])
theorem mgk5390 : ai_chk [mgc43, mgc147, mgc5388, mgc5389] mgc5390 (fun pc => sm_ch sm_t127 pc, sm_Kn 3 5 none, fun x => sm_lk sm_ca3 x, some .boolean) [81, 94] 5 0 [] [] 2000 [] = true := by decide +kernel
def mgx16720 : aw_A := ms_o [(0, 8)] [(0, 4)] ar_t32 ar_t32 [(0, 180)] [(40, 40)] [(39, 60)] [(1, 8)] [(1, 1)]
def mgh16721 : aw_H := [(81, mgx16720)]
def mgx16722 : aw_A := ms_o [(0, 8)] [(0, 4)] ar_t32 ar_t32 [(0, 180)] [(41, 41)] [(39, 60)] [(1, 8)] [(1, 1)]
def mgh16723 : aw_H := [(81, mgx16722)]
def mgx16724 : aw_A := ms_o [(0, 8)] [(0, 4)] ar_t32 ar_t32 [(0, 180)] [(42, 42)] [(39, 60)] [(1, 8)] [(1, 1)]
def mgh16725 : aw_H := [(81, mgx16724)]
def mgx16726 : aw_A := ms_o [(0, 8)] [(0, 4)] ar_t32 ar_t32 [(0, 180)] [(43, 43)] [(39, 60)] [(1, 8)] [(1, 1)]
def mgh16727 : aw_H := [(81, mgx16726)]
def mgx16728 : aw_A := ms_o [(0, 8)] [(0, 4)] ar_t32 ar_t32 [(0, 180)] [(44, 44)] [(39, 60)] [(1, 8)] [(1, 1)]
def mgh16729 : aw_H := [(81, mgx16728)]
def mgx16730 : aw_A := ms_o [(0, 8)] [(0, 4)] ar_t32 ar_t32 [(0, 180)] [(45, 45)] [(39, 60)] [(1, 8)] [(1, 1)]
def mgh16731 : aw_H := [(81, mgx16730)]
def mgx16732 : aw_A := ms_o [(0, 8)] [(0, 4)] ar_t32 ar_t32 [(0, 180)] [(46, 46)] [(39, 60)] [(1, 8)] [(1, 1)]
def mgh16733 : aw_H := [(81, mgx16732)]
def mgx16734 : aw_A := ms_o [(0, 8)] [(0, 4)] ar_t32 ar_t32 [(0, 180)] [(47, 47)] [(39, 60)] [(1, 8)] [(1, 1)]
def mgh16735 : aw_H := [(81, mgx16734)]
def mgx16736 : aw_A := ms_o [(0, 8)] [(0, 4)] ar_t32 ar_t32 [(0, 180)] [(48, 48)] [(39, 60)] [(1, 8)] [(1, 1)]
def mgh16737 : aw_H := [(81, mgx16736)]
def mgx16738 : aw_A := ms_o [(0, 8)] [(0, 4)] ar_t32 ar_t32 [(0, 180)] [(49, 49)] [(39, 60)] [(1, 8)] [(1, 1)]
def mgh16739 : aw_H := [(81, mgx16738)]
def mgx16740 : aw_A := ms_o [(0, 8)] [(0, 4)] ar_t32 ar_t32 [(0, 180)] [(50, 50)] [(39, 60)] [(1, 8)] [(1, 1)]
def mgh16741 : aw_H := [(81, mgx16740)]
def mgx16742 : aw_A := ms_o [(0, 8)] [(0, 4)] ar_t32 ar_t32 [(0, 180)] [(51, 51)] [(39, 60)] [(1, 8)] [(1, 1)]
def mgh16743 : aw_H := [(81, mgx16742)]
def mgx16744 : aw_A := ms_o [(0, 8)] [(0, 4)] ar_t32 ar_t32 [(0, 180)] [(52, 52)] [(39, 60)] [(1, 8)] [(1, 1)]
def mgh16745 : aw_H := [(81, mgx16744)]
def mgx16746 : aw_A := ms_o [(0, 8)] [(0, 4)] ar_t32 ar_t32 [(0, 180)] [(53, 53)] [(39, 60)] [(1, 8)] [(1, 1)]
def mgh16747 : aw_H := [(81, mgx16746)]
def mgx16748 : aw_A := ms_o [(0, 8)] [(0, 4)] ar_t32 ar_t32 [(0, 180)] [(54, 54)] [(39, 60)] [(1, 8)] [(1, 1)]
def mgh16749 : aw_H := [(81, mgx16748)]
def mgx16750 : aw_A := ms_o [(0, 8)] [(0, 4)] ar_t32 ar_t32 [(0, 180)] [(55, 55)] [(39, 60)] [(1, 8)] [(1, 1)]
def mgh16751 : aw_H := [(81, mgx16750)]
def mgx16752 : aw_A := ms_o [(0, 8)] [(0, 4)] ar_t32 ar_t32 [(0, 180)] [(56, 56)] [(39, 60)] [(1, 8)] [(1, 1)]
def mgh16753 : aw_H := [(81, mgx16752)]
def mgx16754 : aw_A := ms_o [(0, 8)] [(0, 4)] ar_t32 ar_t32 [(0, 180)] [(57, 57)] [(39, 60)] [(1, 8)] [(1, 1)]
def mgh16755 : aw_H := [(81, mgx16754)]
def mgx16756 : aw_A := ms_o [(0, 8)] [(0, 4)] ar_t32 ar_t32 [(0, 180)] [(58, 58)] [(39, 60)] [(1, 8)] [(1, 1)]
def mgh16757 : aw_H := [(81, mgx16756)]
def mgx16758 : aw_A := ms_o [(0, 8)] [(0, 4)] ar_t32 ar_t32 [(0, 180)] [(59, 59)] [(39, 60)] [(1, 8)] [(1, 1)]
def mgh16759 : aw_H := [(81, mgx16758)]
def mgx16760 : aw_A := ms_o [(0, 8)] [(0, 4)] ar_t32 ar_t32 [(0, 180)] [(60, 60)] [(39, 60)] [(1, 8)] [(1, 1)]
def mgh16761 : aw_H := [(81, mgx16760)]
/-- MiceRegistersModel.skip -/
def mgh16762 : aw_H := [(81, mgx14078), (90, .inr (.inl (0, 240, [], [])))]
def mgc5996 : ak_C := (122, [.inl 81], mgh16762, [81], [([], none, mgh14079), ([], none, mgh16721), ([], none, mgh16723), ([], none, mgh16725), ([], none, mgh16727), ([], none, mgh16729), ([], none, mgh16731), ([], none, mgh16733), ([], none, mgh16735), ([], none, mgh16737), ([], none, mgh16739), ([], none, mgh16741), ([], none, mgh16743), ([], none, mgh16745), ([], none, mgh16747), ([], none, mgh16749), ([], none, mgh16751), ([], none, mgh16753), ([], none, mgh16755), ([], none, mgh16757), ([], none, mgh16759), ([], none, mgh16761)])
def mgx16763 : aw_A := ms_o [(0, 8)] [(0, 4)] ar_t32 ar_t32 [(0, 180)] [(41, 41)] [(40, 60)] [(1, 8)] [(0, 0)]
def mgh16764 : aw_H := [(81, mgx16763)]
def mgx16765 : aw_A := ms_o [(0, 8)] [(0, 4)] ar_t32 ar_t32 [(0, 180)] [(42, 42)] [(40, 60)] [(1, 8)] [(0, 0)]
def mgh16766 : aw_H := [(81, mgx16765)]
def mgx16767 : aw_A := ms_o [(0, 8)] [(0, 4)] ar_t32 ar_t32 [(0, 180)] [(43, 43)] [(40, 60)] [(1, 8)] [(0, 0)]
def mgh16768 : aw_H := [(81, mgx16767)]
def mgx16769 : aw_A := ms_o [(0, 8)] [(0, 4)] ar_t32 ar_t32 [(0, 180)] [(44, 44)] [(40, 60)] [(1, 8)] [(0, 0)]
def mgh16770 : aw_H := [(81, mgx16769)]
def mgx16771 : aw_A := ms_o [(0, 8)] [(0, 4)] ar_t32 ar_t32 [(0, 180)] [(45, 45)] [(40, 60)] [(1, 8)] [(0, 0)]
def mgh16772 : aw_H := [(81, mgx16771)]
def mgx16773 : aw_A := ms_o [(0, 8)] [(0, 4)] ar_t32 ar_t32 [(0, 180)] [(46, 46)] [(40, 60)] [(1, 8)] [(0, 0)]
def mgh16774 : aw_H := [(81, mgx16773)]
def mgx16775 : aw_A := ms_o [(0, 8)] [(0, 4)] ar_t32 ar_t32 [(0, 180)] [(47, 47)] [(40, 60)] [(1, 8)] [(0, 0)]
def mgh16776 : aw_H := [(81, mgx16775)]
def mgx16777 : aw_A := ms_o [(0, 8)] [(0, 4)] ar_t32 ar_t32 [(0, 180)] [(48, 48)] [(40, 60)] [(1, 8)] [(0, 0)]
def mgh16778 : aw_H := [(81, mgx16777)]
def mgx16779 : aw_A := ms_o [(0, 8)] [(0, 4)] ar_t32 ar_t32 [(0, 180)] [(49, 49)] [(40, 60)] [(1, 8)] [(0, 0)]
def mgh16780 : aw_H := [(81, mgx16779)]
def mgx16781 : aw_A := ms_o [(0, 8)] [(0, 4)] ar_t32 ar_t32 [(0, 180)] [(50, 50)] [(40, 60)] [(1, 8)] [(0, 0)]
def mgh16782 : aw_H := [(81, mgx16781)]
def mgx16783 : aw_A := ms_o [(0, 8)] [(0, 4)] ar_t32 ar_t32 [(0, 180)] [(51, 51)] [(40, 60)] [(1, 8)] [(0, 0)]
def mgh16784 : aw_H := [(81, mgx16783)]
def mgx16785 : aw_A := ms_o [(0, 8)] [(0, 4)] ar_t32 ar_t32 [(0, 180)] [(52, 52)] [(40, 60)] [(1, 8)] [(0, 0)]
def mgh16786 : aw_H := [(81, mgx16785)]
def mgx16787 : aw_A := ms_o [(0, 8)] [(0, 4)] ar_t32 ar_t32 [(0, 180)] [(53, 53)] [(40, 60)] [(1, 8)] [(0, 0)]
def mgh16788 : aw_H := [(81, mgx16787)]
def mgx16789 : aw_A := ms_o [(0, 8)] [(0, 4)] ar_t32 ar_t32 [(0, 180)] [(54, 54)] [(40, 60)] [(1, 8)] [(0, 0)]
def mgh16790 : aw_H := [(81, mgx16789)]
def mgx16791 : aw_A := ms_o [(0, 8)] [(0, 4)] ar_t32 ar_t32 [(0, 180)] [(55, 55)] [(40, 60)] [(1, 8)] [(0, 0)]
def mgh16792 : aw_H := [(81, mgx16791)]
def mgx16793 : aw_A := ms_o [(0, 8)] [(0, 4)] ar_t32 ar_t32 [(0, 180)] [(56, 56)] [(40, 60)] [(1, 8)] [(0, 0)]
def mgh16794 : aw_H := [(81, mgx16793)]
def mgx16795 : aw_A := ms_o [(0, 8)] [(0, 4)] ar_t32 ar_t32 [(0, 180)] [(57, 57)] [(40, 60)] [(1, 8)] [(0, 0)]
def mgh16796 : aw_H := [(81, mgx16795)]
def mgx16797 : aw_A := ms_o [(0, 8)] [(0, 4)] ar_t32 ar_t32 [(0, 180)] [(58, 58)] [(40, 60)] [(1, 8)] [(0, 0)]
def mgh16798 : aw_H := [(81, mgx16797)]
def mgx16799 : aw_A := ms_o [(0, 8)] [(0, 4)] ar_t32 ar_t32 [(0, 180)] [(59, 59)] [(40, 60)] [(1, 8)] [(0, 0)]
def mgh16800 : aw_H := [(81, mgx16799)]
def mgx16801 : aw_A := ms_o [(0, 8)] [(0, 4)] ar_t32 ar_t32 [(0, 180)] [(60, 60)] [(40, 60)] [(1, 8)] [(0, 0)]
def mgh16802 : aw_H := [(81, mgx16801)]
/-- MiceRegistersModel.skip -/
def mgh16803 : aw_H := [(81, mgx13181), (90, .inr (.inl (0, 240, [], [])))]
def mgc6083 : ak_C := (122, [.inl 81], mgh16803, [81], [([], none, mgh13182), ([], none, mgh16764), ([], none, mgh16766), ([], none, mgh16768), ([], none, mgh16770), ([], none, mgh16772), ([], none, mgh16774), ([], none, mgh16776), ([], none, mgh16778), ([], none, mgh16780), ([], none, mgh16782), ([], none, mgh16784), ([], none, mgh16786), ([], none, mgh16788), ([], none, mgh16790), ([], none, mgh16792), ([], none, mgh16794), ([], none, mgh16796), ([], none, mgh16798), ([], none, mgh16800), ([], none, mgh16802)])
/-- MiceRegistersModel.twoFigures -/
def mgc4797 : ak_C := (126, [.inl 81, .inr (false, [(1, 1)]), .inr (false, [(40, 40)])], mgh12866, [81], [([], some (.inr (false, [(-9, -9)])), mgh12747), ([], some (.inr (false, [(0, 99)])), mgh13157), ([], some (.inr (false, [(-9, -9)])), mgh12865)])
theorem mgk4797 : ai_chk [mgc4790, mgc4796, mgc144] mgc4797 (fun pc => sm_ch sm_t126 pc, sm_Kn 3 6 none, fun x => sm_lk sm_ca3 x, some .int) [81] 6 0 [] [] 2000 [] = true := by decide +kernel
def mgh16804 : aw_H := [(81, mgx13176), (92, .inr (.inl (0, 8, [], []))), (93, .inr (.inl (0, 8, [], [])))]
def mgx16805 : aw_A := ms_o [(0, 8)] [(0, 4)] ar_t32 ar_t32 [(0, 180)] [(34, 34)] [(35, 60)] [(8, 8)] [(0, 0)]
def mgh16806 : aw_H := [(81, mgx16805), (92, .inr (.inl (0, 8, [], []))), (93, .inr (.inl (0, 8, [], [])))]
/-- MiceRegistersModel.readsLine -/
def mgx16807 : aw_A := ms_o [(0, 8)] [(0, 4)] ar_t32 ar_t32 [(0, 180)] [(34, 34)] [(35, 60)] [(0, 8)] [(0, 0)]
def mgh16808 : aw_H := [(81, mgx16807), (90, .inr (.inl (0, 240, [], []))), (92, .inr (.inl (0, 8, [], []))), (93, .inr (.inl (0, 8, [], [])))]
def mgc5379 : ak_C := (124, [.inl 81], mgh16808, [81, 92, 93], [([], some (.inr (false, [(0, 0)])), mgh13274), ([], some (.inr (false, [(1, 1)])), mgh16804), ([], some (.inr (false, [(0, 0)])), mgh12867), ([], some (.inr (false, [(0, 0)])), mgh12749), ([], some (.inr (false, [(0, 0)])), mgh16806)])
theorem mgk5379 : ai_chk [mgc4784, mgc4797] mgc5379 (fun pc => sm_ch sm_t124 pc, sm_Kn 3 3 none, fun x => sm_lk sm_ca3 x, some .boolean) [81, 92, 93] 3 0 [] [] 2000 [] = true := by decide +kernel
/-- MiceRegistersModel.figure -/
def mgc5380 : ak_C := (125, [.inl 81, .inr (false, [(0, 0)]), .inr (false, [(0, 7)])], mgh12620, [81], [([], some (.inr (false, [(-9, -9)])), mgh12569), ([], some (.inr (false, [(0, 7)])), mgh12762)])
/-- MiceRegistersModel.figure -/
def mgc5381 : ak_C := (125, [.inl 81, .inr (false, [(1, 1)]), .inr (false, [(9, 9)])], mgh12811, [81], [([], some (.inr (false, [(-9, -9)])), mgh12762), ([], some (.inr (false, [(1, 9)])), mgh12883)])
def mgh16809 : aw_H := [(81, mgx16807), (94, mgx4446)]
/-- MiceRegistersModel.readsMouse -/
def mgh16810 : aw_H := [(81, mgx16807), (90, .inr (.inl (0, 240, [], []))), (94, mgx4446)]
def mgc5382 : ak_C := (127, [.inl 81], mgh16810, [81, 94], [([], some (.inr (false, [(0, 0)])), mgh16809), ([], some (.inr (false, [(1, 1)])), mgh14083), ([], some (.inr (false, [(0, 0)])), mgh13283), ([], some (.inr (false, [(0, 0)])), mgh12880)])
theorem mgk5382 : ai_chk [mgc45, mgc147, mgc5380, mgc5381] mgc5382 (fun pc => sm_ch sm_t127 pc, sm_Kn 3 5 none, fun x => sm_lk sm_ca3 x, some .boolean) [81, 94] 5 0 [] [] 2000 [] = true := by decide +kernel
def mgx16811 : aw_A := ms_o [(0, 8)] [(0, 4)] ar_t32 ar_t32 [(0, 180)] [(39, 39)] [(38, 60)] [(1, 8)] [(0, 0)]
def mgh16812 : aw_H := [(81, mgx16811)]
def mgx16813 : aw_A := ms_o [(0, 8)] [(0, 4)] ar_t32 ar_t32 [(0, 180)] [(40, 40)] [(38, 60)] [(1, 8)] [(0, 0)]
def mgh16814 : aw_H := [(81, mgx16813)]
def mgx16815 : aw_A := ms_o [(0, 8)] [(0, 4)] ar_t32 ar_t32 [(0, 180)] [(41, 41)] [(38, 60)] [(1, 8)] [(0, 0)]
def mgh16816 : aw_H := [(81, mgx16815)]
def mgx16817 : aw_A := ms_o [(0, 8)] [(0, 4)] ar_t32 ar_t32 [(0, 180)] [(42, 42)] [(38, 60)] [(1, 8)] [(0, 0)]
def mgh16818 : aw_H := [(81, mgx16817)]
def mgx16819 : aw_A := ms_o [(0, 8)] [(0, 4)] ar_t32 ar_t32 [(0, 180)] [(43, 43)] [(38, 60)] [(1, 8)] [(0, 0)]
def mgh16820 : aw_H := [(81, mgx16819)]
def mgx16821 : aw_A := ms_o [(0, 8)] [(0, 4)] ar_t32 ar_t32 [(0, 180)] [(44, 44)] [(38, 60)] [(1, 8)] [(0, 0)]
def mgh16822 : aw_H := [(81, mgx16821)]
def mgx16823 : aw_A := ms_o [(0, 8)] [(0, 4)] ar_t32 ar_t32 [(0, 180)] [(45, 45)] [(38, 60)] [(1, 8)] [(0, 0)]
def mgh16824 : aw_H := [(81, mgx16823)]
def mgx16825 : aw_A := ms_o [(0, 8)] [(0, 4)] ar_t32 ar_t32 [(0, 180)] [(46, 46)] [(38, 60)] [(1, 8)] [(0, 0)]
def mgh16826 : aw_H := [(81, mgx16825)]
def mgx16827 : aw_A := ms_o [(0, 8)] [(0, 4)] ar_t32 ar_t32 [(0, 180)] [(47, 47)] [(38, 60)] [(1, 8)] [(0, 0)]
def mgh16828 : aw_H := [(81, mgx16827)]
def mgx16829 : aw_A := ms_o [(0, 8)] [(0, 4)] ar_t32 ar_t32 [(0, 180)] [(48, 48)] [(38, 60)] [(1, 8)] [(0, 0)]
def mgh16830 : aw_H := [(81, mgx16829)]
def mgx16831 : aw_A := ms_o [(0, 8)] [(0, 4)] ar_t32 ar_t32 [(0, 180)] [(49, 49)] [(38, 60)] [(1, 8)] [(0, 0)]
def mgh16832 : aw_H := [(81, mgx16831)]
def mgx16833 : aw_A := ms_o [(0, 8)] [(0, 4)] ar_t32 ar_t32 [(0, 180)] [(50, 50)] [(38, 60)] [(1, 8)] [(0, 0)]
def mgh16834 : aw_H := [(81, mgx16833)]
def mgx16835 : aw_A := ms_o [(0, 8)] [(0, 4)] ar_t32 ar_t32 [(0, 180)] [(51, 51)] [(38, 60)] [(1, 8)] [(0, 0)]
def mgh16836 : aw_H := [(81, mgx16835)]
def mgx16837 : aw_A := ms_o [(0, 8)] [(0, 4)] ar_t32 ar_t32 [(0, 180)] [(52, 52)] [(38, 60)] [(1, 8)] [(0, 0)]
def mgh16838 : aw_H := [(81, mgx16837)]
def mgx16839 : aw_A := ms_o [(0, 8)] [(0, 4)] ar_t32 ar_t32 [(0, 180)] [(53, 53)] [(38, 60)] [(1, 8)] [(0, 0)]
def mgh16840 : aw_H := [(81, mgx16839)]
def mgx16841 : aw_A := ms_o [(0, 8)] [(0, 4)] ar_t32 ar_t32 [(0, 180)] [(54, 54)] [(38, 60)] [(1, 8)] [(0, 0)]
def mgh16842 : aw_H := [(81, mgx16841)]
def mgx16843 : aw_A := ms_o [(0, 8)] [(0, 4)] ar_t32 ar_t32 [(0, 180)] [(55, 55)] [(38, 60)] [(1, 8)] [(0, 0)]
def mgh16844 : aw_H := [(81, mgx16843)]
def mgx16845 : aw_A := ms_o [(0, 8)] [(0, 4)] ar_t32 ar_t32 [(0, 180)] [(56, 56)] [(38, 60)] [(1, 8)] [(0, 0)]
def mgh16846 : aw_H := [(81, mgx16845)]
def mgx16847 : aw_A := ms_o [(0, 8)] [(0, 4)] ar_t32 ar_t32 [(0, 180)] [(57, 57)] [(38, 60)] [(1, 8)] [(0, 0)]
def mgh16848 : aw_H := [(81, mgx16847)]
def mgx16849 : aw_A := ms_o [(0, 8)] [(0, 4)] ar_t32 ar_t32 [(0, 180)] [(58, 58)] [(38, 60)] [(1, 8)] [(0, 0)]
def mgh16850 : aw_H := [(81, mgx16849)]
def mgx16851 : aw_A := ms_o [(0, 8)] [(0, 4)] ar_t32 ar_t32 [(0, 180)] [(59, 59)] [(38, 60)] [(1, 8)] [(0, 0)]
def mgh16852 : aw_H := [(81, mgx16851)]
def mgx16853 : aw_A := ms_o [(0, 8)] [(0, 4)] ar_t32 ar_t32 [(0, 180)] [(60, 60)] [(38, 60)] [(1, 8)] [(0, 0)]
def mgh16854 : aw_H := [(81, mgx16853)]
/-- MiceRegistersModel.skip -/
def mgc5903 : ak_C := (122, [.inl 81], mgh13180, [81], [([], none, mgh13177), ([], none, mgh16812), ([], none, mgh16814), ([], none, mgh16816), ([], none, mgh16818), ([], none, mgh16820), ([], none, mgh16822), ([], none, mgh16824), ([], none, mgh16826), ([], none, mgh16828), ([], none, mgh16830), ([], none, mgh16832), ([], none, mgh16834), ([], none, mgh16836), ([], none, mgh16838), ([], none, mgh16840), ([], none, mgh16842), ([], none, mgh16844), ([], none, mgh16846), ([], none, mgh16848), ([], none, mgh16850), ([], none, mgh16852), ([], none, mgh16854)])
def mgx16855 : aw_A := ms_o [(0, 8)] [(0, 4)] ar_t32 ar_t32 [(0, 180)] [(42, 42)] [(42, 60)] [(0, 7)] [(0, 0)]
def mgh16856 : aw_H := [(81, mgx16855)]
/-- MiceRegistersModel.figure -/
def mgh16857 : aw_H := [(81, mgx13164), (90, .inr (.inl (0, 240, [], [])))]
def mgc4820 : ak_C := (125, [.inl 81, .inr (false, [(0, 0)]), .inr (false, [(9, 9)])], mgh16857, [81], [([], some (.inr (false, [(-9, -9)])), mgh13165), ([], some (.inr (false, [(0, 9)])), mgh16856)])
/-- MiceRegistersModel.twoFigures -/
def mgc4821 : ak_C := (126, [.inl 81, .inr (false, [(1, 1)]), .inr (false, [(40, 40)])], mgh13166, [81], [([], some (.inr (false, [(-9, -9)])), mgh13162), ([], some (.inr (false, [(0, 99)])), mgh16856), ([], some (.inr (false, [(-9, -9)])), mgh13165)])
theorem mgk4821 : ai_chk [mgc4814, mgc4820, mgc144] mgc4821 (fun pc => sm_ch sm_t126 pc, sm_Kn 3 6 none, fun x => sm_lk sm_ca3 x, some .int) [81] 6 0 [] [] 2000 [] = true := by decide +kernel
def mgh16858 : aw_H := [(81, mgx13164), (92, .inr (.inl (0, 8, [], []))), (93, .inr (.inl (0, 8, [], [])))]
def mgx16859 : aw_A := ms_o [(0, 8)] [(0, 4)] ar_t32 ar_t32 [(0, 180)] [(42, 42)] [(42, 60)] [(1, 8)] [(0, 0)]
def mgh16860 : aw_H := [(81, mgx16859), (92, .inr (.inl (0, 8, [], []))), (93, .inr (.inl (0, 8, [], [])))]
def mgx16861 : aw_A := ms_o [(0, 8)] [(0, 4)] ar_t32 ar_t32 [(0, 180)] [(38, 38)] [(39, 60)] [(8, 8)] [(0, 0)]
def mgh16862 : aw_H := [(81, mgx16861), (92, .inr (.inl (0, 8, [], []))), (93, .inr (.inl (0, 8, [], [])))]
/-- MiceRegistersModel.readsLine -/
def mgx16863 : aw_A := ms_o [(0, 8)] [(0, 4)] ar_t32 ar_t32 [(0, 180)] [(38, 38)] [(39, 60)] [(0, 8)] [(0, 0)]
def mgh16864 : aw_H := [(81, mgx16863), (90, .inr (.inl (0, 240, [], []))), (92, .inr (.inl (0, 8, [], []))), (93, .inr (.inl (0, 8, [], [])))]
def mgc5395 : ak_C := (124, [.inl 81], mgh16864, [81, 92, 93], [([], some (.inr (false, [(0, 0)])), mgh16858), ([], some (.inr (false, [(1, 1)])), mgh16860), ([], some (.inr (false, [(0, 0)])), mgh13167), ([], some (.inr (false, [(0, 0)])), mgh13170), ([], some (.inr (false, [(0, 0)])), mgh16862)])
theorem mgk5395 : ai_chk [mgc4808, mgc4821] mgc5395 (fun pc => sm_ch sm_t124 pc, sm_Kn 3 3 none, fun x => sm_lk sm_ca3 x, some .boolean) [81, 92, 93] 3 0 [] [] 2000 [] = true := by decide +kernel
/-- MiceRegistersModel.figure -/
def mgc5396 : ak_C := (125, [.inl 81, .inr (false, [(0, 0)]), .inr (false, [(0, 7)])], mgh13183, [81], [([], some (.inr (false, [(-9, -9)])), mgh13179), ([], some (.inr (false, [(0, 7)])), mgh13182)])
/-- MiceRegistersModel.figure -/
def mgc5397 : ak_C := (125, [.inl 81, .inr (false, [(1, 1)]), .inr (false, [(9, 9)])], mgh16803, [81], [([], some (.inr (false, [(-9, -9)])), mgh13182), ([], some (.inr (false, [(1, 9)])), mgh13190)])
def mgh16865 : aw_H := [(81, mgx16863), (94, mgx4446)]
def mgx16866 : aw_A := ms_o [(0, 8)] [(0, 4)] ar_t32 ar_t32 [(0, 180)] [(41, 41)] [(41, 60)] [(1, 8)] [(1, 1)]
def mgh16867 : aw_H := [(81, mgx16866), (94, mgx4449)]
def mgh16868 : aw_H := [(81, mgx13181), (94, mgx4446)]
/-- MiceRegistersModel.readsMouse -/
def mgh16869 : aw_H := [(81, mgx16863), (90, .inr (.inl (0, 240, [], []))), (94, mgx4446)]
def mgc5398 : ak_C := (127, [.inl 81], mgh16869, [81, 94], [([], some (.inr (false, [(0, 0)])), mgh16865), ([], some (.inr (false, [(1, 1)])), mgh16867), ([], some (.inr (false, [(0, 0)])), mgh16868), ([], some (.inr (false, [(0, 0)])), mgh13187)])
theorem mgk5398 : ai_chk [mgc41, mgc147, mgc5396, mgc5397] mgc5398 (fun pc => sm_ch sm_t127 pc, sm_Kn 3 5 none, fun x => sm_lk sm_ca3 x, some .boolean) [81, 94] 5 0 [] [] 2000 [] = true := by decide +kernel
def mgh16870 : aw_H := [(81, mgx16866)]
def mgx16871 : aw_A := ms_o [(0, 8)] [(0, 4)] ar_t32 ar_t32 [(0, 180)] [(42, 42)] [(41, 60)] [(1, 8)] [(1, 1)]
def mgh16872 : aw_H := [(81, mgx16871)]
def mgx16873 : aw_A := ms_o [(0, 8)] [(0, 4)] ar_t32 ar_t32 [(0, 180)] [(43, 43)] [(41, 60)] [(1, 8)] [(1, 1)]
def mgh16874 : aw_H := [(81, mgx16873)]
def mgx16875 : aw_A := ms_o [(0, 8)] [(0, 4)] ar_t32 ar_t32 [(0, 180)] [(44, 44)] [(41, 60)] [(1, 8)] [(1, 1)]
def mgh16876 : aw_H := [(81, mgx16875)]
def mgx16877 : aw_A := ms_o [(0, 8)] [(0, 4)] ar_t32 ar_t32 [(0, 180)] [(45, 45)] [(41, 60)] [(1, 8)] [(1, 1)]
def mgh16878 : aw_H := [(81, mgx16877)]
def mgx16879 : aw_A := ms_o [(0, 8)] [(0, 4)] ar_t32 ar_t32 [(0, 180)] [(46, 46)] [(41, 60)] [(1, 8)] [(1, 1)]
def mgh16880 : aw_H := [(81, mgx16879)]
def mgx16881 : aw_A := ms_o [(0, 8)] [(0, 4)] ar_t32 ar_t32 [(0, 180)] [(47, 47)] [(41, 60)] [(1, 8)] [(1, 1)]
def mgh16882 : aw_H := [(81, mgx16881)]
def mgx16883 : aw_A := ms_o [(0, 8)] [(0, 4)] ar_t32 ar_t32 [(0, 180)] [(48, 48)] [(41, 60)] [(1, 8)] [(1, 1)]
def mgh16884 : aw_H := [(81, mgx16883)]
def mgx16885 : aw_A := ms_o [(0, 8)] [(0, 4)] ar_t32 ar_t32 [(0, 180)] [(49, 49)] [(41, 60)] [(1, 8)] [(1, 1)]
def mgh16886 : aw_H := [(81, mgx16885)]
def mgx16887 : aw_A := ms_o [(0, 8)] [(0, 4)] ar_t32 ar_t32 [(0, 180)] [(50, 50)] [(41, 60)] [(1, 8)] [(1, 1)]
def mgh16888 : aw_H := [(81, mgx16887)]
def mgx16889 : aw_A := ms_o [(0, 8)] [(0, 4)] ar_t32 ar_t32 [(0, 180)] [(51, 51)] [(41, 60)] [(1, 8)] [(1, 1)]
def mgh16890 : aw_H := [(81, mgx16889)]
def mgx16891 : aw_A := ms_o [(0, 8)] [(0, 4)] ar_t32 ar_t32 [(0, 180)] [(52, 52)] [(41, 60)] [(1, 8)] [(1, 1)]
def mgh16892 : aw_H := [(81, mgx16891)]
def mgx16893 : aw_A := ms_o [(0, 8)] [(0, 4)] ar_t32 ar_t32 [(0, 180)] [(53, 53)] [(41, 60)] [(1, 8)] [(1, 1)]
def mgh16894 : aw_H := [(81, mgx16893)]
def mgx16895 : aw_A := ms_o [(0, 8)] [(0, 4)] ar_t32 ar_t32 [(0, 180)] [(54, 54)] [(41, 60)] [(1, 8)] [(1, 1)]
def mgh16896 : aw_H := [(81, mgx16895)]
def mgx16897 : aw_A := ms_o [(0, 8)] [(0, 4)] ar_t32 ar_t32 [(0, 180)] [(55, 55)] [(41, 60)] [(1, 8)] [(1, 1)]
def mgh16898 : aw_H := [(81, mgx16897)]
def mgx16899 : aw_A := ms_o [(0, 8)] [(0, 4)] ar_t32 ar_t32 [(0, 180)] [(56, 56)] [(41, 60)] [(1, 8)] [(1, 1)]
def mgh16900 : aw_H := [(81, mgx16899)]
def mgx16901 : aw_A := ms_o [(0, 8)] [(0, 4)] ar_t32 ar_t32 [(0, 180)] [(57, 57)] [(41, 60)] [(1, 8)] [(1, 1)]
def mgh16902 : aw_H := [(81, mgx16901)]
def mgx16903 : aw_A := ms_o [(0, 8)] [(0, 4)] ar_t32 ar_t32 [(0, 180)] [(58, 58)] [(41, 60)] [(1, 8)] [(1, 1)]
def mgh16904 : aw_H := [(81, mgx16903)]
def mgx16905 : aw_A := ms_o [(0, 8)] [(0, 4)] ar_t32 ar_t32 [(0, 180)] [(59, 59)] [(41, 60)] [(1, 8)] [(1, 1)]
def mgh16906 : aw_H := [(81, mgx16905)]
def mgx16907 : aw_A := ms_o [(0, 8)] [(0, 4)] ar_t32 ar_t32 [(0, 180)] [(60, 60)] [(41, 60)] [(1, 8)] [(1, 1)]
def mgh16908 : aw_H := [(81, mgx16907)]
/-- MiceRegistersModel.skip -/
def mgh16909 : aw_H := [(81, mgx16866), (90, .inr (.inl (0, 240, [], [])))]
def mgc6089 : ak_C := (122, [.inl 81], mgh16909, [81], [([], none, mgh16870), ([], none, mgh16872), ([], none, mgh16874), ([], none, mgh16876), ([], none, mgh16878), ([], none, mgh16880), ([], none, mgh16882), ([], none, mgh16884), ([], none, mgh16886), ([], none, mgh16888), ([], none, mgh16890), ([], none, mgh16892), ([], none, mgh16894), ([], none, mgh16896), ([], none, mgh16898), ([], none, mgh16900), ([], none, mgh16902), ([], none, mgh16904), ([], none, mgh16906), ([], none, mgh16908)])
def mgh16910 : aw_H := [(81, mgx16859)]
def mgx16911 : aw_A := ms_o [(0, 8)] [(0, 4)] ar_t32 ar_t32 [(0, 180)] [(43, 43)] [(42, 60)] [(1, 8)] [(0, 0)]
def mgh16912 : aw_H := [(81, mgx16911)]
def mgx16913 : aw_A := ms_o [(0, 8)] [(0, 4)] ar_t32 ar_t32 [(0, 180)] [(44, 44)] [(42, 60)] [(1, 8)] [(0, 0)]
def mgh16914 : aw_H := [(81, mgx16913)]
def mgx16915 : aw_A := ms_o [(0, 8)] [(0, 4)] ar_t32 ar_t32 [(0, 180)] [(45, 45)] [(42, 60)] [(1, 8)] [(0, 0)]
def mgh16916 : aw_H := [(81, mgx16915)]
def mgx16917 : aw_A := ms_o [(0, 8)] [(0, 4)] ar_t32 ar_t32 [(0, 180)] [(46, 46)] [(42, 60)] [(1, 8)] [(0, 0)]
def mgh16918 : aw_H := [(81, mgx16917)]
def mgx16919 : aw_A := ms_o [(0, 8)] [(0, 4)] ar_t32 ar_t32 [(0, 180)] [(47, 47)] [(42, 60)] [(1, 8)] [(0, 0)]
def mgh16920 : aw_H := [(81, mgx16919)]
def mgx16921 : aw_A := ms_o [(0, 8)] [(0, 4)] ar_t32 ar_t32 [(0, 180)] [(48, 48)] [(42, 60)] [(1, 8)] [(0, 0)]
def mgh16922 : aw_H := [(81, mgx16921)]
def mgx16923 : aw_A := ms_o [(0, 8)] [(0, 4)] ar_t32 ar_t32 [(0, 180)] [(49, 49)] [(42, 60)] [(1, 8)] [(0, 0)]
def mgh16924 : aw_H := [(81, mgx16923)]
def mgx16925 : aw_A := ms_o [(0, 8)] [(0, 4)] ar_t32 ar_t32 [(0, 180)] [(50, 50)] [(42, 60)] [(1, 8)] [(0, 0)]
def mgh16926 : aw_H := [(81, mgx16925)]
def mgx16927 : aw_A := ms_o [(0, 8)] [(0, 4)] ar_t32 ar_t32 [(0, 180)] [(51, 51)] [(42, 60)] [(1, 8)] [(0, 0)]
def mgh16928 : aw_H := [(81, mgx16927)]
def mgx16929 : aw_A := ms_o [(0, 8)] [(0, 4)] ar_t32 ar_t32 [(0, 180)] [(52, 52)] [(42, 60)] [(1, 8)] [(0, 0)]
def mgh16930 : aw_H := [(81, mgx16929)]
def mgx16931 : aw_A := ms_o [(0, 8)] [(0, 4)] ar_t32 ar_t32 [(0, 180)] [(53, 53)] [(42, 60)] [(1, 8)] [(0, 0)]
def mgh16932 : aw_H := [(81, mgx16931)]
def mgx16933 : aw_A := ms_o [(0, 8)] [(0, 4)] ar_t32 ar_t32 [(0, 180)] [(54, 54)] [(42, 60)] [(1, 8)] [(0, 0)]
def mgh16934 : aw_H := [(81, mgx16933)]
def mgx16935 : aw_A := ms_o [(0, 8)] [(0, 4)] ar_t32 ar_t32 [(0, 180)] [(55, 55)] [(42, 60)] [(1, 8)] [(0, 0)]
def mgh16936 : aw_H := [(81, mgx16935)]
def mgx16937 : aw_A := ms_o [(0, 8)] [(0, 4)] ar_t32 ar_t32 [(0, 180)] [(56, 56)] [(42, 60)] [(1, 8)] [(0, 0)]
def mgh16938 : aw_H := [(81, mgx16937)]
def mgx16939 : aw_A := ms_o [(0, 8)] [(0, 4)] ar_t32 ar_t32 [(0, 180)] [(57, 57)] [(42, 60)] [(1, 8)] [(0, 0)]
def mgh16940 : aw_H := [(81, mgx16939)]
def mgx16941 : aw_A := ms_o [(0, 8)] [(0, 4)] ar_t32 ar_t32 [(0, 180)] [(58, 58)] [(42, 60)] [(1, 8)] [(0, 0)]
def mgh16942 : aw_H := [(81, mgx16941)]
def mgx16943 : aw_A := ms_o [(0, 8)] [(0, 4)] ar_t32 ar_t32 [(0, 180)] [(59, 59)] [(42, 60)] [(1, 8)] [(0, 0)]
def mgh16944 : aw_H := [(81, mgx16943)]
def mgx16945 : aw_A := ms_o [(0, 8)] [(0, 4)] ar_t32 ar_t32 [(0, 180)] [(60, 60)] [(42, 60)] [(1, 8)] [(0, 0)]
def mgh16946 : aw_H := [(81, mgx16945)]
/-- MiceRegistersModel.skip -/
def mgh16947 : aw_H := [(81, mgx16859), (90, .inr (.inl (0, 240, [], [])))]
def mgc6131 : ak_C := (122, [.inl 81], mgh16947, [81], [([], none, mgh16910), ([], none, mgh16912), ([], none, mgh16914), ([], none, mgh16916), ([], none, mgh16918), ([], none, mgh16920), ([], none, mgh16922), ([], none, mgh16924), ([], none, mgh16926), ([], none, mgh16928), ([], none, mgh16930), ([], none, mgh16932), ([], none, mgh16934), ([], none, mgh16936), ([], none, mgh16938), ([], none, mgh16940), ([], none, mgh16942), ([], none, mgh16944), ([], none, mgh16946)])
def mgx16948 : aw_A := ms_o [(0, 8)] [(0, 4)] ar_t32 ar_t32 [(0, 180)] [(43, 43)] [(43, 60)] [(0, 7)] [(0, 0)]
def mgh16949 : aw_H := [(81, mgx16948)]
/-- MiceRegistersModel.figure -/
def mgh16950 : aw_H := [(81, mgx16855), (90, .inr (.inl (0, 240, [], [])))]
def mgc4826 : ak_C := (125, [.inl 81, .inr (false, [(0, 0)]), .inr (false, [(9, 9)])], mgh16950, [81], [([], some (.inr (false, [(-9, -9)])), mgh16856), ([], some (.inr (false, [(0, 9)])), mgh16949)])
def mgx16951 : aw_A := ms_o [(0, 8)] [(0, 4)] ar_t32 ar_t32 [(0, 180)] [(44, 44)] [(44, 60)] [(0, 7)] [(0, 0)]
def mgh16952 : aw_H := [(81, mgx16951)]
/-- MiceRegistersModel.figure -/
def mgh16953 : aw_H := [(81, mgx16948), (90, .inr (.inl (0, 240, [], [])))]
def mgc4832 : ak_C := (125, [.inl 81, .inr (false, [(0, 0)]), .inr (false, [(9, 9)])], mgh16953, [81], [([], some (.inr (false, [(-9, -9)])), mgh16949), ([], some (.inr (false, [(0, 9)])), mgh16952)])
/-- MiceRegistersModel.twoFigures -/
def mgc4833 : ak_C := (126, [.inl 81, .inr (false, [(1, 1)]), .inr (false, [(40, 40)])], mgh16950, [81], [([], some (.inr (false, [(-9, -9)])), mgh16856), ([], some (.inr (false, [(0, 99)])), mgh16952), ([], some (.inr (false, [(-9, -9)])), mgh16949)])
theorem mgk4833 : ai_chk [mgc4826, mgc4832, mgc144] mgc4833 (fun pc => sm_ch sm_t126 pc, sm_Kn 3 6 none, fun x => sm_lk sm_ca3 x, some .int) [81] 6 0 [] [] 2000 [] = true := by decide +kernel
def mgh16954 : aw_H := [(81, mgx16948), (92, .inr (.inl (0, 8, [], []))), (93, .inr (.inl (0, 8, [], [])))]
def mgx16955 : aw_A := ms_o [(0, 8)] [(0, 4)] ar_t32 ar_t32 [(0, 180)] [(44, 44)] [(44, 60)] [(1, 8)] [(0, 0)]
def mgh16956 : aw_H := [(81, mgx16955), (92, .inr (.inl (0, 8, [], []))), (93, .inr (.inl (0, 8, [], [])))]
def mgh16957 : aw_H := [(81, mgx16855), (92, .inr (.inl (0, 8, [], []))), (93, .inr (.inl (0, 8, [], [])))]
def mgx16958 : aw_A := ms_o [(0, 8)] [(0, 4)] ar_t32 ar_t32 [(0, 180)] [(40, 40)] [(41, 60)] [(8, 8)] [(0, 0)]
def mgh16959 : aw_H := [(81, mgx16958), (92, .inr (.inl (0, 8, [], []))), (93, .inr (.inl (0, 8, [], [])))]
/-- MiceRegistersModel.readsLine -/
def mgx16960 : aw_A := ms_o [(0, 8)] [(0, 4)] ar_t32 ar_t32 [(0, 180)] [(40, 40)] [(41, 60)] [(0, 8)] [(0, 0)]
def mgh16961 : aw_H := [(81, mgx16960), (90, .inr (.inl (0, 240, [], []))), (92, .inr (.inl (0, 8, [], []))), (93, .inr (.inl (0, 8, [], [])))]
def mgc5403 : ak_C := (124, [.inl 81], mgh16961, [81, 92, 93], [([], some (.inr (false, [(0, 0)])), mgh16954), ([], some (.inr (false, [(1, 1)])), mgh16956), ([], some (.inr (false, [(0, 0)])), mgh16957), ([], some (.inr (false, [(0, 0)])), mgh16858), ([], some (.inr (false, [(0, 0)])), mgh16959)])
theorem mgk5403 : ai_chk [mgc4820, mgc4833] mgc5403 (fun pc => sm_ch sm_t124 pc, sm_Kn 3 3 none, fun x => sm_lk sm_ca3 x, some .boolean) [81, 92, 93] 3 0 [] [] 2000 [] = true := by decide +kernel
/-- MiceRegistersModel.figure -/
def mgc5404 : ak_C := (125, [.inl 81, .inr (false, [(0, 0)]), .inr (false, [(0, 7)])], mgh13229, [81], [([], some (.inr (false, [(-9, -9)])), mgh13190), ([], some (.inr (false, [(0, 7)])), mgh16910)])
def mgx16962 : aw_A := ms_o [(0, 8)] [(0, 4)] ar_t32 ar_t32 [(0, 180)] [(43, 43)] [(43, 60)] [(1, 8)] [(0, 0)]
def mgh16963 : aw_H := [(81, mgx16962)]
/-- MiceRegistersModel.figure -/
def mgc5405 : ak_C := (125, [.inl 81, .inr (false, [(1, 1)]), .inr (false, [(9, 9)])], mgh16947, [81], [([], some (.inr (false, [(-9, -9)])), mgh16910), ([], some (.inr (false, [(1, 9)])), mgh16963)])
def mgh16964 : aw_H := [(81, mgx16960), (94, mgx4446)]
def mgx16965 : aw_A := ms_o [(0, 8)] [(0, 4)] ar_t32 ar_t32 [(0, 180)] [(43, 43)] [(43, 60)] [(1, 8)] [(1, 1)]
def mgh16966 : aw_H := [(81, mgx16965), (94, mgx4449)]
def mgh16967 : aw_H := [(81, mgx16859), (94, mgx4446)]
def mgh16968 : aw_H := [(81, mgx13168), (94, mgx4446)]
/-- MiceRegistersModel.readsMouse -/
def mgh16969 : aw_H := [(81, mgx16960), (90, .inr (.inl (0, 240, [], []))), (94, mgx4446)]
def mgc5406 : ak_C := (127, [.inl 81], mgh16969, [81, 94], [([], some (.inr (false, [(0, 0)])), mgh16964), ([], some (.inr (false, [(1, 1)])), mgh16966), ([], some (.inr (false, [(0, 0)])), mgh16967), ([], some (.inr (false, [(0, 0)])), mgh16968)])
theorem mgk5406 : ai_chk [mgc39, mgc147, mgc5404, mgc5405] mgc5406 (fun pc => sm_ch sm_t127 pc, sm_Kn 3 5 none, fun x => sm_lk sm_ca3 x, some .boolean) [81, 94] 5 0 [] [] 2000 [] = true := by decide +kernel
def mgh16970 : aw_H := [(81, mgx16955)]
def mgx16971 : aw_A := ms_o [(0, 8)] [(0, 4)] ar_t32 ar_t32 [(0, 180)] [(45, 45)] [(44, 60)] [(1, 8)] [(0, 0)]
def mgh16972 : aw_H := [(81, mgx16971)]
def mgx16973 : aw_A := ms_o [(0, 8)] [(0, 4)] ar_t32 ar_t32 [(0, 180)] [(46, 46)] [(44, 60)] [(1, 8)] [(0, 0)]
def mgh16974 : aw_H := [(81, mgx16973)]
def mgx16975 : aw_A := ms_o [(0, 8)] [(0, 4)] ar_t32 ar_t32 [(0, 180)] [(47, 47)] [(44, 60)] [(1, 8)] [(0, 0)]
def mgh16976 : aw_H := [(81, mgx16975)]
def mgx16977 : aw_A := ms_o [(0, 8)] [(0, 4)] ar_t32 ar_t32 [(0, 180)] [(48, 48)] [(44, 60)] [(1, 8)] [(0, 0)]
def mgh16978 : aw_H := [(81, mgx16977)]
def mgx16979 : aw_A := ms_o [(0, 8)] [(0, 4)] ar_t32 ar_t32 [(0, 180)] [(49, 49)] [(44, 60)] [(1, 8)] [(0, 0)]
def mgh16980 : aw_H := [(81, mgx16979)]
def mgx16981 : aw_A := ms_o [(0, 8)] [(0, 4)] ar_t32 ar_t32 [(0, 180)] [(50, 50)] [(44, 60)] [(1, 8)] [(0, 0)]
def mgh16982 : aw_H := [(81, mgx16981)]
def mgx16983 : aw_A := ms_o [(0, 8)] [(0, 4)] ar_t32 ar_t32 [(0, 180)] [(51, 51)] [(44, 60)] [(1, 8)] [(0, 0)]
def mgh16984 : aw_H := [(81, mgx16983)]
def mgx16985 : aw_A := ms_o [(0, 8)] [(0, 4)] ar_t32 ar_t32 [(0, 180)] [(52, 52)] [(44, 60)] [(1, 8)] [(0, 0)]
def mgh16986 : aw_H := [(81, mgx16985)]
def mgx16987 : aw_A := ms_o [(0, 8)] [(0, 4)] ar_t32 ar_t32 [(0, 180)] [(53, 53)] [(44, 60)] [(1, 8)] [(0, 0)]
def mgh16988 : aw_H := [(81, mgx16987)]
def mgx16989 : aw_A := ms_o [(0, 8)] [(0, 4)] ar_t32 ar_t32 [(0, 180)] [(54, 54)] [(44, 60)] [(1, 8)] [(0, 0)]
def mgh16990 : aw_H := [(81, mgx16989)]
def mgx16991 : aw_A := ms_o [(0, 8)] [(0, 4)] ar_t32 ar_t32 [(0, 180)] [(55, 55)] [(44, 60)] [(1, 8)] [(0, 0)]
def mgh16992 : aw_H := [(81, mgx16991)]
def mgx16993 : aw_A := ms_o [(0, 8)] [(0, 4)] ar_t32 ar_t32 [(0, 180)] [(56, 56)] [(44, 60)] [(1, 8)] [(0, 0)]
def mgh16994 : aw_H := [(81, mgx16993)]
def mgx16995 : aw_A := ms_o [(0, 8)] [(0, 4)] ar_t32 ar_t32 [(0, 180)] [(57, 57)] [(44, 60)] [(1, 8)] [(0, 0)]
def mgh16996 : aw_H := [(81, mgx16995)]
def mgx16997 : aw_A := ms_o [(0, 8)] [(0, 4)] ar_t32 ar_t32 [(0, 180)] [(58, 58)] [(44, 60)] [(1, 8)] [(0, 0)]
def mgh16998 : aw_H := [(81, mgx16997)]
def mgx16999 : aw_A := ms_o [(0, 8)] [(0, 4)] ar_t32 ar_t32 [(0, 180)] [(59, 59)] [(44, 60)] [(1, 8)] [(0, 0)]
def mgh17000 : aw_H := [(81, mgx16999)]
def mgx17001 : aw_A := ms_o [(0, 8)] [(0, 4)] ar_t32 ar_t32 [(0, 180)] [(60, 60)] [(44, 60)] [(1, 8)] [(0, 0)]
def mgh17002 : aw_H := [(81, mgx17001)]
/-- MiceRegistersModel.skip -/
def mgh17003 : aw_H := [(81, mgx16955), (90, .inr (.inl (0, 240, [], [])))]
def mgc6212 : ak_C := (122, [.inl 81], mgh17003, [81], [([], none, mgh16970), ([], none, mgh16972), ([], none, mgh16974), ([], none, mgh16976), ([], none, mgh16978), ([], none, mgh16980), ([], none, mgh16982), ([], none, mgh16984), ([], none, mgh16986), ([], none, mgh16988), ([], none, mgh16990), ([], none, mgh16992), ([], none, mgh16994), ([], none, mgh16996), ([], none, mgh16998), ([], none, mgh17000), ([], none, mgh17002)])
def mgh17004 : aw_H := [(81, mgx16965)]
def mgx17005 : aw_A := ms_o [(0, 8)] [(0, 4)] ar_t32 ar_t32 [(0, 180)] [(44, 44)] [(43, 60)] [(1, 8)] [(1, 1)]
def mgh17006 : aw_H := [(81, mgx17005)]
def mgx17007 : aw_A := ms_o [(0, 8)] [(0, 4)] ar_t32 ar_t32 [(0, 180)] [(45, 45)] [(43, 60)] [(1, 8)] [(1, 1)]
def mgh17008 : aw_H := [(81, mgx17007)]
def mgx17009 : aw_A := ms_o [(0, 8)] [(0, 4)] ar_t32 ar_t32 [(0, 180)] [(46, 46)] [(43, 60)] [(1, 8)] [(1, 1)]
def mgh17010 : aw_H := [(81, mgx17009)]
def mgx17011 : aw_A := ms_o [(0, 8)] [(0, 4)] ar_t32 ar_t32 [(0, 180)] [(47, 47)] [(43, 60)] [(1, 8)] [(1, 1)]
def mgh17012 : aw_H := [(81, mgx17011)]
def mgx17013 : aw_A := ms_o [(0, 8)] [(0, 4)] ar_t32 ar_t32 [(0, 180)] [(48, 48)] [(43, 60)] [(1, 8)] [(1, 1)]
def mgh17014 : aw_H := [(81, mgx17013)]
def mgx17015 : aw_A := ms_o [(0, 8)] [(0, 4)] ar_t32 ar_t32 [(0, 180)] [(49, 49)] [(43, 60)] [(1, 8)] [(1, 1)]
def mgh17016 : aw_H := [(81, mgx17015)]
def mgx17017 : aw_A := ms_o [(0, 8)] [(0, 4)] ar_t32 ar_t32 [(0, 180)] [(50, 50)] [(43, 60)] [(1, 8)] [(1, 1)]
def mgh17018 : aw_H := [(81, mgx17017)]
def mgx17019 : aw_A := ms_o [(0, 8)] [(0, 4)] ar_t32 ar_t32 [(0, 180)] [(51, 51)] [(43, 60)] [(1, 8)] [(1, 1)]
def mgh17020 : aw_H := [(81, mgx17019)]
def mgx17021 : aw_A := ms_o [(0, 8)] [(0, 4)] ar_t32 ar_t32 [(0, 180)] [(52, 52)] [(43, 60)] [(1, 8)] [(1, 1)]
def mgh17022 : aw_H := [(81, mgx17021)]
def mgx17023 : aw_A := ms_o [(0, 8)] [(0, 4)] ar_t32 ar_t32 [(0, 180)] [(53, 53)] [(43, 60)] [(1, 8)] [(1, 1)]
def mgh17024 : aw_H := [(81, mgx17023)]
def mgx17025 : aw_A := ms_o [(0, 8)] [(0, 4)] ar_t32 ar_t32 [(0, 180)] [(54, 54)] [(43, 60)] [(1, 8)] [(1, 1)]
def mgh17026 : aw_H := [(81, mgx17025)]
def mgx17027 : aw_A := ms_o [(0, 8)] [(0, 4)] ar_t32 ar_t32 [(0, 180)] [(55, 55)] [(43, 60)] [(1, 8)] [(1, 1)]
def mgh17028 : aw_H := [(81, mgx17027)]
def mgx17029 : aw_A := ms_o [(0, 8)] [(0, 4)] ar_t32 ar_t32 [(0, 180)] [(56, 56)] [(43, 60)] [(1, 8)] [(1, 1)]
def mgh17030 : aw_H := [(81, mgx17029)]
def mgx17031 : aw_A := ms_o [(0, 8)] [(0, 4)] ar_t32 ar_t32 [(0, 180)] [(57, 57)] [(43, 60)] [(1, 8)] [(1, 1)]
def mgh17032 : aw_H := [(81, mgx17031)]
def mgx17033 : aw_A := ms_o [(0, 8)] [(0, 4)] ar_t32 ar_t32 [(0, 180)] [(58, 58)] [(43, 60)] [(1, 8)] [(1, 1)]
def mgh17034 : aw_H := [(81, mgx17033)]
def mgx17035 : aw_A := ms_o [(0, 8)] [(0, 4)] ar_t32 ar_t32 [(0, 180)] [(59, 59)] [(43, 60)] [(1, 8)] [(1, 1)]
def mgh17036 : aw_H := [(81, mgx17035)]
def mgx17037 : aw_A := ms_o [(0, 8)] [(0, 4)] ar_t32 ar_t32 [(0, 180)] [(60, 60)] [(43, 60)] [(1, 8)] [(1, 1)]
def mgh17038 : aw_H := [(81, mgx17037)]
/-- MiceRegistersModel.skip -/
def mgh17039 : aw_H := [(81, mgx16965), (90, .inr (.inl (0, 240, [], [])))]
def mgc6208 : ak_C := (122, [.inl 81], mgh17039, [81], [([], none, mgh17004), ([], none, mgh17006), ([], none, mgh17008), ([], none, mgh17010), ([], none, mgh17012), ([], none, mgh17014), ([], none, mgh17016), ([], none, mgh17018), ([], none, mgh17020), ([], none, mgh17022), ([], none, mgh17024), ([], none, mgh17026), ([], none, mgh17028), ([], none, mgh17030), ([], none, mgh17032), ([], none, mgh17034), ([], none, mgh17036), ([], none, mgh17038)])
/-- MiceRegistersModel.twoFigures -/
def mgc4827 : ak_C := (126, [.inl 81, .inr (false, [(1, 1)]), .inr (false, [(40, 40)])], mgh16857, [81], [([], some (.inr (false, [(-9, -9)])), mgh13165), ([], some (.inr (false, [(0, 99)])), mgh16949), ([], some (.inr (false, [(-9, -9)])), mgh16856)])
theorem mgk4827 : ai_chk [mgc4820, mgc4826, mgc144] mgc4827 (fun pc => sm_ch sm_t126 pc, sm_Kn 3 6 none, fun x => sm_lk sm_ca3 x, some .int) [81] 6 0 [] [] 2000 [] = true := by decide +kernel
def mgh17040 : aw_H := [(81, mgx16962), (92, .inr (.inl (0, 8, [], []))), (93, .inr (.inl (0, 8, [], [])))]
def mgx17041 : aw_A := ms_o [(0, 8)] [(0, 4)] ar_t32 ar_t32 [(0, 180)] [(39, 39)] [(40, 60)] [(8, 8)] [(0, 0)]
def mgh17042 : aw_H := [(81, mgx17041), (92, .inr (.inl (0, 8, [], []))), (93, .inr (.inl (0, 8, [], [])))]
/-- MiceRegistersModel.readsLine -/
def mgx17043 : aw_A := ms_o [(0, 8)] [(0, 4)] ar_t32 ar_t32 [(0, 180)] [(39, 39)] [(40, 60)] [(0, 8)] [(0, 0)]
def mgh17044 : aw_H := [(81, mgx17043), (90, .inr (.inl (0, 240, [], []))), (92, .inr (.inl (0, 8, [], []))), (93, .inr (.inl (0, 8, [], [])))]
def mgc5399 : ak_C := (124, [.inl 81], mgh17044, [81, 92, 93], [([], some (.inr (false, [(0, 0)])), mgh16957), ([], some (.inr (false, [(1, 1)])), mgh17040), ([], some (.inr (false, [(0, 0)])), mgh16858), ([], some (.inr (false, [(0, 0)])), mgh13167), ([], some (.inr (false, [(0, 0)])), mgh17042)])
theorem mgk5399 : ai_chk [mgc4814, mgc4827] mgc5399 (fun pc => sm_ch sm_t124 pc, sm_Kn 3 3 none, fun x => sm_lk sm_ca3 x, some .boolean) [81, 92, 93] 3 0 [] [] 2000 [] = true := by decide +kernel
/-- MiceRegistersModel.figure -/
def mgc5400 : ak_C := (125, [.inl 81, .inr (false, [(0, 0)]), .inr (false, [(0, 7)])], mgh16803, [81], [([], some (.inr (false, [(-9, -9)])), mgh13182), ([], some (.inr (false, [(0, 7)])), mgh13190)])
/-- MiceRegistersModel.figure -/
def mgc5401 : ak_C := (125, [.inl 81, .inr (false, [(1, 1)]), .inr (false, [(9, 9)])], mgh13229, [81], [([], some (.inr (false, [(-9, -9)])), mgh13190), ([], some (.inr (false, [(1, 9)])), mgh16910)])
def mgh17045 : aw_H := [(81, mgx17043), (94, mgx4446)]
def mgx17046 : aw_A := ms_o [(0, 8)] [(0, 4)] ar_t32 ar_t32 [(0, 180)] [(42, 42)] [(42, 60)] [(1, 8)] [(1, 1)]
def mgh17047 : aw_H := [(81, mgx17046), (94, mgx4449)]
/-- MiceRegistersModel.readsMouse -/
def mgh17048 : aw_H := [(81, mgx17043), (90, .inr (.inl (0, 240, [], []))), (94, mgx4446)]
def mgc5402 : ak_C := (127, [.inl 81], mgh17048, [81, 94], [([], some (.inr (false, [(0, 0)])), mgh17045), ([], some (.inr (false, [(1, 1)])), mgh17047), ([], some (.inr (false, [(0, 0)])), mgh16968), ([], some (.inr (false, [(0, 0)])), mgh16868)])
theorem mgk5402 : ai_chk [mgc40, mgc147, mgc5400, mgc5401] mgc5402 (fun pc => sm_ch sm_t127 pc, sm_Kn 3 5 none, fun x => sm_lk sm_ca3 x, some .boolean) [81, 94] 5 0 [] [] 2000 [] = true := by decide +kernel
def mgh17049 : aw_H := [(81, mgx17046)]
def mgx17050 : aw_A := ms_o [(0, 8)] [(0, 4)] ar_t32 ar_t32 [(0, 180)] [(43, 43)] [(42, 60)] [(1, 8)] [(1, 1)]
def mgh17051 : aw_H := [(81, mgx17050)]
def mgx17052 : aw_A := ms_o [(0, 8)] [(0, 4)] ar_t32 ar_t32 [(0, 180)] [(44, 44)] [(42, 60)] [(1, 8)] [(1, 1)]
def mgh17053 : aw_H := [(81, mgx17052)]
def mgx17054 : aw_A := ms_o [(0, 8)] [(0, 4)] ar_t32 ar_t32 [(0, 180)] [(45, 45)] [(42, 60)] [(1, 8)] [(1, 1)]
def mgh17055 : aw_H := [(81, mgx17054)]
def mgx17056 : aw_A := ms_o [(0, 8)] [(0, 4)] ar_t32 ar_t32 [(0, 180)] [(46, 46)] [(42, 60)] [(1, 8)] [(1, 1)]
def mgh17057 : aw_H := [(81, mgx17056)]
def mgx17058 : aw_A := ms_o [(0, 8)] [(0, 4)] ar_t32 ar_t32 [(0, 180)] [(47, 47)] [(42, 60)] [(1, 8)] [(1, 1)]
def mgh17059 : aw_H := [(81, mgx17058)]
def mgx17060 : aw_A := ms_o [(0, 8)] [(0, 4)] ar_t32 ar_t32 [(0, 180)] [(48, 48)] [(42, 60)] [(1, 8)] [(1, 1)]
def mgh17061 : aw_H := [(81, mgx17060)]
def mgx17062 : aw_A := ms_o [(0, 8)] [(0, 4)] ar_t32 ar_t32 [(0, 180)] [(49, 49)] [(42, 60)] [(1, 8)] [(1, 1)]
def mgh17063 : aw_H := [(81, mgx17062)]
def mgx17064 : aw_A := ms_o [(0, 8)] [(0, 4)] ar_t32 ar_t32 [(0, 180)] [(50, 50)] [(42, 60)] [(1, 8)] [(1, 1)]
def mgh17065 : aw_H := [(81, mgx17064)]
def mgx17066 : aw_A := ms_o [(0, 8)] [(0, 4)] ar_t32 ar_t32 [(0, 180)] [(51, 51)] [(42, 60)] [(1, 8)] [(1, 1)]
def mgh17067 : aw_H := [(81, mgx17066)]
def mgx17068 : aw_A := ms_o [(0, 8)] [(0, 4)] ar_t32 ar_t32 [(0, 180)] [(52, 52)] [(42, 60)] [(1, 8)] [(1, 1)]
def mgh17069 : aw_H := [(81, mgx17068)]
def mgx17070 : aw_A := ms_o [(0, 8)] [(0, 4)] ar_t32 ar_t32 [(0, 180)] [(53, 53)] [(42, 60)] [(1, 8)] [(1, 1)]
def mgh17071 : aw_H := [(81, mgx17070)]
def mgx17072 : aw_A := ms_o [(0, 8)] [(0, 4)] ar_t32 ar_t32 [(0, 180)] [(54, 54)] [(42, 60)] [(1, 8)] [(1, 1)]
def mgh17073 : aw_H := [(81, mgx17072)]
def mgx17074 : aw_A := ms_o [(0, 8)] [(0, 4)] ar_t32 ar_t32 [(0, 180)] [(55, 55)] [(42, 60)] [(1, 8)] [(1, 1)]
def mgh17075 : aw_H := [(81, mgx17074)]
def mgx17076 : aw_A := ms_o [(0, 8)] [(0, 4)] ar_t32 ar_t32 [(0, 180)] [(56, 56)] [(42, 60)] [(1, 8)] [(1, 1)]
def mgh17077 : aw_H := [(81, mgx17076)]
def mgx17078 : aw_A := ms_o [(0, 8)] [(0, 4)] ar_t32 ar_t32 [(0, 180)] [(57, 57)] [(42, 60)] [(1, 8)] [(1, 1)]
def mgh17079 : aw_H := [(81, mgx17078)]
def mgx17080 : aw_A := ms_o [(0, 8)] [(0, 4)] ar_t32 ar_t32 [(0, 180)] [(58, 58)] [(42, 60)] [(1, 8)] [(1, 1)]
def mgh17081 : aw_H := [(81, mgx17080)]
def mgx17082 : aw_A := ms_o [(0, 8)] [(0, 4)] ar_t32 ar_t32 [(0, 180)] [(59, 59)] [(42, 60)] [(1, 8)] [(1, 1)]
def mgh17083 : aw_H := [(81, mgx17082)]
def mgx17084 : aw_A := ms_o [(0, 8)] [(0, 4)] ar_t32 ar_t32 [(0, 180)] [(60, 60)] [(42, 60)] [(1, 8)] [(1, 1)]
def mgh17085 : aw_H := [(81, mgx17084)]
/-- MiceRegistersModel.skip -/
def mgh17086 : aw_H := [(81, mgx17046), (90, .inr (.inl (0, 240, [], [])))]
def mgc6132 : ak_C := (122, [.inl 81], mgh17086, [81], [([], none, mgh17049), ([], none, mgh17051), ([], none, mgh17053), ([], none, mgh17055), ([], none, mgh17057), ([], none, mgh17059), ([], none, mgh17061), ([], none, mgh17063), ([], none, mgh17065), ([], none, mgh17067), ([], none, mgh17069), ([], none, mgh17071), ([], none, mgh17073), ([], none, mgh17075), ([], none, mgh17077), ([], none, mgh17079), ([], none, mgh17081), ([], none, mgh17083), ([], none, mgh17085)])
def mgx17087 : aw_A := ms_o [(0, 8)] [(0, 4)] ar_t32 ar_t32 [(0, 180)] [(44, 44)] [(43, 60)] [(1, 8)] [(0, 0)]
def mgh17088 : aw_H := [(81, mgx17087)]
def mgx17089 : aw_A := ms_o [(0, 8)] [(0, 4)] ar_t32 ar_t32 [(0, 180)] [(45, 45)] [(43, 60)] [(1, 8)] [(0, 0)]
def mgh17090 : aw_H := [(81, mgx17089)]
def mgx17091 : aw_A := ms_o [(0, 8)] [(0, 4)] ar_t32 ar_t32 [(0, 180)] [(46, 46)] [(43, 60)] [(1, 8)] [(0, 0)]
def mgh17092 : aw_H := [(81, mgx17091)]
def mgx17093 : aw_A := ms_o [(0, 8)] [(0, 4)] ar_t32 ar_t32 [(0, 180)] [(47, 47)] [(43, 60)] [(1, 8)] [(0, 0)]
def mgh17094 : aw_H := [(81, mgx17093)]
def mgx17095 : aw_A := ms_o [(0, 8)] [(0, 4)] ar_t32 ar_t32 [(0, 180)] [(48, 48)] [(43, 60)] [(1, 8)] [(0, 0)]
def mgh17096 : aw_H := [(81, mgx17095)]
def mgx17097 : aw_A := ms_o [(0, 8)] [(0, 4)] ar_t32 ar_t32 [(0, 180)] [(49, 49)] [(43, 60)] [(1, 8)] [(0, 0)]
def mgh17098 : aw_H := [(81, mgx17097)]
def mgx17099 : aw_A := ms_o [(0, 8)] [(0, 4)] ar_t32 ar_t32 [(0, 180)] [(50, 50)] [(43, 60)] [(1, 8)] [(0, 0)]
def mgh17100 : aw_H := [(81, mgx17099)]
def mgx17101 : aw_A := ms_o [(0, 8)] [(0, 4)] ar_t32 ar_t32 [(0, 180)] [(51, 51)] [(43, 60)] [(1, 8)] [(0, 0)]
def mgh17102 : aw_H := [(81, mgx17101)]
def mgx17103 : aw_A := ms_o [(0, 8)] [(0, 4)] ar_t32 ar_t32 [(0, 180)] [(52, 52)] [(43, 60)] [(1, 8)] [(0, 0)]
def mgh17104 : aw_H := [(81, mgx17103)]
def mgx17105 : aw_A := ms_o [(0, 8)] [(0, 4)] ar_t32 ar_t32 [(0, 180)] [(53, 53)] [(43, 60)] [(1, 8)] [(0, 0)]
def mgh17106 : aw_H := [(81, mgx17105)]
def mgx17107 : aw_A := ms_o [(0, 8)] [(0, 4)] ar_t32 ar_t32 [(0, 180)] [(54, 54)] [(43, 60)] [(1, 8)] [(0, 0)]
def mgh17108 : aw_H := [(81, mgx17107)]
def mgx17109 : aw_A := ms_o [(0, 8)] [(0, 4)] ar_t32 ar_t32 [(0, 180)] [(55, 55)] [(43, 60)] [(1, 8)] [(0, 0)]
def mgh17110 : aw_H := [(81, mgx17109)]
def mgx17111 : aw_A := ms_o [(0, 8)] [(0, 4)] ar_t32 ar_t32 [(0, 180)] [(56, 56)] [(43, 60)] [(1, 8)] [(0, 0)]
def mgh17112 : aw_H := [(81, mgx17111)]
def mgx17113 : aw_A := ms_o [(0, 8)] [(0, 4)] ar_t32 ar_t32 [(0, 180)] [(57, 57)] [(43, 60)] [(1, 8)] [(0, 0)]
def mgh17114 : aw_H := [(81, mgx17113)]
def mgx17115 : aw_A := ms_o [(0, 8)] [(0, 4)] ar_t32 ar_t32 [(0, 180)] [(58, 58)] [(43, 60)] [(1, 8)] [(0, 0)]
def mgh17116 : aw_H := [(81, mgx17115)]
def mgx17117 : aw_A := ms_o [(0, 8)] [(0, 4)] ar_t32 ar_t32 [(0, 180)] [(59, 59)] [(43, 60)] [(1, 8)] [(0, 0)]
def mgh17118 : aw_H := [(81, mgx17117)]
def mgx17119 : aw_A := ms_o [(0, 8)] [(0, 4)] ar_t32 ar_t32 [(0, 180)] [(60, 60)] [(43, 60)] [(1, 8)] [(0, 0)]
def mgh17120 : aw_H := [(81, mgx17119)]
/-- MiceRegistersModel.skip -/
def mgh17121 : aw_H := [(81, mgx16962), (90, .inr (.inl (0, 240, [], [])))]
def mgc6207 : ak_C := (122, [.inl 81], mgh17121, [81], [([], none, mgh16963), ([], none, mgh17088), ([], none, mgh17090), ([], none, mgh17092), ([], none, mgh17094), ([], none, mgh17096), ([], none, mgh17098), ([], none, mgh17100), ([], none, mgh17102), ([], none, mgh17104), ([], none, mgh17106), ([], none, mgh17108), ([], none, mgh17110), ([], none, mgh17112), ([], none, mgh17114), ([], none, mgh17116), ([], none, mgh17118), ([], none, mgh17120)])
def mgx17122 : aw_A := ms_o [(0, 8)] [(0, 4)] ar_t32 ar_t32 [(0, 180)] [(45, 45)] [(45, 60)] [(0, 7)] [(0, 0)]
def mgh17123 : aw_H := [(81, mgx17122)]
def mgx17124 : aw_A := ms_o [(0, 8)] [(0, 4)] ar_t32 ar_t32 [(0, 180)] [(46, 46)] [(46, 60)] [(0, 7)] [(0, 0)]
def mgh17125 : aw_H := [(81, mgx17124)]
/-- MiceRegistersModel.figure -/
def mgh17126 : aw_H := [(81, mgx17122), (90, .inr (.inl (0, 240, [], [])))]
def mgc4844 : ak_C := (125, [.inl 81, .inr (false, [(0, 0)]), .inr (false, [(9, 9)])], mgh17126, [81], [([], some (.inr (false, [(-9, -9)])), mgh17123), ([], some (.inr (false, [(0, 9)])), mgh17125)])
def mgx17127 : aw_A := ms_o [(0, 8)] [(0, 4)] ar_t32 ar_t32 [(0, 180)] [(47, 47)] [(47, 60)] [(0, 7)] [(0, 0)]
def mgh17128 : aw_H := [(81, mgx17127)]
/-- MiceRegistersModel.figure -/
def mgh17129 : aw_H := [(81, mgx17124), (90, .inr (.inl (0, 240, [], [])))]
def mgc4850 : ak_C := (125, [.inl 81, .inr (false, [(0, 0)]), .inr (false, [(9, 9)])], mgh17129, [81], [([], some (.inr (false, [(-9, -9)])), mgh17125), ([], some (.inr (false, [(0, 9)])), mgh17128)])
def mgx17130 : aw_A := ms_o [(0, 8)] [(0, 4)] ar_t32 ar_t32 [(0, 180)] [(48, 48)] [(48, 60)] [(0, 7)] [(0, 0)]
def mgh17131 : aw_H := [(81, mgx17130)]
/-- MiceRegistersModel.figure -/
def mgh17132 : aw_H := [(81, mgx17127), (90, .inr (.inl (0, 240, [], [])))]
def mgc4856 : ak_C := (125, [.inl 81, .inr (false, [(0, 0)]), .inr (false, [(9, 9)])], mgh17132, [81], [([], some (.inr (false, [(-9, -9)])), mgh17128), ([], some (.inr (false, [(0, 9)])), mgh17131)])
/-- MiceRegistersModel.twoFigures -/
def mgc4857 : ak_C := (126, [.inl 81, .inr (false, [(1, 1)]), .inr (false, [(40, 40)])], mgh17129, [81], [([], some (.inr (false, [(-9, -9)])), mgh17125), ([], some (.inr (false, [(0, 99)])), mgh17131), ([], some (.inr (false, [(-9, -9)])), mgh17128)])
theorem mgk4857 : ai_chk [mgc4850, mgc4856, mgc144] mgc4857 (fun pc => sm_ch sm_t126 pc, sm_Kn 3 6 none, fun x => sm_lk sm_ca3 x, some .int) [81] 6 0 [] [] 2000 [] = true := by decide +kernel
def mgh17133 : aw_H := [(81, mgx17127), (92, .inr (.inl (0, 8, [], []))), (93, .inr (.inl (0, 8, [], [])))]
def mgx17134 : aw_A := ms_o [(0, 8)] [(0, 4)] ar_t32 ar_t32 [(0, 180)] [(48, 48)] [(48, 60)] [(1, 8)] [(0, 0)]
def mgh17135 : aw_H := [(81, mgx17134), (92, .inr (.inl (0, 8, [], []))), (93, .inr (.inl (0, 8, [], [])))]
def mgh17136 : aw_H := [(81, mgx17124), (92, .inr (.inl (0, 8, [], []))), (93, .inr (.inl (0, 8, [], [])))]
def mgh17137 : aw_H := [(81, mgx17122), (92, .inr (.inl (0, 8, [], []))), (93, .inr (.inl (0, 8, [], [])))]
def mgx17138 : aw_A := ms_o [(0, 8)] [(0, 4)] ar_t32 ar_t32 [(0, 180)] [(44, 44)] [(45, 60)] [(8, 8)] [(0, 0)]
def mgh17139 : aw_H := [(81, mgx17138), (92, .inr (.inl (0, 8, [], []))), (93, .inr (.inl (0, 8, [], [])))]
/-- MiceRegistersModel.readsLine -/
def mgx17140 : aw_A := ms_o [(0, 8)] [(0, 4)] ar_t32 ar_t32 [(0, 180)] [(44, 44)] [(45, 60)] [(0, 8)] [(0, 0)]
def mgh17141 : aw_H := [(81, mgx17140), (90, .inr (.inl (0, 240, [], []))), (92, .inr (.inl (0, 8, [], []))), (93, .inr (.inl (0, 8, [], [])))]
def mgc5419 : ak_C := (124, [.inl 81], mgh17141, [81, 92, 93], [([], some (.inr (false, [(0, 0)])), mgh17133), ([], some (.inr (false, [(1, 1)])), mgh17135), ([], some (.inr (false, [(0, 0)])), mgh17136), ([], some (.inr (false, [(0, 0)])), mgh17137), ([], some (.inr (false, [(0, 0)])), mgh17139)])
theorem mgk5419 : ai_chk [mgc4844, mgc4857] mgc5419 (fun pc => sm_ch sm_t124 pc, sm_Kn 3 3 none, fun x => sm_lk sm_ca3 x, some .boolean) [81, 92, 93] 3 0 [] [] 2000 [] = true := by decide +kernel
def mgx17142 : aw_A := ms_o [(0, 8)] [(0, 4)] ar_t32 ar_t32 [(0, 180)] [(45, 45)] [(45, 60)] [(1, 8)] [(0, 0)]
def mgh17143 : aw_H := [(81, mgx17142)]
def mgx17144 : aw_A := ms_o [(0, 8)] [(0, 4)] ar_t32 ar_t32 [(0, 180)] [(46, 46)] [(46, 60)] [(1, 8)] [(0, 0)]
def mgh17145 : aw_H := [(81, mgx17144)]
/-- MiceRegistersModel.figure -/
def mgh17146 : aw_H := [(81, mgx17142), (90, .inr (.inl (0, 240, [], [])))]
def mgc5420 : ak_C := (125, [.inl 81, .inr (false, [(0, 0)]), .inr (false, [(0, 7)])], mgh17146, [81], [([], some (.inr (false, [(-9, -9)])), mgh17143), ([], some (.inr (false, [(0, 7)])), mgh17145)])
def mgx17147 : aw_A := ms_o [(0, 8)] [(0, 4)] ar_t32 ar_t32 [(0, 180)] [(47, 47)] [(47, 60)] [(1, 8)] [(0, 0)]
def mgh17148 : aw_H := [(81, mgx17147)]
/-- MiceRegistersModel.figure -/
def mgh17149 : aw_H := [(81, mgx17144), (90, .inr (.inl (0, 240, [], [])))]
def mgc5421 : ak_C := (125, [.inl 81, .inr (false, [(1, 1)]), .inr (false, [(9, 9)])], mgh17149, [81], [([], some (.inr (false, [(-9, -9)])), mgh17145), ([], some (.inr (false, [(1, 9)])), mgh17148)])
def mgh17150 : aw_H := [(81, mgx17140), (94, mgx4446)]
def mgx17151 : aw_A := ms_o [(0, 8)] [(0, 4)] ar_t32 ar_t32 [(0, 180)] [(47, 47)] [(47, 60)] [(1, 8)] [(1, 1)]
def mgh17152 : aw_H := [(81, mgx17151), (94, mgx4449)]
def mgh17153 : aw_H := [(81, mgx17144), (94, mgx4446)]
def mgh17154 : aw_H := [(81, mgx17142), (94, mgx4446)]
/-- MiceRegistersModel.readsMouse -/
def mgh17155 : aw_H := [(81, mgx17140), (90, .inr (.inl (0, 240, [], []))), (94, mgx4446)]
def mgc5422 : ak_C := (127, [.inl 81], mgh17155, [81, 94], [([], some (.inr (false, [(0, 0)])), mgh17150), ([], some (.inr (false, [(1, 1)])), mgh17152), ([], some (.inr (false, [(0, 0)])), mgh17153), ([], some (.inr (false, [(0, 0)])), mgh17154)])
theorem mgk5422 : ai_chk [mgc35, mgc147, mgc5420, mgc5421] mgc5422 (fun pc => sm_ch sm_t127 pc, sm_Kn 3 5 none, fun x => sm_lk sm_ca3 x, some .boolean) [81, 94] 5 0 [] [] 2000 [] = true := by decide +kernel
def mgh17156 : aw_H := [(81, mgx17151)]
def mgx17157 : aw_A := ms_o [(0, 8)] [(0, 4)] ar_t32 ar_t32 [(0, 180)] [(48, 48)] [(47, 60)] [(1, 8)] [(1, 1)]
def mgh17158 : aw_H := [(81, mgx17157)]
def mgx17159 : aw_A := ms_o [(0, 8)] [(0, 4)] ar_t32 ar_t32 [(0, 180)] [(49, 49)] [(47, 60)] [(1, 8)] [(1, 1)]
def mgh17160 : aw_H := [(81, mgx17159)]
def mgx17161 : aw_A := ms_o [(0, 8)] [(0, 4)] ar_t32 ar_t32 [(0, 180)] [(50, 50)] [(47, 60)] [(1, 8)] [(1, 1)]
def mgh17162 : aw_H := [(81, mgx17161)]
def mgx17163 : aw_A := ms_o [(0, 8)] [(0, 4)] ar_t32 ar_t32 [(0, 180)] [(51, 51)] [(47, 60)] [(1, 8)] [(1, 1)]
def mgh17164 : aw_H := [(81, mgx17163)]
def mgx17165 : aw_A := ms_o [(0, 8)] [(0, 4)] ar_t32 ar_t32 [(0, 180)] [(52, 52)] [(47, 60)] [(1, 8)] [(1, 1)]
def mgh17166 : aw_H := [(81, mgx17165)]
def mgx17167 : aw_A := ms_o [(0, 8)] [(0, 4)] ar_t32 ar_t32 [(0, 180)] [(53, 53)] [(47, 60)] [(1, 8)] [(1, 1)]
def mgh17168 : aw_H := [(81, mgx17167)]
def mgx17169 : aw_A := ms_o [(0, 8)] [(0, 4)] ar_t32 ar_t32 [(0, 180)] [(54, 54)] [(47, 60)] [(1, 8)] [(1, 1)]
def mgh17170 : aw_H := [(81, mgx17169)]
def mgx17171 : aw_A := ms_o [(0, 8)] [(0, 4)] ar_t32 ar_t32 [(0, 180)] [(55, 55)] [(47, 60)] [(1, 8)] [(1, 1)]
def mgh17172 : aw_H := [(81, mgx17171)]
def mgx17173 : aw_A := ms_o [(0, 8)] [(0, 4)] ar_t32 ar_t32 [(0, 180)] [(56, 56)] [(47, 60)] [(1, 8)] [(1, 1)]
def mgh17174 : aw_H := [(81, mgx17173)]
def mgx17175 : aw_A := ms_o [(0, 8)] [(0, 4)] ar_t32 ar_t32 [(0, 180)] [(57, 57)] [(47, 60)] [(1, 8)] [(1, 1)]
def mgh17176 : aw_H := [(81, mgx17175)]
def mgx17177 : aw_A := ms_o [(0, 8)] [(0, 4)] ar_t32 ar_t32 [(0, 180)] [(58, 58)] [(47, 60)] [(1, 8)] [(1, 1)]
def mgh17178 : aw_H := [(81, mgx17177)]
def mgx17179 : aw_A := ms_o [(0, 8)] [(0, 4)] ar_t32 ar_t32 [(0, 180)] [(59, 59)] [(47, 60)] [(1, 8)] [(1, 1)]
def mgh17180 : aw_H := [(81, mgx17179)]
def mgx17181 : aw_A := ms_o [(0, 8)] [(0, 4)] ar_t32 ar_t32 [(0, 180)] [(60, 60)] [(47, 60)] [(1, 8)] [(1, 1)]
def mgh17182 : aw_H := [(81, mgx17181)]
/-- MiceRegistersModel.skip -/
def mgh17183 : aw_H := [(81, mgx17151), (90, .inr (.inl (0, 240, [], [])))]
def mgc6258 : ak_C := (122, [.inl 81], mgh17183, [81], [([], none, mgh17156), ([], none, mgh17158), ([], none, mgh17160), ([], none, mgh17162), ([], none, mgh17164), ([], none, mgh17166), ([], none, mgh17168), ([], none, mgh17170), ([], none, mgh17172), ([], none, mgh17174), ([], none, mgh17176), ([], none, mgh17178), ([], none, mgh17180), ([], none, mgh17182)])
def mgh17184 : aw_H := [(81, mgx17134)]
def mgx17185 : aw_A := ms_o [(0, 8)] [(0, 4)] ar_t32 ar_t32 [(0, 180)] [(49, 49)] [(48, 60)] [(1, 8)] [(0, 0)]
def mgh17186 : aw_H := [(81, mgx17185)]
def mgx17187 : aw_A := ms_o [(0, 8)] [(0, 4)] ar_t32 ar_t32 [(0, 180)] [(50, 50)] [(48, 60)] [(1, 8)] [(0, 0)]
def mgh17188 : aw_H := [(81, mgx17187)]
def mgx17189 : aw_A := ms_o [(0, 8)] [(0, 4)] ar_t32 ar_t32 [(0, 180)] [(51, 51)] [(48, 60)] [(1, 8)] [(0, 0)]
def mgh17190 : aw_H := [(81, mgx17189)]
def mgx17191 : aw_A := ms_o [(0, 8)] [(0, 4)] ar_t32 ar_t32 [(0, 180)] [(52, 52)] [(48, 60)] [(1, 8)] [(0, 0)]
def mgh17192 : aw_H := [(81, mgx17191)]
def mgx17193 : aw_A := ms_o [(0, 8)] [(0, 4)] ar_t32 ar_t32 [(0, 180)] [(53, 53)] [(48, 60)] [(1, 8)] [(0, 0)]
def mgh17194 : aw_H := [(81, mgx17193)]
def mgx17195 : aw_A := ms_o [(0, 8)] [(0, 4)] ar_t32 ar_t32 [(0, 180)] [(54, 54)] [(48, 60)] [(1, 8)] [(0, 0)]
def mgh17196 : aw_H := [(81, mgx17195)]
def mgx17197 : aw_A := ms_o [(0, 8)] [(0, 4)] ar_t32 ar_t32 [(0, 180)] [(55, 55)] [(48, 60)] [(1, 8)] [(0, 0)]
def mgh17198 : aw_H := [(81, mgx17197)]
def mgx17199 : aw_A := ms_o [(0, 8)] [(0, 4)] ar_t32 ar_t32 [(0, 180)] [(56, 56)] [(48, 60)] [(1, 8)] [(0, 0)]
def mgh17200 : aw_H := [(81, mgx17199)]
def mgx17201 : aw_A := ms_o [(0, 8)] [(0, 4)] ar_t32 ar_t32 [(0, 180)] [(57, 57)] [(48, 60)] [(1, 8)] [(0, 0)]
def mgh17202 : aw_H := [(81, mgx17201)]
def mgx17203 : aw_A := ms_o [(0, 8)] [(0, 4)] ar_t32 ar_t32 [(0, 180)] [(58, 58)] [(48, 60)] [(1, 8)] [(0, 0)]
def mgh17204 : aw_H := [(81, mgx17203)]
def mgx17205 : aw_A := ms_o [(0, 8)] [(0, 4)] ar_t32 ar_t32 [(0, 180)] [(59, 59)] [(48, 60)] [(1, 8)] [(0, 0)]
def mgh17206 : aw_H := [(81, mgx17205)]
def mgx17207 : aw_A := ms_o [(0, 8)] [(0, 4)] ar_t32 ar_t32 [(0, 180)] [(60, 60)] [(48, 60)] [(1, 8)] [(0, 0)]
def mgh17208 : aw_H := [(81, mgx17207)]
/-- MiceRegistersModel.skip -/
def mgh17209 : aw_H := [(81, mgx17134), (90, .inr (.inl (0, 240, [], [])))]
def mgc6262 : ak_C := (122, [.inl 81], mgh17209, [81], [([], none, mgh17184), ([], none, mgh17186), ([], none, mgh17188), ([], none, mgh17190), ([], none, mgh17192), ([], none, mgh17194), ([], none, mgh17196), ([], none, mgh17198), ([], none, mgh17200), ([], none, mgh17202), ([], none, mgh17204), ([], none, mgh17206), ([], none, mgh17208)])
/-- MiceRegistersModel.figure -/
def mgh17210 : aw_H := [(81, mgx16951), (90, .inr (.inl (0, 240, [], [])))]
def mgc4838 : ak_C := (125, [.inl 81, .inr (false, [(0, 0)]), .inr (false, [(9, 9)])], mgh17210, [81], [([], some (.inr (false, [(-9, -9)])), mgh16952), ([], some (.inr (false, [(0, 9)])), mgh17123)])
/-- MiceRegistersModel.twoFigures -/
def mgc4851 : ak_C := (126, [.inl 81, .inr (false, [(1, 1)]), .inr (false, [(40, 40)])], mgh17126, [81], [([], some (.inr (false, [(-9, -9)])), mgh17123), ([], some (.inr (false, [(0, 99)])), mgh17128), ([], some (.inr (false, [(-9, -9)])), mgh17125)])
theorem mgk4851 : ai_chk [mgc4844, mgc4850, mgc144] mgc4851 (fun pc => sm_ch sm_t126 pc, sm_Kn 3 6 none, fun x => sm_lk sm_ca3 x, some .int) [81] 6 0 [] [] 2000 [] = true := by decide +kernel
def mgh17211 : aw_H := [(81, mgx17147), (92, .inr (.inl (0, 8, [], []))), (93, .inr (.inl (0, 8, [], [])))]
def mgh17212 : aw_H := [(81, mgx16951), (92, .inr (.inl (0, 8, [], []))), (93, .inr (.inl (0, 8, [], [])))]
def mgx17213 : aw_A := ms_o [(0, 8)] [(0, 4)] ar_t32 ar_t32 [(0, 180)] [(43, 43)] [(44, 60)] [(8, 8)] [(0, 0)]
def mgh17214 : aw_H := [(81, mgx17213), (92, .inr (.inl (0, 8, [], []))), (93, .inr (.inl (0, 8, [], [])))]
/-- MiceRegistersModel.readsLine -/
def mgx17215 : aw_A := ms_o [(0, 8)] [(0, 4)] ar_t32 ar_t32 [(0, 180)] [(43, 43)] [(44, 60)] [(0, 8)] [(0, 0)]
def mgh17216 : aw_H := [(81, mgx17215), (90, .inr (.inl (0, 240, [], []))), (92, .inr (.inl (0, 8, [], []))), (93, .inr (.inl (0, 8, [], [])))]
def mgc5415 : ak_C := (124, [.inl 81], mgh17216, [81, 92, 93], [([], some (.inr (false, [(0, 0)])), mgh17136), ([], some (.inr (false, [(1, 1)])), mgh17211), ([], some (.inr (false, [(0, 0)])), mgh17137), ([], some (.inr (false, [(0, 0)])), mgh17212), ([], some (.inr (false, [(0, 0)])), mgh17214)])
theorem mgk5415 : ai_chk [mgc4838, mgc4851] mgc5415 (fun pc => sm_ch sm_t124 pc, sm_Kn 3 3 none, fun x => sm_lk sm_ca3 x, some .boolean) [81, 92, 93] 3 0 [] [] 2000 [] = true := by decide +kernel
/-- MiceRegistersModel.figure -/
def mgc5416 : ak_C := (125, [.inl 81, .inr (false, [(0, 0)]), .inr (false, [(0, 7)])], mgh17003, [81], [([], some (.inr (false, [(-9, -9)])), mgh16970), ([], some (.inr (false, [(0, 7)])), mgh17143)])
/-- MiceRegistersModel.figure -/
def mgc5417 : ak_C := (125, [.inl 81, .inr (false, [(1, 1)]), .inr (false, [(9, 9)])], mgh17146, [81], [([], some (.inr (false, [(-9, -9)])), mgh17143), ([], some (.inr (false, [(1, 9)])), mgh17145)])
def mgh17217 : aw_H := [(81, mgx17215), (94, mgx4446)]
def mgx17218 : aw_A := ms_o [(0, 8)] [(0, 4)] ar_t32 ar_t32 [(0, 180)] [(46, 46)] [(46, 60)] [(1, 8)] [(1, 1)]
def mgh17219 : aw_H := [(81, mgx17218), (94, mgx4449)]
def mgh17220 : aw_H := [(81, mgx16955), (94, mgx4446)]
/-- MiceRegistersModel.readsMouse -/
def mgh17221 : aw_H := [(81, mgx17215), (90, .inr (.inl (0, 240, [], []))), (94, mgx4446)]
def mgc5418 : ak_C := (127, [.inl 81], mgh17221, [81, 94], [([], some (.inr (false, [(0, 0)])), mgh17217), ([], some (.inr (false, [(1, 1)])), mgh17219), ([], some (.inr (false, [(0, 0)])), mgh17154), ([], some (.inr (false, [(0, 0)])), mgh17220)])
theorem mgk5418 : ai_chk [mgc36, mgc147, mgc5416, mgc5417] mgc5418 (fun pc => sm_ch sm_t127 pc, sm_Kn 3 5 none, fun x => sm_lk sm_ca3 x, some .boolean) [81, 94] 5 0 [] [] 2000 [] = true := by decide +kernel
def mgh17222 : aw_H := [(81, mgx17218)]
def mgx17223 : aw_A := ms_o [(0, 8)] [(0, 4)] ar_t32 ar_t32 [(0, 180)] [(47, 47)] [(46, 60)] [(1, 8)] [(1, 1)]
def mgh17224 : aw_H := [(81, mgx17223)]
def mgx17225 : aw_A := ms_o [(0, 8)] [(0, 4)] ar_t32 ar_t32 [(0, 180)] [(48, 48)] [(46, 60)] [(1, 8)] [(1, 1)]
def mgh17226 : aw_H := [(81, mgx17225)]
def mgx17227 : aw_A := ms_o [(0, 8)] [(0, 4)] ar_t32 ar_t32 [(0, 180)] [(49, 49)] [(46, 60)] [(1, 8)] [(1, 1)]
def mgh17228 : aw_H := [(81, mgx17227)]
def mgx17229 : aw_A := ms_o [(0, 8)] [(0, 4)] ar_t32 ar_t32 [(0, 180)] [(50, 50)] [(46, 60)] [(1, 8)] [(1, 1)]
def mgh17230 : aw_H := [(81, mgx17229)]
def mgx17231 : aw_A := ms_o [(0, 8)] [(0, 4)] ar_t32 ar_t32 [(0, 180)] [(51, 51)] [(46, 60)] [(1, 8)] [(1, 1)]
def mgh17232 : aw_H := [(81, mgx17231)]
def mgx17233 : aw_A := ms_o [(0, 8)] [(0, 4)] ar_t32 ar_t32 [(0, 180)] [(52, 52)] [(46, 60)] [(1, 8)] [(1, 1)]
def mgh17234 : aw_H := [(81, mgx17233)]
def mgx17235 : aw_A := ms_o [(0, 8)] [(0, 4)] ar_t32 ar_t32 [(0, 180)] [(53, 53)] [(46, 60)] [(1, 8)] [(1, 1)]
def mgh17236 : aw_H := [(81, mgx17235)]
def mgx17237 : aw_A := ms_o [(0, 8)] [(0, 4)] ar_t32 ar_t32 [(0, 180)] [(54, 54)] [(46, 60)] [(1, 8)] [(1, 1)]
def mgh17238 : aw_H := [(81, mgx17237)]
def mgx17239 : aw_A := ms_o [(0, 8)] [(0, 4)] ar_t32 ar_t32 [(0, 180)] [(55, 55)] [(46, 60)] [(1, 8)] [(1, 1)]
def mgh17240 : aw_H := [(81, mgx17239)]
def mgx17241 : aw_A := ms_o [(0, 8)] [(0, 4)] ar_t32 ar_t32 [(0, 180)] [(56, 56)] [(46, 60)] [(1, 8)] [(1, 1)]
def mgh17242 : aw_H := [(81, mgx17241)]
def mgx17243 : aw_A := ms_o [(0, 8)] [(0, 4)] ar_t32 ar_t32 [(0, 180)] [(57, 57)] [(46, 60)] [(1, 8)] [(1, 1)]
def mgh17244 : aw_H := [(81, mgx17243)]
def mgx17245 : aw_A := ms_o [(0, 8)] [(0, 4)] ar_t32 ar_t32 [(0, 180)] [(58, 58)] [(46, 60)] [(1, 8)] [(1, 1)]
def mgh17246 : aw_H := [(81, mgx17245)]
def mgx17247 : aw_A := ms_o [(0, 8)] [(0, 4)] ar_t32 ar_t32 [(0, 180)] [(59, 59)] [(46, 60)] [(1, 8)] [(1, 1)]
def mgh17248 : aw_H := [(81, mgx17247)]
def mgx17249 : aw_A := ms_o [(0, 8)] [(0, 4)] ar_t32 ar_t32 [(0, 180)] [(60, 60)] [(46, 60)] [(1, 8)] [(1, 1)]
def mgh17250 : aw_H := [(81, mgx17249)]
/-- MiceRegistersModel.skip -/
def mgh17251 : aw_H := [(81, mgx17218), (90, .inr (.inl (0, 240, [], [])))]
def mgc6253 : ak_C := (122, [.inl 81], mgh17251, [81], [([], none, mgh17222), ([], none, mgh17224), ([], none, mgh17226), ([], none, mgh17228), ([], none, mgh17230), ([], none, mgh17232), ([], none, mgh17234), ([], none, mgh17236), ([], none, mgh17238), ([], none, mgh17240), ([], none, mgh17242), ([], none, mgh17244), ([], none, mgh17246), ([], none, mgh17248), ([], none, mgh17250)])
def mgx17252 : aw_A := ms_o [(0, 8)] [(0, 4)] ar_t32 ar_t32 [(0, 180)] [(48, 48)] [(47, 60)] [(1, 8)] [(0, 0)]
def mgh17253 : aw_H := [(81, mgx17252)]
def mgx17254 : aw_A := ms_o [(0, 8)] [(0, 4)] ar_t32 ar_t32 [(0, 180)] [(49, 49)] [(47, 60)] [(1, 8)] [(0, 0)]
def mgh17255 : aw_H := [(81, mgx17254)]
def mgx17256 : aw_A := ms_o [(0, 8)] [(0, 4)] ar_t32 ar_t32 [(0, 180)] [(50, 50)] [(47, 60)] [(1, 8)] [(0, 0)]
def mgh17257 : aw_H := [(81, mgx17256)]
def mgx17258 : aw_A := ms_o [(0, 8)] [(0, 4)] ar_t32 ar_t32 [(0, 180)] [(51, 51)] [(47, 60)] [(1, 8)] [(0, 0)]
def mgh17259 : aw_H := [(81, mgx17258)]
def mgx17260 : aw_A := ms_o [(0, 8)] [(0, 4)] ar_t32 ar_t32 [(0, 180)] [(52, 52)] [(47, 60)] [(1, 8)] [(0, 0)]
def mgh17261 : aw_H := [(81, mgx17260)]
def mgx17262 : aw_A := ms_o [(0, 8)] [(0, 4)] ar_t32 ar_t32 [(0, 180)] [(53, 53)] [(47, 60)] [(1, 8)] [(0, 0)]
def mgh17263 : aw_H := [(81, mgx17262)]
def mgx17264 : aw_A := ms_o [(0, 8)] [(0, 4)] ar_t32 ar_t32 [(0, 180)] [(54, 54)] [(47, 60)] [(1, 8)] [(0, 0)]
def mgh17265 : aw_H := [(81, mgx17264)]
def mgx17266 : aw_A := ms_o [(0, 8)] [(0, 4)] ar_t32 ar_t32 [(0, 180)] [(55, 55)] [(47, 60)] [(1, 8)] [(0, 0)]
def mgh17267 : aw_H := [(81, mgx17266)]
def mgx17268 : aw_A := ms_o [(0, 8)] [(0, 4)] ar_t32 ar_t32 [(0, 180)] [(56, 56)] [(47, 60)] [(1, 8)] [(0, 0)]
def mgh17269 : aw_H := [(81, mgx17268)]
def mgx17270 : aw_A := ms_o [(0, 8)] [(0, 4)] ar_t32 ar_t32 [(0, 180)] [(57, 57)] [(47, 60)] [(1, 8)] [(0, 0)]
def mgh17271 : aw_H := [(81, mgx17270)]
def mgx17272 : aw_A := ms_o [(0, 8)] [(0, 4)] ar_t32 ar_t32 [(0, 180)] [(58, 58)] [(47, 60)] [(1, 8)] [(0, 0)]
def mgh17273 : aw_H := [(81, mgx17272)]
def mgx17274 : aw_A := ms_o [(0, 8)] [(0, 4)] ar_t32 ar_t32 [(0, 180)] [(59, 59)] [(47, 60)] [(1, 8)] [(0, 0)]
def mgh17275 : aw_H := [(81, mgx17274)]
def mgx17276 : aw_A := ms_o [(0, 8)] [(0, 4)] ar_t32 ar_t32 [(0, 180)] [(60, 60)] [(47, 60)] [(1, 8)] [(0, 0)]
def mgh17277 : aw_H := [(81, mgx17276)]
/-- MiceRegistersModel.skip -/
def mgh17278 : aw_H := [(81, mgx17147), (90, .inr (.inl (0, 240, [], [])))]
def mgc6257 : ak_C := (122, [.inl 81], mgh17278, [81], [([], none, mgh17148), ([], none, mgh17253), ([], none, mgh17255), ([], none, mgh17257), ([], none, mgh17259), ([], none, mgh17261), ([], none, mgh17263), ([], none, mgh17265), ([], none, mgh17267), ([], none, mgh17269), ([], none, mgh17271), ([], none, mgh17273), ([], none, mgh17275), ([], none, mgh17277)])
/-- MiceRegistersModel.twoFigures -/
def mgc4839 : ak_C := (126, [.inl 81, .inr (false, [(1, 1)]), .inr (false, [(40, 40)])], mgh16953, [81], [([], some (.inr (false, [(-9, -9)])), mgh16949), ([], some (.inr (false, [(0, 99)])), mgh17123), ([], some (.inr (false, [(-9, -9)])), mgh16952)])
theorem mgk4839 : ai_chk [mgc4832, mgc4838, mgc144] mgc4839 (fun pc => sm_ch sm_t126 pc, sm_Kn 3 6 none, fun x => sm_lk sm_ca3 x, some .int) [81] 6 0 [] [] 2000 [] = true := by decide +kernel
def mgh17279 : aw_H := [(81, mgx17142), (92, .inr (.inl (0, 8, [], []))), (93, .inr (.inl (0, 8, [], [])))]
def mgx17280 : aw_A := ms_o [(0, 8)] [(0, 4)] ar_t32 ar_t32 [(0, 180)] [(41, 41)] [(42, 60)] [(8, 8)] [(0, 0)]
def mgh17281 : aw_H := [(81, mgx17280), (92, .inr (.inl (0, 8, [], []))), (93, .inr (.inl (0, 8, [], [])))]
/-- MiceRegistersModel.readsLine -/
def mgx17282 : aw_A := ms_o [(0, 8)] [(0, 4)] ar_t32 ar_t32 [(0, 180)] [(41, 41)] [(42, 60)] [(0, 8)] [(0, 0)]
def mgh17283 : aw_H := [(81, mgx17282), (90, .inr (.inl (0, 240, [], []))), (92, .inr (.inl (0, 8, [], []))), (93, .inr (.inl (0, 8, [], [])))]
def mgc5407 : ak_C := (124, [.inl 81], mgh17283, [81, 92, 93], [([], some (.inr (false, [(0, 0)])), mgh17212), ([], some (.inr (false, [(1, 1)])), mgh17279), ([], some (.inr (false, [(0, 0)])), mgh16954), ([], some (.inr (false, [(0, 0)])), mgh16957), ([], some (.inr (false, [(0, 0)])), mgh17281)])
theorem mgk5407 : ai_chk [mgc4826, mgc4839] mgc5407 (fun pc => sm_ch sm_t124 pc, sm_Kn 3 3 none, fun x => sm_lk sm_ca3 x, some .boolean) [81, 92, 93] 3 0 [] [] 2000 [] = true := by decide +kernel
/-- MiceRegistersModel.figure -/
def mgc5408 : ak_C := (125, [.inl 81, .inr (false, [(0, 0)]), .inr (false, [(0, 7)])], mgh16947, [81], [([], some (.inr (false, [(-9, -9)])), mgh16910), ([], some (.inr (false, [(0, 7)])), mgh16963)])
/-- MiceRegistersModel.figure -/
def mgc5409 : ak_C := (125, [.inl 81, .inr (false, [(1, 1)]), .inr (false, [(9, 9)])], mgh17121, [81], [([], some (.inr (false, [(-9, -9)])), mgh16963), ([], some (.inr (false, [(1, 9)])), mgh16970)])
def mgh17284 : aw_H := [(81, mgx17282), (94, mgx4446)]
def mgx17285 : aw_A := ms_o [(0, 8)] [(0, 4)] ar_t32 ar_t32 [(0, 180)] [(44, 44)] [(44, 60)] [(1, 8)] [(1, 1)]
def mgh17286 : aw_H := [(81, mgx17285), (94, mgx4449)]
def mgh17287 : aw_H := [(81, mgx16962), (94, mgx4446)]
/-- MiceRegistersModel.readsMouse -/
def mgh17288 : aw_H := [(81, mgx17282), (90, .inr (.inl (0, 240, [], []))), (94, mgx4446)]
def mgc5410 : ak_C := (127, [.inl 81], mgh17288, [81, 94], [([], some (.inr (false, [(0, 0)])), mgh17284), ([], some (.inr (false, [(1, 1)])), mgh17286), ([], some (.inr (false, [(0, 0)])), mgh17287), ([], some (.inr (false, [(0, 0)])), mgh16967)])
theorem mgk5410 : ai_chk [mgc38, mgc147, mgc5408, mgc5409] mgc5410 (fun pc => sm_ch sm_t127 pc, sm_Kn 3 5 none, fun x => sm_lk sm_ca3 x, some .boolean) [81, 94] 5 0 [] [] 2000 [] = true := by decide +kernel
def mgh17289 : aw_H := [(81, mgx17285)]
def mgx17290 : aw_A := ms_o [(0, 8)] [(0, 4)] ar_t32 ar_t32 [(0, 180)] [(45, 45)] [(44, 60)] [(1, 8)] [(1, 1)]
def mgh17291 : aw_H := [(81, mgx17290)]
def mgx17292 : aw_A := ms_o [(0, 8)] [(0, 4)] ar_t32 ar_t32 [(0, 180)] [(46, 46)] [(44, 60)] [(1, 8)] [(1, 1)]
def mgh17293 : aw_H := [(81, mgx17292)]
def mgx17294 : aw_A := ms_o [(0, 8)] [(0, 4)] ar_t32 ar_t32 [(0, 180)] [(47, 47)] [(44, 60)] [(1, 8)] [(1, 1)]
def mgh17295 : aw_H := [(81, mgx17294)]
def mgx17296 : aw_A := ms_o [(0, 8)] [(0, 4)] ar_t32 ar_t32 [(0, 180)] [(48, 48)] [(44, 60)] [(1, 8)] [(1, 1)]
def mgh17297 : aw_H := [(81, mgx17296)]
def mgx17298 : aw_A := ms_o [(0, 8)] [(0, 4)] ar_t32 ar_t32 [(0, 180)] [(49, 49)] [(44, 60)] [(1, 8)] [(1, 1)]
def mgh17299 : aw_H := [(81, mgx17298)]
def mgx17300 : aw_A := ms_o [(0, 8)] [(0, 4)] ar_t32 ar_t32 [(0, 180)] [(50, 50)] [(44, 60)] [(1, 8)] [(1, 1)]
def mgh17301 : aw_H := [(81, mgx17300)]
def mgx17302 : aw_A := ms_o [(0, 8)] [(0, 4)] ar_t32 ar_t32 [(0, 180)] [(51, 51)] [(44, 60)] [(1, 8)] [(1, 1)]
def mgh17303 : aw_H := [(81, mgx17302)]
def mgx17304 : aw_A := ms_o [(0, 8)] [(0, 4)] ar_t32 ar_t32 [(0, 180)] [(52, 52)] [(44, 60)] [(1, 8)] [(1, 1)]
def mgh17305 : aw_H := [(81, mgx17304)]
def mgx17306 : aw_A := ms_o [(0, 8)] [(0, 4)] ar_t32 ar_t32 [(0, 180)] [(53, 53)] [(44, 60)] [(1, 8)] [(1, 1)]
def mgh17307 : aw_H := [(81, mgx17306)]
def mgx17308 : aw_A := ms_o [(0, 8)] [(0, 4)] ar_t32 ar_t32 [(0, 180)] [(54, 54)] [(44, 60)] [(1, 8)] [(1, 1)]
def mgh17309 : aw_H := [(81, mgx17308)]
def mgx17310 : aw_A := ms_o [(0, 8)] [(0, 4)] ar_t32 ar_t32 [(0, 180)] [(55, 55)] [(44, 60)] [(1, 8)] [(1, 1)]
def mgh17311 : aw_H := [(81, mgx17310)]
def mgx17312 : aw_A := ms_o [(0, 8)] [(0, 4)] ar_t32 ar_t32 [(0, 180)] [(56, 56)] [(44, 60)] [(1, 8)] [(1, 1)]
def mgh17313 : aw_H := [(81, mgx17312)]
def mgx17314 : aw_A := ms_o [(0, 8)] [(0, 4)] ar_t32 ar_t32 [(0, 180)] [(57, 57)] [(44, 60)] [(1, 8)] [(1, 1)]
def mgh17315 : aw_H := [(81, mgx17314)]
def mgx17316 : aw_A := ms_o [(0, 8)] [(0, 4)] ar_t32 ar_t32 [(0, 180)] [(58, 58)] [(44, 60)] [(1, 8)] [(1, 1)]
def mgh17317 : aw_H := [(81, mgx17316)]
def mgx17318 : aw_A := ms_o [(0, 8)] [(0, 4)] ar_t32 ar_t32 [(0, 180)] [(59, 59)] [(44, 60)] [(1, 8)] [(1, 1)]
def mgh17319 : aw_H := [(81, mgx17318)]
def mgx17320 : aw_A := ms_o [(0, 8)] [(0, 4)] ar_t32 ar_t32 [(0, 180)] [(60, 60)] [(44, 60)] [(1, 8)] [(1, 1)]
def mgh17321 : aw_H := [(81, mgx17320)]
/-- MiceRegistersModel.skip -/
def mgh17322 : aw_H := [(81, mgx17285), (90, .inr (.inl (0, 240, [], [])))]
def mgc6213 : ak_C := (122, [.inl 81], mgh17322, [81], [([], none, mgh17289), ([], none, mgh17291), ([], none, mgh17293), ([], none, mgh17295), ([], none, mgh17297), ([], none, mgh17299), ([], none, mgh17301), ([], none, mgh17303), ([], none, mgh17305), ([], none, mgh17307), ([], none, mgh17309), ([], none, mgh17311), ([], none, mgh17313), ([], none, mgh17315), ([], none, mgh17317), ([], none, mgh17319), ([], none, mgh17321)])
def mgx17323 : aw_A := ms_o [(0, 8)] [(0, 4)] ar_t32 ar_t32 [(0, 180)] [(46, 46)] [(45, 60)] [(1, 8)] [(0, 0)]
def mgh17324 : aw_H := [(81, mgx17323)]
def mgx17325 : aw_A := ms_o [(0, 8)] [(0, 4)] ar_t32 ar_t32 [(0, 180)] [(47, 47)] [(45, 60)] [(1, 8)] [(0, 0)]
def mgh17326 : aw_H := [(81, mgx17325)]
def mgx17327 : aw_A := ms_o [(0, 8)] [(0, 4)] ar_t32 ar_t32 [(0, 180)] [(48, 48)] [(45, 60)] [(1, 8)] [(0, 0)]
def mgh17328 : aw_H := [(81, mgx17327)]
def mgx17329 : aw_A := ms_o [(0, 8)] [(0, 4)] ar_t32 ar_t32 [(0, 180)] [(49, 49)] [(45, 60)] [(1, 8)] [(0, 0)]
def mgh17330 : aw_H := [(81, mgx17329)]
def mgx17331 : aw_A := ms_o [(0, 8)] [(0, 4)] ar_t32 ar_t32 [(0, 180)] [(50, 50)] [(45, 60)] [(1, 8)] [(0, 0)]
def mgh17332 : aw_H := [(81, mgx17331)]
def mgx17333 : aw_A := ms_o [(0, 8)] [(0, 4)] ar_t32 ar_t32 [(0, 180)] [(51, 51)] [(45, 60)] [(1, 8)] [(0, 0)]
def mgh17334 : aw_H := [(81, mgx17333)]
def mgx17335 : aw_A := ms_o [(0, 8)] [(0, 4)] ar_t32 ar_t32 [(0, 180)] [(52, 52)] [(45, 60)] [(1, 8)] [(0, 0)]
def mgh17336 : aw_H := [(81, mgx17335)]
def mgx17337 : aw_A := ms_o [(0, 8)] [(0, 4)] ar_t32 ar_t32 [(0, 180)] [(53, 53)] [(45, 60)] [(1, 8)] [(0, 0)]
def mgh17338 : aw_H := [(81, mgx17337)]
def mgx17339 : aw_A := ms_o [(0, 8)] [(0, 4)] ar_t32 ar_t32 [(0, 180)] [(54, 54)] [(45, 60)] [(1, 8)] [(0, 0)]
def mgh17340 : aw_H := [(81, mgx17339)]
def mgx17341 : aw_A := ms_o [(0, 8)] [(0, 4)] ar_t32 ar_t32 [(0, 180)] [(55, 55)] [(45, 60)] [(1, 8)] [(0, 0)]
def mgh17342 : aw_H := [(81, mgx17341)]
def mgx17343 : aw_A := ms_o [(0, 8)] [(0, 4)] ar_t32 ar_t32 [(0, 180)] [(56, 56)] [(45, 60)] [(1, 8)] [(0, 0)]
def mgh17344 : aw_H := [(81, mgx17343)]
def mgx17345 : aw_A := ms_o [(0, 8)] [(0, 4)] ar_t32 ar_t32 [(0, 180)] [(57, 57)] [(45, 60)] [(1, 8)] [(0, 0)]
def mgh17346 : aw_H := [(81, mgx17345)]
def mgx17347 : aw_A := ms_o [(0, 8)] [(0, 4)] ar_t32 ar_t32 [(0, 180)] [(58, 58)] [(45, 60)] [(1, 8)] [(0, 0)]
def mgh17348 : aw_H := [(81, mgx17347)]
def mgx17349 : aw_A := ms_o [(0, 8)] [(0, 4)] ar_t32 ar_t32 [(0, 180)] [(59, 59)] [(45, 60)] [(1, 8)] [(0, 0)]
def mgh17350 : aw_H := [(81, mgx17349)]
def mgx17351 : aw_A := ms_o [(0, 8)] [(0, 4)] ar_t32 ar_t32 [(0, 180)] [(60, 60)] [(45, 60)] [(1, 8)] [(0, 0)]
def mgh17352 : aw_H := [(81, mgx17351)]
/-- MiceRegistersModel.skip -/
def mgc6217 : ak_C := (122, [.inl 81], mgh17146, [81], [([], none, mgh17143), ([], none, mgh17324), ([], none, mgh17326), ([], none, mgh17328), ([], none, mgh17330), ([], none, mgh17332), ([], none, mgh17334), ([], none, mgh17336), ([], none, mgh17338), ([], none, mgh17340), ([], none, mgh17342), ([], none, mgh17344), ([], none, mgh17346), ([], none, mgh17348), ([], none, mgh17350), ([], none, mgh17352)])
def mgx17353 : aw_A := ms_o [(0, 8)] [(0, 4)] ar_t32 ar_t32 [(0, 180)] [(49, 49)] [(49, 60)] [(0, 7)] [(0, 0)]
def mgh17354 : aw_H := [(81, mgx17353)]
/-- MiceRegistersModel.figure -/
def mgh17355 : aw_H := [(81, mgx17130), (90, .inr (.inl (0, 240, [], [])))]
def mgc4862 : ak_C := (125, [.inl 81, .inr (false, [(0, 0)]), .inr (false, [(9, 9)])], mgh17355, [81], [([], some (.inr (false, [(-9, -9)])), mgh17131), ([], some (.inr (false, [(0, 9)])), mgh17354)])
/-- MiceRegistersModel.twoFigures -/
def mgc4863 : ak_C := (126, [.inl 81, .inr (false, [(1, 1)]), .inr (false, [(40, 40)])], mgh17132, [81], [([], some (.inr (false, [(-9, -9)])), mgh17128), ([], some (.inr (false, [(0, 99)])), mgh17354), ([], some (.inr (false, [(-9, -9)])), mgh17131)])
theorem mgk4863 : ai_chk [mgc4856, mgc4862, mgc144] mgc4863 (fun pc => sm_ch sm_t126 pc, sm_Kn 3 6 none, fun x => sm_lk sm_ca3 x, some .int) [81] 6 0 [] [] 2000 [] = true := by decide +kernel
def mgh17356 : aw_H := [(81, mgx17130), (92, .inr (.inl (0, 8, [], []))), (93, .inr (.inl (0, 8, [], [])))]
def mgx17357 : aw_A := ms_o [(0, 8)] [(0, 4)] ar_t32 ar_t32 [(0, 180)] [(49, 49)] [(49, 60)] [(1, 8)] [(0, 0)]
def mgh17358 : aw_H := [(81, mgx17357), (92, .inr (.inl (0, 8, [], []))), (93, .inr (.inl (0, 8, [], [])))]
def mgx17359 : aw_A := ms_o [(0, 8)] [(0, 4)] ar_t32 ar_t32 [(0, 180)] [(45, 45)] [(46, 60)] [(8, 8)] [(0, 0)]
def mgh17360 : aw_H := [(81, mgx17359), (92, .inr (.inl (0, 8, [], []))), (93, .inr (.inl (0, 8, [], [])))]
/-- MiceRegistersModel.readsLine -/
def mgx17361 : aw_A := ms_o [(0, 8)] [(0, 4)] ar_t32 ar_t32 [(0, 180)] [(45, 45)] [(46, 60)] [(0, 8)] [(0, 0)]
def mgh17362 : aw_H := [(81, mgx17361), (90, .inr (.inl (0, 240, [], []))), (92, .inr (.inl (0, 8, [], []))), (93, .inr (.inl (0, 8, [], [])))]
def mgc5423 : ak_C := (124, [.inl 81], mgh17362, [81, 92, 93], [([], some (.inr (false, [(0, 0)])), mgh17356), ([], some (.inr (false, [(1, 1)])), mgh17358), ([], some (.inr (false, [(0, 0)])), mgh17133), ([], some (.inr (false, [(0, 0)])), mgh17136), ([], some (.inr (false, [(0, 0)])), mgh17360)])
theorem mgk5423 : ai_chk [mgc4850, mgc4863] mgc5423 (fun pc => sm_ch sm_t124 pc, sm_Kn 3 3 none, fun x => sm_lk sm_ca3 x, some .boolean) [81, 92, 93] 3 0 [] [] 2000 [] = true := by decide +kernel
/-- MiceRegistersModel.figure -/
def mgc5424 : ak_C := (125, [.inl 81, .inr (false, [(0, 0)]), .inr (false, [(0, 7)])], mgh17149, [81], [([], some (.inr (false, [(-9, -9)])), mgh17145), ([], some (.inr (false, [(0, 7)])), mgh17148)])
/-- MiceRegistersModel.figure -/
def mgc5425 : ak_C := (125, [.inl 81, .inr (false, [(1, 1)]), .inr (false, [(9, 9)])], mgh17278, [81], [([], some (.inr (false, [(-9, -9)])), mgh17148), ([], some (.inr (false, [(1, 9)])), mgh17184)])
def mgh17363 : aw_H := [(81, mgx17361), (94, mgx4446)]
def mgx17364 : aw_A := ms_o [(0, 8)] [(0, 4)] ar_t32 ar_t32 [(0, 180)] [(48, 48)] [(48, 60)] [(1, 8)] [(1, 1)]
def mgh17365 : aw_H := [(81, mgx17364), (94, mgx4449)]
def mgh17366 : aw_H := [(81, mgx17147), (94, mgx4446)]
/-- MiceRegistersModel.readsMouse -/
def mgh17367 : aw_H := [(81, mgx17361), (90, .inr (.inl (0, 240, [], []))), (94, mgx4446)]
def mgc5426 : ak_C := (127, [.inl 81], mgh17367, [81, 94], [([], some (.inr (false, [(0, 0)])), mgh17363), ([], some (.inr (false, [(1, 1)])), mgh17365), ([], some (.inr (false, [(0, 0)])), mgh17366), ([], some (.inr (false, [(0, 0)])), mgh17153)])
theorem mgk5426 : ai_chk [mgc34, mgc147, mgc5424, mgc5425] mgc5426 (fun pc => sm_ch sm_t127 pc, sm_Kn 3 5 none, fun x => sm_lk sm_ca3 x, some .boolean) [81, 94] 5 0 [] [] 2000 [] = true := by decide +kernel
def mgh17368 : aw_H := [(81, mgx17357)]
def mgx17369 : aw_A := ms_o [(0, 8)] [(0, 4)] ar_t32 ar_t32 [(0, 180)] [(50, 50)] [(49, 60)] [(1, 8)] [(0, 0)]
def mgh17370 : aw_H := [(81, mgx17369)]
def mgx17371 : aw_A := ms_o [(0, 8)] [(0, 4)] ar_t32 ar_t32 [(0, 180)] [(51, 51)] [(49, 60)] [(1, 8)] [(0, 0)]
def mgh17372 : aw_H := [(81, mgx17371)]
def mgx17373 : aw_A := ms_o [(0, 8)] [(0, 4)] ar_t32 ar_t32 [(0, 180)] [(52, 52)] [(49, 60)] [(1, 8)] [(0, 0)]
def mgh17374 : aw_H := [(81, mgx17373)]
def mgx17375 : aw_A := ms_o [(0, 8)] [(0, 4)] ar_t32 ar_t32 [(0, 180)] [(53, 53)] [(49, 60)] [(1, 8)] [(0, 0)]
def mgh17376 : aw_H := [(81, mgx17375)]
def mgx17377 : aw_A := ms_o [(0, 8)] [(0, 4)] ar_t32 ar_t32 [(0, 180)] [(54, 54)] [(49, 60)] [(1, 8)] [(0, 0)]
def mgh17378 : aw_H := [(81, mgx17377)]
def mgx17379 : aw_A := ms_o [(0, 8)] [(0, 4)] ar_t32 ar_t32 [(0, 180)] [(55, 55)] [(49, 60)] [(1, 8)] [(0, 0)]
def mgh17380 : aw_H := [(81, mgx17379)]
def mgx17381 : aw_A := ms_o [(0, 8)] [(0, 4)] ar_t32 ar_t32 [(0, 180)] [(56, 56)] [(49, 60)] [(1, 8)] [(0, 0)]
def mgh17382 : aw_H := [(81, mgx17381)]
def mgx17383 : aw_A := ms_o [(0, 8)] [(0, 4)] ar_t32 ar_t32 [(0, 180)] [(57, 57)] [(49, 60)] [(1, 8)] [(0, 0)]
def mgh17384 : aw_H := [(81, mgx17383)]
def mgx17385 : aw_A := ms_o [(0, 8)] [(0, 4)] ar_t32 ar_t32 [(0, 180)] [(58, 58)] [(49, 60)] [(1, 8)] [(0, 0)]
def mgh17386 : aw_H := [(81, mgx17385)]
def mgx17387 : aw_A := ms_o [(0, 8)] [(0, 4)] ar_t32 ar_t32 [(0, 180)] [(59, 59)] [(49, 60)] [(1, 8)] [(0, 0)]
def mgh17388 : aw_H := [(81, mgx17387)]
def mgx17389 : aw_A := ms_o [(0, 8)] [(0, 4)] ar_t32 ar_t32 [(0, 180)] [(60, 60)] [(49, 60)] [(1, 8)] [(0, 0)]
def mgh17390 : aw_H := [(81, mgx17389)]
/-- MiceRegistersModel.skip -/
def mgh17391 : aw_H := [(81, mgx17357), (90, .inr (.inl (0, 240, [], [])))]
def mgc6267 : ak_C := (122, [.inl 81], mgh17391, [81], [([], none, mgh17368), ([], none, mgh17370), ([], none, mgh17372), ([], none, mgh17374), ([], none, mgh17376), ([], none, mgh17378), ([], none, mgh17380), ([], none, mgh17382), ([], none, mgh17384), ([], none, mgh17386), ([], none, mgh17388), ([], none, mgh17390)])
def mgh17392 : aw_H := [(81, mgx17364)]
def mgx17393 : aw_A := ms_o [(0, 8)] [(0, 4)] ar_t32 ar_t32 [(0, 180)] [(49, 49)] [(48, 60)] [(1, 8)] [(1, 1)]
def mgh17394 : aw_H := [(81, mgx17393)]
def mgx17395 : aw_A := ms_o [(0, 8)] [(0, 4)] ar_t32 ar_t32 [(0, 180)] [(50, 50)] [(48, 60)] [(1, 8)] [(1, 1)]
def mgh17396 : aw_H := [(81, mgx17395)]
def mgx17397 : aw_A := ms_o [(0, 8)] [(0, 4)] ar_t32 ar_t32 [(0, 180)] [(51, 51)] [(48, 60)] [(1, 8)] [(1, 1)]
def mgh17398 : aw_H := [(81, mgx17397)]
def mgx17399 : aw_A := ms_o [(0, 8)] [(0, 4)] ar_t32 ar_t32 [(0, 180)] [(52, 52)] [(48, 60)] [(1, 8)] [(1, 1)]
def mgh17400 : aw_H := [(81, mgx17399)]
def mgx17401 : aw_A := ms_o [(0, 8)] [(0, 4)] ar_t32 ar_t32 [(0, 180)] [(53, 53)] [(48, 60)] [(1, 8)] [(1, 1)]
def mgh17402 : aw_H := [(81, mgx17401)]
def mgx17403 : aw_A := ms_o [(0, 8)] [(0, 4)] ar_t32 ar_t32 [(0, 180)] [(54, 54)] [(48, 60)] [(1, 8)] [(1, 1)]
def mgh17404 : aw_H := [(81, mgx17403)]
def mgx17405 : aw_A := ms_o [(0, 8)] [(0, 4)] ar_t32 ar_t32 [(0, 180)] [(55, 55)] [(48, 60)] [(1, 8)] [(1, 1)]
def mgh17406 : aw_H := [(81, mgx17405)]
def mgx17407 : aw_A := ms_o [(0, 8)] [(0, 4)] ar_t32 ar_t32 [(0, 180)] [(56, 56)] [(48, 60)] [(1, 8)] [(1, 1)]
def mgh17408 : aw_H := [(81, mgx17407)]
def mgx17409 : aw_A := ms_o [(0, 8)] [(0, 4)] ar_t32 ar_t32 [(0, 180)] [(57, 57)] [(48, 60)] [(1, 8)] [(1, 1)]
def mgh17410 : aw_H := [(81, mgx17409)]
def mgx17411 : aw_A := ms_o [(0, 8)] [(0, 4)] ar_t32 ar_t32 [(0, 180)] [(58, 58)] [(48, 60)] [(1, 8)] [(1, 1)]
def mgh17412 : aw_H := [(81, mgx17411)]
def mgx17413 : aw_A := ms_o [(0, 8)] [(0, 4)] ar_t32 ar_t32 [(0, 180)] [(59, 59)] [(48, 60)] [(1, 8)] [(1, 1)]
def mgh17414 : aw_H := [(81, mgx17413)]
def mgx17415 : aw_A := ms_o [(0, 8)] [(0, 4)] ar_t32 ar_t32 [(0, 180)] [(60, 60)] [(48, 60)] [(1, 8)] [(1, 1)]
def mgh17416 : aw_H := [(81, mgx17415)]
/-- MiceRegistersModel.skip -/
def mgh17417 : aw_H := [(81, mgx17364), (90, .inr (.inl (0, 240, [], [])))]
def mgc6263 : ak_C := (122, [.inl 81], mgh17417, [81], [([], none, mgh17392), ([], none, mgh17394), ([], none, mgh17396), ([], none, mgh17398), ([], none, mgh17400), ([], none, mgh17402), ([], none, mgh17404), ([], none, mgh17406), ([], none, mgh17408), ([], none, mgh17410), ([], none, mgh17412), ([], none, mgh17414), ([], none, mgh17416)])
/-- MiceRegistersModel.twoFigures -/
def mgc4845 : ak_C := (126, [.inl 81, .inr (false, [(1, 1)]), .inr (false, [(40, 40)])], mgh17210, [81], [([], some (.inr (false, [(-9, -9)])), mgh16952), ([], some (.inr (false, [(0, 99)])), mgh17125), ([], some (.inr (false, [(-9, -9)])), mgh17123)])
theorem mgk4845 : ai_chk [mgc4838, mgc4844, mgc144] mgc4845 (fun pc => sm_ch sm_t126 pc, sm_Kn 3 6 none, fun x => sm_lk sm_ca3 x, some .int) [81] 6 0 [] [] 2000 [] = true := by decide +kernel
def mgh17418 : aw_H := [(81, mgx17144), (92, .inr (.inl (0, 8, [], []))), (93, .inr (.inl (0, 8, [], [])))]
def mgx17419 : aw_A := ms_o [(0, 8)] [(0, 4)] ar_t32 ar_t32 [(0, 180)] [(42, 42)] [(43, 60)] [(8, 8)] [(0, 0)]
def mgh17420 : aw_H := [(81, mgx17419), (92, .inr (.inl (0, 8, [], []))), (93, .inr (.inl (0, 8, [], [])))]
/-- MiceRegistersModel.readsLine -/
def mgx17421 : aw_A := ms_o [(0, 8)] [(0, 4)] ar_t32 ar_t32 [(0, 180)] [(42, 42)] [(43, 60)] [(0, 8)] [(0, 0)]
def mgh17422 : aw_H := [(81, mgx17421), (90, .inr (.inl (0, 240, [], []))), (92, .inr (.inl (0, 8, [], []))), (93, .inr (.inl (0, 8, [], [])))]
def mgc5411 : ak_C := (124, [.inl 81], mgh17422, [81, 92, 93], [([], some (.inr (false, [(0, 0)])), mgh17137), ([], some (.inr (false, [(1, 1)])), mgh17418), ([], some (.inr (false, [(0, 0)])), mgh17212), ([], some (.inr (false, [(0, 0)])), mgh16954), ([], some (.inr (false, [(0, 0)])), mgh17420)])
theorem mgk5411 : ai_chk [mgc4832, mgc4845] mgc5411 (fun pc => sm_ch sm_t124 pc, sm_Kn 3 3 none, fun x => sm_lk sm_ca3 x, some .boolean) [81, 92, 93] 3 0 [] [] 2000 [] = true := by decide +kernel
/-- MiceRegistersModel.figure -/
def mgc5412 : ak_C := (125, [.inl 81, .inr (false, [(0, 0)]), .inr (false, [(0, 7)])], mgh17121, [81], [([], some (.inr (false, [(-9, -9)])), mgh16963), ([], some (.inr (false, [(0, 7)])), mgh16970)])
/-- MiceRegistersModel.figure -/
def mgc5413 : ak_C := (125, [.inl 81, .inr (false, [(1, 1)]), .inr (false, [(9, 9)])], mgh17003, [81], [([], some (.inr (false, [(-9, -9)])), mgh16970), ([], some (.inr (false, [(1, 9)])), mgh17143)])
def mgh17423 : aw_H := [(81, mgx17421), (94, mgx4446)]
def mgx17424 : aw_A := ms_o [(0, 8)] [(0, 4)] ar_t32 ar_t32 [(0, 180)] [(45, 45)] [(45, 60)] [(1, 8)] [(1, 1)]
def mgh17425 : aw_H := [(81, mgx17424), (94, mgx4449)]
/-- MiceRegistersModel.readsMouse -/
def mgh17426 : aw_H := [(81, mgx17421), (90, .inr (.inl (0, 240, [], []))), (94, mgx4446)]
def mgc5414 : ak_C := (127, [.inl 81], mgh17426, [81, 94], [([], some (.inr (false, [(0, 0)])), mgh17423), ([], some (.inr (false, [(1, 1)])), mgh17425), ([], some (.inr (false, [(0, 0)])), mgh17220), ([], some (.inr (false, [(0, 0)])), mgh17287)])
theorem mgk5414 : ai_chk [mgc37, mgc147, mgc5412, mgc5413] mgc5414 (fun pc => sm_ch sm_t127 pc, sm_Kn 3 5 none, fun x => sm_lk sm_ca3 x, some .boolean) [81, 94] 5 0 [] [] 2000 [] = true := by decide +kernel
def mgx17427 : aw_A := ms_o [(0, 8)] [(0, 4)] ar_t32 ar_t32 [(0, 180)] [(47, 47)] [(46, 60)] [(1, 8)] [(0, 0)]
def mgh17428 : aw_H := [(81, mgx17427)]
def mgx17429 : aw_A := ms_o [(0, 8)] [(0, 4)] ar_t32 ar_t32 [(0, 180)] [(48, 48)] [(46, 60)] [(1, 8)] [(0, 0)]
def mgh17430 : aw_H := [(81, mgx17429)]
def mgx17431 : aw_A := ms_o [(0, 8)] [(0, 4)] ar_t32 ar_t32 [(0, 180)] [(49, 49)] [(46, 60)] [(1, 8)] [(0, 0)]
def mgh17432 : aw_H := [(81, mgx17431)]
def mgx17433 : aw_A := ms_o [(0, 8)] [(0, 4)] ar_t32 ar_t32 [(0, 180)] [(50, 50)] [(46, 60)] [(1, 8)] [(0, 0)]
def mgh17434 : aw_H := [(81, mgx17433)]
def mgx17435 : aw_A := ms_o [(0, 8)] [(0, 4)] ar_t32 ar_t32 [(0, 180)] [(51, 51)] [(46, 60)] [(1, 8)] [(0, 0)]
def mgh17436 : aw_H := [(81, mgx17435)]
def mgx17437 : aw_A := ms_o [(0, 8)] [(0, 4)] ar_t32 ar_t32 [(0, 180)] [(52, 52)] [(46, 60)] [(1, 8)] [(0, 0)]
def mgh17438 : aw_H := [(81, mgx17437)]
def mgx17439 : aw_A := ms_o [(0, 8)] [(0, 4)] ar_t32 ar_t32 [(0, 180)] [(53, 53)] [(46, 60)] [(1, 8)] [(0, 0)]
def mgh17440 : aw_H := [(81, mgx17439)]
def mgx17441 : aw_A := ms_o [(0, 8)] [(0, 4)] ar_t32 ar_t32 [(0, 180)] [(54, 54)] [(46, 60)] [(1, 8)] [(0, 0)]
def mgh17442 : aw_H := [(81, mgx17441)]
def mgx17443 : aw_A := ms_o [(0, 8)] [(0, 4)] ar_t32 ar_t32 [(0, 180)] [(55, 55)] [(46, 60)] [(1, 8)] [(0, 0)]
def mgh17444 : aw_H := [(81, mgx17443)]
def mgx17445 : aw_A := ms_o [(0, 8)] [(0, 4)] ar_t32 ar_t32 [(0, 180)] [(56, 56)] [(46, 60)] [(1, 8)] [(0, 0)]
def mgh17446 : aw_H := [(81, mgx17445)]
def mgx17447 : aw_A := ms_o [(0, 8)] [(0, 4)] ar_t32 ar_t32 [(0, 180)] [(57, 57)] [(46, 60)] [(1, 8)] [(0, 0)]
def mgh17448 : aw_H := [(81, mgx17447)]
def mgx17449 : aw_A := ms_o [(0, 8)] [(0, 4)] ar_t32 ar_t32 [(0, 180)] [(58, 58)] [(46, 60)] [(1, 8)] [(0, 0)]
def mgh17450 : aw_H := [(81, mgx17449)]
def mgx17451 : aw_A := ms_o [(0, 8)] [(0, 4)] ar_t32 ar_t32 [(0, 180)] [(59, 59)] [(46, 60)] [(1, 8)] [(0, 0)]
def mgh17452 : aw_H := [(81, mgx17451)]
def mgx17453 : aw_A := ms_o [(0, 8)] [(0, 4)] ar_t32 ar_t32 [(0, 180)] [(60, 60)] [(46, 60)] [(1, 8)] [(0, 0)]
def mgh17454 : aw_H := [(81, mgx17453)]
/-- MiceRegistersModel.skip -/
def mgc6252 : ak_C := (122, [.inl 81], mgh17149, [81], [([], none, mgh17145), ([], none, mgh17428), ([], none, mgh17430), ([], none, mgh17432), ([], none, mgh17434), ([], none, mgh17436), ([], none, mgh17438), ([], none, mgh17440), ([], none, mgh17442), ([], none, mgh17444), ([], none, mgh17446), ([], none, mgh17448), ([], none, mgh17450), ([], none, mgh17452), ([], none, mgh17454)])
def mgx17455 : aw_A := ms_o [(0, 8)] [(0, 4)] ar_t32 ar_t32 [(0, 180)] [(50, 50)] [(50, 60)] [(0, 7)] [(0, 0)]
def mgh17456 : aw_H := [(81, mgx17455)]
def mgx17457 : aw_A := ms_o [(0, 8)] [(0, 4)] ar_t32 ar_t32 [(0, 180)] [(51, 51)] [(51, 60)] [(0, 7)] [(0, 0)]
def mgh17458 : aw_H := [(81, mgx17457)]
/-- MiceRegistersModel.figure -/
def mgh17459 : aw_H := [(81, mgx17455), (90, .inr (.inl (0, 240, [], [])))]
def mgc4874 : ak_C := (125, [.inl 81, .inr (false, [(0, 0)]), .inr (false, [(9, 9)])], mgh17459, [81], [([], some (.inr (false, [(-9, -9)])), mgh17456), ([], some (.inr (false, [(0, 9)])), mgh17458)])
def mgx17460 : aw_A := ms_o [(0, 8)] [(0, 4)] ar_t32 ar_t32 [(0, 180)] [(52, 52)] [(52, 60)] [(0, 7)] [(0, 0)]
def mgh17461 : aw_H := [(81, mgx17460)]
/-- MiceRegistersModel.figure -/
def mgh17462 : aw_H := [(81, mgx17457), (90, .inr (.inl (0, 240, [], [])))]
def mgc4880 : ak_C := (125, [.inl 81, .inr (false, [(0, 0)]), .inr (false, [(9, 9)])], mgh17462, [81], [([], some (.inr (false, [(-9, -9)])), mgh17458), ([], some (.inr (false, [(0, 9)])), mgh17461)])
def mgx17463 : aw_A := ms_o [(0, 8)] [(0, 4)] ar_t32 ar_t32 [(0, 180)] [(53, 53)] [(53, 60)] [(0, 7)] [(0, 0)]
def mgh17464 : aw_H := [(81, mgx17463)]
/-- MiceRegistersModel.figure -/
def mgh17465 : aw_H := [(81, mgx17460), (90, .inr (.inl (0, 240, [], [])))]
def mgc4886 : ak_C := (125, [.inl 81, .inr (false, [(0, 0)]), .inr (false, [(9, 9)])], mgh17465, [81], [([], some (.inr (false, [(-9, -9)])), mgh17461), ([], some (.inr (false, [(0, 9)])), mgh17464)])
/-- MiceRegistersModel.twoFigures -/
def mgc4887 : ak_C := (126, [.inl 81, .inr (false, [(1, 1)]), .inr (false, [(40, 40)])], mgh17462, [81], [([], some (.inr (false, [(-9, -9)])), mgh17458), ([], some (.inr (false, [(0, 99)])), mgh17464), ([], some (.inr (false, [(-9, -9)])), mgh17461)])
theorem mgk4887 : ai_chk [mgc4880, mgc4886, mgc144] mgc4887 (fun pc => sm_ch sm_t126 pc, sm_Kn 3 6 none, fun x => sm_lk sm_ca3 x, some .int) [81] 6 0 [] [] 2000 [] = true := by decide +kernel
def mgh17466 : aw_H := [(81, mgx17460), (92, .inr (.inl (0, 8, [], []))), (93, .inr (.inl (0, 8, [], [])))]
def mgx17467 : aw_A := ms_o [(0, 8)] [(0, 4)] ar_t32 ar_t32 [(0, 180)] [(53, 53)] [(53, 60)] [(1, 8)] [(0, 0)]
def mgh17468 : aw_H := [(81, mgx17467), (92, .inr (.inl (0, 8, [], []))), (93, .inr (.inl (0, 8, [], [])))]
def mgh17469 : aw_H := [(81, mgx17457), (92, .inr (.inl (0, 8, [], []))), (93, .inr (.inl (0, 8, [], [])))]
def mgh17470 : aw_H := [(81, mgx17455), (92, .inr (.inl (0, 8, [], []))), (93, .inr (.inl (0, 8, [], [])))]
def mgx17471 : aw_A := ms_o [(0, 8)] [(0, 4)] ar_t32 ar_t32 [(0, 180)] [(49, 49)] [(50, 60)] [(8, 8)] [(0, 0)]
def mgh17472 : aw_H := [(81, mgx17471), (92, .inr (.inl (0, 8, [], []))), (93, .inr (.inl (0, 8, [], [])))]
/-- MiceRegistersModel.readsLine -/
def mgx17473 : aw_A := ms_o [(0, 8)] [(0, 4)] ar_t32 ar_t32 [(0, 180)] [(49, 49)] [(50, 60)] [(0, 8)] [(0, 0)]
def mgh17474 : aw_H := [(81, mgx17473), (90, .inr (.inl (0, 240, [], []))), (92, .inr (.inl (0, 8, [], []))), (93, .inr (.inl (0, 8, [], [])))]
def mgc5439 : ak_C := (124, [.inl 81], mgh17474, [81, 92, 93], [([], some (.inr (false, [(0, 0)])), mgh17466), ([], some (.inr (false, [(1, 1)])), mgh17468), ([], some (.inr (false, [(0, 0)])), mgh17469), ([], some (.inr (false, [(0, 0)])), mgh17470), ([], some (.inr (false, [(0, 0)])), mgh17472)])
theorem mgk5439 : ai_chk [mgc4874, mgc4887] mgc5439 (fun pc => sm_ch sm_t124 pc, sm_Kn 3 3 none, fun x => sm_lk sm_ca3 x, some .boolean) [81, 92, 93] 3 0 [] [] 2000 [] = true := by decide +kernel
def mgx17475 : aw_A := ms_o [(0, 8)] [(0, 4)] ar_t32 ar_t32 [(0, 180)] [(50, 50)] [(50, 60)] [(1, 8)] [(0, 0)]
def mgh17476 : aw_H := [(81, mgx17475)]
def mgx17477 : aw_A := ms_o [(0, 8)] [(0, 4)] ar_t32 ar_t32 [(0, 180)] [(51, 51)] [(51, 60)] [(1, 8)] [(0, 0)]
def mgh17478 : aw_H := [(81, mgx17477)]
/-- MiceRegistersModel.figure -/
def mgh17479 : aw_H := [(81, mgx17475), (90, .inr (.inl (0, 240, [], [])))]
def mgc5440 : ak_C := (125, [.inl 81, .inr (false, [(0, 0)]), .inr (false, [(0, 7)])], mgh17479, [81], [([], some (.inr (false, [(-9, -9)])), mgh17476), ([], some (.inr (false, [(0, 7)])), mgh17478)])
def mgx17480 : aw_A := ms_o [(0, 8)] [(0, 4)] ar_t32 ar_t32 [(0, 180)] [(52, 52)] [(52, 60)] [(1, 8)] [(0, 0)]
def mgh17481 : aw_H := [(81, mgx17480)]
/-- MiceRegistersModel.figure -/
def mgh17482 : aw_H := [(81, mgx17477), (90, .inr (.inl (0, 240, [], [])))]
def mgc5441 : ak_C := (125, [.inl 81, .inr (false, [(1, 1)]), .inr (false, [(9, 9)])], mgh17482, [81], [([], some (.inr (false, [(-9, -9)])), mgh17478), ([], some (.inr (false, [(1, 9)])), mgh17481)])
def mgh17483 : aw_H := [(81, mgx17473), (94, mgx4446)]
def mgx17484 : aw_A := ms_o [(0, 8)] [(0, 4)] ar_t32 ar_t32 [(0, 180)] [(52, 52)] [(52, 60)] [(1, 8)] [(1, 1)]
def mgh17485 : aw_H := [(81, mgx17484), (94, mgx4449)]
def mgh17486 : aw_H := [(81, mgx17477), (94, mgx4446)]
def mgh17487 : aw_H := [(81, mgx17475), (94, mgx4446)]
/-- MiceRegistersModel.readsMouse -/
def mgh17488 : aw_H := [(81, mgx17473), (90, .inr (.inl (0, 240, [], []))), (94, mgx4446)]
def mgc5442 : ak_C := (127, [.inl 81], mgh17488, [81, 94], [([], some (.inr (false, [(0, 0)])), mgh17483), ([], some (.inr (false, [(1, 1)])), mgh17485), ([], some (.inr (false, [(0, 0)])), mgh17486), ([], some (.inr (false, [(0, 0)])), mgh17487)])
theorem mgk5442 : ai_chk [mgc30, mgc147, mgc5440, mgc5441] mgc5442 (fun pc => sm_ch sm_t127 pc, sm_Kn 3 5 none, fun x => sm_lk sm_ca3 x, some .boolean) [81, 94] 5 0 [] [] 2000 [] = true := by decide +kernel
def mgh17489 : aw_H := [(81, mgx17484)]
def mgx17490 : aw_A := ms_o [(0, 8)] [(0, 4)] ar_t32 ar_t32 [(0, 180)] [(53, 53)] [(52, 60)] [(1, 8)] [(1, 1)]
def mgh17491 : aw_H := [(81, mgx17490)]
def mgx17492 : aw_A := ms_o [(0, 8)] [(0, 4)] ar_t32 ar_t32 [(0, 180)] [(54, 54)] [(52, 60)] [(1, 8)] [(1, 1)]
def mgh17493 : aw_H := [(81, mgx17492)]
def mgx17494 : aw_A := ms_o [(0, 8)] [(0, 4)] ar_t32 ar_t32 [(0, 180)] [(55, 55)] [(52, 60)] [(1, 8)] [(1, 1)]
def mgh17495 : aw_H := [(81, mgx17494)]
def mgx17496 : aw_A := ms_o [(0, 8)] [(0, 4)] ar_t32 ar_t32 [(0, 180)] [(56, 56)] [(52, 60)] [(1, 8)] [(1, 1)]
def mgh17497 : aw_H := [(81, mgx17496)]
def mgx17498 : aw_A := ms_o [(0, 8)] [(0, 4)] ar_t32 ar_t32 [(0, 180)] [(57, 57)] [(52, 60)] [(1, 8)] [(1, 1)]
def mgh17499 : aw_H := [(81, mgx17498)]
def mgx17500 : aw_A := ms_o [(0, 8)] [(0, 4)] ar_t32 ar_t32 [(0, 180)] [(58, 58)] [(52, 60)] [(1, 8)] [(1, 1)]
def mgh17501 : aw_H := [(81, mgx17500)]
def mgx17502 : aw_A := ms_o [(0, 8)] [(0, 4)] ar_t32 ar_t32 [(0, 180)] [(59, 59)] [(52, 60)] [(1, 8)] [(1, 1)]
def mgh17503 : aw_H := [(81, mgx17502)]
def mgx17504 : aw_A := ms_o [(0, 8)] [(0, 4)] ar_t32 ar_t32 [(0, 180)] [(60, 60)] [(52, 60)] [(1, 8)] [(1, 1)]
def mgh17505 : aw_H := [(81, mgx17504)]
/-- MiceRegistersModel.skip -/
def mgh17506 : aw_H := [(81, mgx17484), (90, .inr (.inl (0, 240, [], [])))]
def mgc6283 : ak_C := (122, [.inl 81], mgh17506, [81], [([], none, mgh17489), ([], none, mgh17491), ([], none, mgh17493), ([], none, mgh17495), ([], none, mgh17497), ([], none, mgh17499), ([], none, mgh17501), ([], none, mgh17503), ([], none, mgh17505)])
def mgh17507 : aw_H := [(81, mgx17467)]
def mgx17508 : aw_A := ms_o [(0, 8)] [(0, 4)] ar_t32 ar_t32 [(0, 180)] [(54, 54)] [(53, 60)] [(1, 8)] [(0, 0)]
def mgh17509 : aw_H := [(81, mgx17508)]
def mgx17510 : aw_A := ms_o [(0, 8)] [(0, 4)] ar_t32 ar_t32 [(0, 180)] [(55, 55)] [(53, 60)] [(1, 8)] [(0, 0)]
def mgh17511 : aw_H := [(81, mgx17510)]
def mgx17512 : aw_A := ms_o [(0, 8)] [(0, 4)] ar_t32 ar_t32 [(0, 180)] [(56, 56)] [(53, 60)] [(1, 8)] [(0, 0)]
def mgh17513 : aw_H := [(81, mgx17512)]
def mgx17514 : aw_A := ms_o [(0, 8)] [(0, 4)] ar_t32 ar_t32 [(0, 180)] [(57, 57)] [(53, 60)] [(1, 8)] [(0, 0)]
def mgh17515 : aw_H := [(81, mgx17514)]
def mgx17516 : aw_A := ms_o [(0, 8)] [(0, 4)] ar_t32 ar_t32 [(0, 180)] [(58, 58)] [(53, 60)] [(1, 8)] [(0, 0)]
def mgh17517 : aw_H := [(81, mgx17516)]
def mgx17518 : aw_A := ms_o [(0, 8)] [(0, 4)] ar_t32 ar_t32 [(0, 180)] [(59, 59)] [(53, 60)] [(1, 8)] [(0, 0)]
def mgh17519 : aw_H := [(81, mgx17518)]
def mgx17520 : aw_A := ms_o [(0, 8)] [(0, 4)] ar_t32 ar_t32 [(0, 180)] [(60, 60)] [(53, 60)] [(1, 8)] [(0, 0)]
def mgh17521 : aw_H := [(81, mgx17520)]
/-- MiceRegistersModel.skip -/
def mgh17522 : aw_H := [(81, mgx17467), (90, .inr (.inl (0, 240, [], [])))]
def mgc6287 : ak_C := (122, [.inl 81], mgh17522, [81], [([], none, mgh17507), ([], none, mgh17509), ([], none, mgh17511), ([], none, mgh17513), ([], none, mgh17515), ([], none, mgh17517), ([], none, mgh17519), ([], none, mgh17521)])
/-- MiceRegistersModel.figure -/
def mgh17523 : aw_H := [(81, mgx17353), (90, .inr (.inl (0, 240, [], [])))]
def mgc4868 : ak_C := (125, [.inl 81, .inr (false, [(0, 0)]), .inr (false, [(9, 9)])], mgh17523, [81], [([], some (.inr (false, [(-9, -9)])), mgh17354), ([], some (.inr (false, [(0, 9)])), mgh17456)])
/-- MiceRegistersModel.twoFigures -/
def mgc4875 : ak_C := (126, [.inl 81, .inr (false, [(1, 1)]), .inr (false, [(40, 40)])], mgh17523, [81], [([], some (.inr (false, [(-9, -9)])), mgh17354), ([], some (.inr (false, [(0, 99)])), mgh17458), ([], some (.inr (false, [(-9, -9)])), mgh17456)])
theorem mgk4875 : ai_chk [mgc4868, mgc4874, mgc144] mgc4875 (fun pc => sm_ch sm_t126 pc, sm_Kn 3 6 none, fun x => sm_lk sm_ca3 x, some .int) [81] 6 0 [] [] 2000 [] = true := by decide +kernel
def mgh17524 : aw_H := [(81, mgx17477), (92, .inr (.inl (0, 8, [], []))), (93, .inr (.inl (0, 8, [], [])))]
def mgh17525 : aw_H := [(81, mgx17353), (92, .inr (.inl (0, 8, [], []))), (93, .inr (.inl (0, 8, [], [])))]
def mgx17526 : aw_A := ms_o [(0, 8)] [(0, 4)] ar_t32 ar_t32 [(0, 180)] [(47, 47)] [(48, 60)] [(8, 8)] [(0, 0)]
def mgh17527 : aw_H := [(81, mgx17526), (92, .inr (.inl (0, 8, [], []))), (93, .inr (.inl (0, 8, [], [])))]
/-- MiceRegistersModel.readsLine -/
def mgx17528 : aw_A := ms_o [(0, 8)] [(0, 4)] ar_t32 ar_t32 [(0, 180)] [(47, 47)] [(48, 60)] [(0, 8)] [(0, 0)]
def mgh17529 : aw_H := [(81, mgx17528), (90, .inr (.inl (0, 240, [], []))), (92, .inr (.inl (0, 8, [], []))), (93, .inr (.inl (0, 8, [], [])))]
def mgc5431 : ak_C := (124, [.inl 81], mgh17529, [81, 92, 93], [([], some (.inr (false, [(0, 0)])), mgh17470), ([], some (.inr (false, [(1, 1)])), mgh17524), ([], some (.inr (false, [(0, 0)])), mgh17525), ([], some (.inr (false, [(0, 0)])), mgh17356), ([], some (.inr (false, [(0, 0)])), mgh17527)])
theorem mgk5431 : ai_chk [mgc4862, mgc4875] mgc5431 (fun pc => sm_ch sm_t124 pc, sm_Kn 3 3 none, fun x => sm_lk sm_ca3 x, some .boolean) [81, 92, 93] 3 0 [] [] 2000 [] = true := by decide +kernel
/-- MiceRegistersModel.figure -/
def mgc5432 : ak_C := (125, [.inl 81, .inr (false, [(0, 0)]), .inr (false, [(0, 7)])], mgh17209, [81], [([], some (.inr (false, [(-9, -9)])), mgh17184), ([], some (.inr (false, [(0, 7)])), mgh17368)])
/-- MiceRegistersModel.figure -/
def mgc5433 : ak_C := (125, [.inl 81, .inr (false, [(1, 1)]), .inr (false, [(9, 9)])], mgh17391, [81], [([], some (.inr (false, [(-9, -9)])), mgh17368), ([], some (.inr (false, [(1, 9)])), mgh17476)])
def mgh17530 : aw_H := [(81, mgx17528), (94, mgx4446)]
def mgx17531 : aw_A := ms_o [(0, 8)] [(0, 4)] ar_t32 ar_t32 [(0, 180)] [(50, 50)] [(50, 60)] [(1, 8)] [(1, 1)]
def mgh17532 : aw_H := [(81, mgx17531), (94, mgx4449)]
def mgh17533 : aw_H := [(81, mgx17357), (94, mgx4446)]
def mgh17534 : aw_H := [(81, mgx17134), (94, mgx4446)]
/-- MiceRegistersModel.readsMouse -/
def mgh17535 : aw_H := [(81, mgx17528), (90, .inr (.inl (0, 240, [], []))), (94, mgx4446)]
def mgc5434 : ak_C := (127, [.inl 81], mgh17535, [81, 94], [([], some (.inr (false, [(0, 0)])), mgh17530), ([], some (.inr (false, [(1, 1)])), mgh17532), ([], some (.inr (false, [(0, 0)])), mgh17533), ([], some (.inr (false, [(0, 0)])), mgh17534)])
theorem mgk5434 : ai_chk [mgc32, mgc147, mgc5432, mgc5433] mgc5434 (fun pc => sm_ch sm_t127 pc, sm_Kn 3 5 none, fun x => sm_lk sm_ca3 x, some .boolean) [81, 94] 5 0 [] [] 2000 [] = true := by decide +kernel
def mgx17536 : aw_A := ms_o [(0, 8)] [(0, 4)] ar_t32 ar_t32 [(0, 180)] [(52, 52)] [(51, 60)] [(1, 8)] [(0, 0)]
def mgh17537 : aw_H := [(81, mgx17536)]
def mgx17538 : aw_A := ms_o [(0, 8)] [(0, 4)] ar_t32 ar_t32 [(0, 180)] [(53, 53)] [(51, 60)] [(1, 8)] [(0, 0)]
def mgh17539 : aw_H := [(81, mgx17538)]
def mgx17540 : aw_A := ms_o [(0, 8)] [(0, 4)] ar_t32 ar_t32 [(0, 180)] [(54, 54)] [(51, 60)] [(1, 8)] [(0, 0)]
def mgh17541 : aw_H := [(81, mgx17540)]
def mgx17542 : aw_A := ms_o [(0, 8)] [(0, 4)] ar_t32 ar_t32 [(0, 180)] [(55, 55)] [(51, 60)] [(1, 8)] [(0, 0)]
def mgh17543 : aw_H := [(81, mgx17542)]
def mgx17544 : aw_A := ms_o [(0, 8)] [(0, 4)] ar_t32 ar_t32 [(0, 180)] [(56, 56)] [(51, 60)] [(1, 8)] [(0, 0)]
def mgh17545 : aw_H := [(81, mgx17544)]
def mgx17546 : aw_A := ms_o [(0, 8)] [(0, 4)] ar_t32 ar_t32 [(0, 180)] [(57, 57)] [(51, 60)] [(1, 8)] [(0, 0)]
def mgh17547 : aw_H := [(81, mgx17546)]
def mgx17548 : aw_A := ms_o [(0, 8)] [(0, 4)] ar_t32 ar_t32 [(0, 180)] [(58, 58)] [(51, 60)] [(1, 8)] [(0, 0)]
def mgh17549 : aw_H := [(81, mgx17548)]
def mgx17550 : aw_A := ms_o [(0, 8)] [(0, 4)] ar_t32 ar_t32 [(0, 180)] [(59, 59)] [(51, 60)] [(1, 8)] [(0, 0)]
def mgh17551 : aw_H := [(81, mgx17550)]
def mgx17552 : aw_A := ms_o [(0, 8)] [(0, 4)] ar_t32 ar_t32 [(0, 180)] [(60, 60)] [(51, 60)] [(1, 8)] [(0, 0)]
def mgh17553 : aw_H := [(81, mgx17552)]
/-- MiceRegistersModel.skip -/
def mgc6277 : ak_C := (122, [.inl 81], mgh17482, [81], [([], none, mgh17478), ([], none, mgh17537), ([], none, mgh17539), ([], none, mgh17541), ([], none, mgh17543), ([], none, mgh17545), ([], none, mgh17547), ([], none, mgh17549), ([], none, mgh17551), ([], none, mgh17553)])
def mgh17554 : aw_H := [(81, mgx17531)]
def mgx17555 : aw_A := ms_o [(0, 8)] [(0, 4)] ar_t32 ar_t32 [(0, 180)] [(51, 51)] [(50, 60)] [(1, 8)] [(1, 1)]
def mgh17556 : aw_H := [(81, mgx17555)]
def mgx17557 : aw_A := ms_o [(0, 8)] [(0, 4)] ar_t32 ar_t32 [(0, 180)] [(52, 52)] [(50, 60)] [(1, 8)] [(1, 1)]
def mgh17558 : aw_H := [(81, mgx17557)]
def mgx17559 : aw_A := ms_o [(0, 8)] [(0, 4)] ar_t32 ar_t32 [(0, 180)] [(53, 53)] [(50, 60)] [(1, 8)] [(1, 1)]
def mgh17560 : aw_H := [(81, mgx17559)]
def mgx17561 : aw_A := ms_o [(0, 8)] [(0, 4)] ar_t32 ar_t32 [(0, 180)] [(54, 54)] [(50, 60)] [(1, 8)] [(1, 1)]
def mgh17562 : aw_H := [(81, mgx17561)]
def mgx17563 : aw_A := ms_o [(0, 8)] [(0, 4)] ar_t32 ar_t32 [(0, 180)] [(55, 55)] [(50, 60)] [(1, 8)] [(1, 1)]
def mgh17564 : aw_H := [(81, mgx17563)]
def mgx17565 : aw_A := ms_o [(0, 8)] [(0, 4)] ar_t32 ar_t32 [(0, 180)] [(56, 56)] [(50, 60)] [(1, 8)] [(1, 1)]
def mgh17566 : aw_H := [(81, mgx17565)]
def mgx17567 : aw_A := ms_o [(0, 8)] [(0, 4)] ar_t32 ar_t32 [(0, 180)] [(57, 57)] [(50, 60)] [(1, 8)] [(1, 1)]
def mgh17568 : aw_H := [(81, mgx17567)]
def mgx17569 : aw_A := ms_o [(0, 8)] [(0, 4)] ar_t32 ar_t32 [(0, 180)] [(58, 58)] [(50, 60)] [(1, 8)] [(1, 1)]
def mgh17570 : aw_H := [(81, mgx17569)]
def mgx17571 : aw_A := ms_o [(0, 8)] [(0, 4)] ar_t32 ar_t32 [(0, 180)] [(59, 59)] [(50, 60)] [(1, 8)] [(1, 1)]
def mgh17572 : aw_H := [(81, mgx17571)]
def mgx17573 : aw_A := ms_o [(0, 8)] [(0, 4)] ar_t32 ar_t32 [(0, 180)] [(60, 60)] [(50, 60)] [(1, 8)] [(1, 1)]
def mgh17574 : aw_H := [(81, mgx17573)]
/-- MiceRegistersModel.skip -/
def mgh17575 : aw_H := [(81, mgx17531), (90, .inr (.inl (0, 240, [], [])))]
def mgc6273 : ak_C := (122, [.inl 81], mgh17575, [81], [([], none, mgh17554), ([], none, mgh17556), ([], none, mgh17558), ([], none, mgh17560), ([], none, mgh17562), ([], none, mgh17564), ([], none, mgh17566), ([], none, mgh17568), ([], none, mgh17570), ([], none, mgh17572), ([], none, mgh17574)])
/-- MiceRegistersModel.twoFigures -/
def mgc4881 : ak_C := (126, [.inl 81, .inr (false, [(1, 1)]), .inr (false, [(40, 40)])], mgh17459, [81], [([], some (.inr (false, [(-9, -9)])), mgh17456), ([], some (.inr (false, [(0, 99)])), mgh17461), ([], some (.inr (false, [(-9, -9)])), mgh17458)])
theorem mgk4881 : ai_chk [mgc4874, mgc4880, mgc144] mgc4881 (fun pc => sm_ch sm_t126 pc, sm_Kn 3 6 none, fun x => sm_lk sm_ca3 x, some .int) [81] 6 0 [] [] 2000 [] = true := by decide +kernel
def mgh17576 : aw_H := [(81, mgx17480), (92, .inr (.inl (0, 8, [], []))), (93, .inr (.inl (0, 8, [], [])))]
def mgx17577 : aw_A := ms_o [(0, 8)] [(0, 4)] ar_t32 ar_t32 [(0, 180)] [(48, 48)] [(49, 60)] [(8, 8)] [(0, 0)]
def mgh17578 : aw_H := [(81, mgx17577), (92, .inr (.inl (0, 8, [], []))), (93, .inr (.inl (0, 8, [], [])))]
/-- MiceRegistersModel.readsLine -/
def mgx17579 : aw_A := ms_o [(0, 8)] [(0, 4)] ar_t32 ar_t32 [(0, 180)] [(48, 48)] [(49, 60)] [(0, 8)] [(0, 0)]
def mgh17580 : aw_H := [(81, mgx17579), (90, .inr (.inl (0, 240, [], []))), (92, .inr (.inl (0, 8, [], []))), (93, .inr (.inl (0, 8, [], [])))]
def mgc5435 : ak_C := (124, [.inl 81], mgh17580, [81, 92, 93], [([], some (.inr (false, [(0, 0)])), mgh17469), ([], some (.inr (false, [(1, 1)])), mgh17576), ([], some (.inr (false, [(0, 0)])), mgh17470), ([], some (.inr (false, [(0, 0)])), mgh17525), ([], some (.inr (false, [(0, 0)])), mgh17578)])
theorem mgk5435 : ai_chk [mgc4868, mgc4881] mgc5435 (fun pc => sm_ch sm_t124 pc, sm_Kn 3 3 none, fun x => sm_lk sm_ca3 x, some .boolean) [81, 92, 93] 3 0 [] [] 2000 [] = true := by decide +kernel
/-- MiceRegistersModel.figure -/
def mgc5436 : ak_C := (125, [.inl 81, .inr (false, [(0, 0)]), .inr (false, [(0, 7)])], mgh17391, [81], [([], some (.inr (false, [(-9, -9)])), mgh17368), ([], some (.inr (false, [(0, 7)])), mgh17476)])
/-- MiceRegistersModel.figure -/
def mgc5437 : ak_C := (125, [.inl 81, .inr (false, [(1, 1)]), .inr (false, [(9, 9)])], mgh17479, [81], [([], some (.inr (false, [(-9, -9)])), mgh17476), ([], some (.inr (false, [(1, 9)])), mgh17478)])
def mgh17581 : aw_H := [(81, mgx17579), (94, mgx4446)]
def mgx17582 : aw_A := ms_o [(0, 8)] [(0, 4)] ar_t32 ar_t32 [(0, 180)] [(51, 51)] [(51, 60)] [(1, 8)] [(1, 1)]
def mgh17583 : aw_H := [(81, mgx17582), (94, mgx4449)]
/-- MiceRegistersModel.readsMouse -/
def mgh17584 : aw_H := [(81, mgx17579), (90, .inr (.inl (0, 240, [], []))), (94, mgx4446)]
def mgc5438 : ak_C := (127, [.inl 81], mgh17584, [81, 94], [([], some (.inr (false, [(0, 0)])), mgh17581), ([], some (.inr (false, [(1, 1)])), mgh17583), ([], some (.inr (false, [(0, 0)])), mgh17487), ([], some (.inr (false, [(0, 0)])), mgh17533)])
theorem mgk5438 : ai_chk [mgc31, mgc147, mgc5436, mgc5437] mgc5438 (fun pc => sm_ch sm_t127 pc, sm_Kn 3 5 none, fun x => sm_lk sm_ca3 x, some .boolean) [81, 94] 5 0 [] [] 2000 [] = true := by decide +kernel
def mgh17585 : aw_H := [(81, mgx17582)]
def mgx17586 : aw_A := ms_o [(0, 8)] [(0, 4)] ar_t32 ar_t32 [(0, 180)] [(52, 52)] [(51, 60)] [(1, 8)] [(1, 1)]
def mgh17587 : aw_H := [(81, mgx17586)]
def mgx17588 : aw_A := ms_o [(0, 8)] [(0, 4)] ar_t32 ar_t32 [(0, 180)] [(53, 53)] [(51, 60)] [(1, 8)] [(1, 1)]
def mgh17589 : aw_H := [(81, mgx17588)]
def mgx17590 : aw_A := ms_o [(0, 8)] [(0, 4)] ar_t32 ar_t32 [(0, 180)] [(54, 54)] [(51, 60)] [(1, 8)] [(1, 1)]
def mgh17591 : aw_H := [(81, mgx17590)]
def mgx17592 : aw_A := ms_o [(0, 8)] [(0, 4)] ar_t32 ar_t32 [(0, 180)] [(55, 55)] [(51, 60)] [(1, 8)] [(1, 1)]
def mgh17593 : aw_H := [(81, mgx17592)]
def mgx17594 : aw_A := ms_o [(0, 8)] [(0, 4)] ar_t32 ar_t32 [(0, 180)] [(56, 56)] [(51, 60)] [(1, 8)] [(1, 1)]
def mgh17595 : aw_H := [(81, mgx17594)]
def mgx17596 : aw_A := ms_o [(0, 8)] [(0, 4)] ar_t32 ar_t32 [(0, 180)] [(57, 57)] [(51, 60)] [(1, 8)] [(1, 1)]
def mgh17597 : aw_H := [(81, mgx17596)]
def mgx17598 : aw_A := ms_o [(0, 8)] [(0, 4)] ar_t32 ar_t32 [(0, 180)] [(58, 58)] [(51, 60)] [(1, 8)] [(1, 1)]
def mgh17599 : aw_H := [(81, mgx17598)]
def mgx17600 : aw_A := ms_o [(0, 8)] [(0, 4)] ar_t32 ar_t32 [(0, 180)] [(59, 59)] [(51, 60)] [(1, 8)] [(1, 1)]
def mgh17601 : aw_H := [(81, mgx17600)]
def mgx17602 : aw_A := ms_o [(0, 8)] [(0, 4)] ar_t32 ar_t32 [(0, 180)] [(60, 60)] [(51, 60)] [(1, 8)] [(1, 1)]
def mgh17603 : aw_H := [(81, mgx17602)]
/-- MiceRegistersModel.skip -/
def mgh17604 : aw_H := [(81, mgx17582), (90, .inr (.inl (0, 240, [], [])))]
def mgc6278 : ak_C := (122, [.inl 81], mgh17604, [81], [([], none, mgh17585), ([], none, mgh17587), ([], none, mgh17589), ([], none, mgh17591), ([], none, mgh17593), ([], none, mgh17595), ([], none, mgh17597), ([], none, mgh17599), ([], none, mgh17601), ([], none, mgh17603)])
def mgx17605 : aw_A := ms_o [(0, 8)] [(0, 4)] ar_t32 ar_t32 [(0, 180)] [(53, 53)] [(52, 60)] [(1, 8)] [(0, 0)]
def mgh17606 : aw_H := [(81, mgx17605)]
def mgx17607 : aw_A := ms_o [(0, 8)] [(0, 4)] ar_t32 ar_t32 [(0, 180)] [(54, 54)] [(52, 60)] [(1, 8)] [(0, 0)]
def mgh17608 : aw_H := [(81, mgx17607)]
def mgx17609 : aw_A := ms_o [(0, 8)] [(0, 4)] ar_t32 ar_t32 [(0, 180)] [(55, 55)] [(52, 60)] [(1, 8)] [(0, 0)]
def mgh17610 : aw_H := [(81, mgx17609)]
def mgx17611 : aw_A := ms_o [(0, 8)] [(0, 4)] ar_t32 ar_t32 [(0, 180)] [(56, 56)] [(52, 60)] [(1, 8)] [(0, 0)]
def mgh17612 : aw_H := [(81, mgx17611)]
def mgx17613 : aw_A := ms_o [(0, 8)] [(0, 4)] ar_t32 ar_t32 [(0, 180)] [(57, 57)] [(52, 60)] [(1, 8)] [(0, 0)]
def mgh17614 : aw_H := [(81, mgx17613)]
def mgx17615 : aw_A := ms_o [(0, 8)] [(0, 4)] ar_t32 ar_t32 [(0, 180)] [(58, 58)] [(52, 60)] [(1, 8)] [(0, 0)]
def mgh17616 : aw_H := [(81, mgx17615)]
def mgx17617 : aw_A := ms_o [(0, 8)] [(0, 4)] ar_t32 ar_t32 [(0, 180)] [(59, 59)] [(52, 60)] [(1, 8)] [(0, 0)]
def mgh17618 : aw_H := [(81, mgx17617)]
def mgx17619 : aw_A := ms_o [(0, 8)] [(0, 4)] ar_t32 ar_t32 [(0, 180)] [(60, 60)] [(52, 60)] [(1, 8)] [(0, 0)]
def mgh17620 : aw_H := [(81, mgx17619)]
/-- MiceRegistersModel.skip -/
def mgh17621 : aw_H := [(81, mgx17480), (90, .inr (.inl (0, 240, [], [])))]
def mgc6282 : ak_C := (122, [.inl 81], mgh17621, [81], [([], none, mgh17481), ([], none, mgh17606), ([], none, mgh17608), ([], none, mgh17610), ([], none, mgh17612), ([], none, mgh17614), ([], none, mgh17616), ([], none, mgh17618), ([], none, mgh17620)])
/-- MiceRegistersModel.twoFigures -/
def mgc4869 : ak_C := (126, [.inl 81, .inr (false, [(1, 1)]), .inr (false, [(40, 40)])], mgh17355, [81], [([], some (.inr (false, [(-9, -9)])), mgh17131), ([], some (.inr (false, [(0, 99)])), mgh17456), ([], some (.inr (false, [(-9, -9)])), mgh17354)])
theorem mgk4869 : ai_chk [mgc4862, mgc4868, mgc144] mgc4869 (fun pc => sm_ch sm_t126 pc, sm_Kn 3 6 none, fun x => sm_lk sm_ca3 x, some .int) [81] 6 0 [] [] 2000 [] = true := by decide +kernel
def mgh17622 : aw_H := [(81, mgx17475), (92, .inr (.inl (0, 8, [], []))), (93, .inr (.inl (0, 8, [], [])))]
def mgx17623 : aw_A := ms_o [(0, 8)] [(0, 4)] ar_t32 ar_t32 [(0, 180)] [(46, 46)] [(47, 60)] [(8, 8)] [(0, 0)]
def mgh17624 : aw_H := [(81, mgx17623), (92, .inr (.inl (0, 8, [], []))), (93, .inr (.inl (0, 8, [], [])))]
/-- MiceRegistersModel.readsLine -/
def mgx17625 : aw_A := ms_o [(0, 8)] [(0, 4)] ar_t32 ar_t32 [(0, 180)] [(46, 46)] [(47, 60)] [(0, 8)] [(0, 0)]
def mgh17626 : aw_H := [(81, mgx17625), (90, .inr (.inl (0, 240, [], []))), (92, .inr (.inl (0, 8, [], []))), (93, .inr (.inl (0, 8, [], [])))]
def mgc5427 : ak_C := (124, [.inl 81], mgh17626, [81, 92, 93], [([], some (.inr (false, [(0, 0)])), mgh17525), ([], some (.inr (false, [(1, 1)])), mgh17622), ([], some (.inr (false, [(0, 0)])), mgh17356), ([], some (.inr (false, [(0, 0)])), mgh17133), ([], some (.inr (false, [(0, 0)])), mgh17624)])
theorem mgk5427 : ai_chk [mgc4856, mgc4869] mgc5427 (fun pc => sm_ch sm_t124 pc, sm_Kn 3 3 none, fun x => sm_lk sm_ca3 x, some .boolean) [81, 92, 93] 3 0 [] [] 2000 [] = true := by decide +kernel
/-- MiceRegistersModel.figure -/
def mgc5428 : ak_C := (125, [.inl 81, .inr (false, [(0, 0)]), .inr (false, [(0, 7)])], mgh17278, [81], [([], some (.inr (false, [(-9, -9)])), mgh17148), ([], some (.inr (false, [(0, 7)])), mgh17184)])
/-- MiceRegistersModel.figure -/
def mgc5429 : ak_C := (125, [.inl 81, .inr (false, [(1, 1)]), .inr (false, [(9, 9)])], mgh17209, [81], [([], some (.inr (false, [(-9, -9)])), mgh17184), ([], some (.inr (false, [(1, 9)])), mgh17368)])
def mgh17627 : aw_H := [(81, mgx17625), (94, mgx4446)]
def mgx17628 : aw_A := ms_o [(0, 8)] [(0, 4)] ar_t32 ar_t32 [(0, 180)] [(49, 49)] [(49, 60)] [(1, 8)] [(1, 1)]
def mgh17629 : aw_H := [(81, mgx17628), (94, mgx4449)]
/-- MiceRegistersModel.readsMouse -/
def mgh17630 : aw_H := [(81, mgx17625), (90, .inr (.inl (0, 240, [], []))), (94, mgx4446)]
def mgc5430 : ak_C := (127, [.inl 81], mgh17630, [81, 94], [([], some (.inr (false, [(0, 0)])), mgh17627), ([], some (.inr (false, [(1, 1)])), mgh17629), ([], some (.inr (false, [(0, 0)])), mgh17534), ([], some (.inr (false, [(0, 0)])), mgh17366)])
theorem mgk5430 : ai_chk [mgc33, mgc147, mgc5428, mgc5429] mgc5430 (fun pc => sm_ch sm_t127 pc, sm_Kn 3 5 none, fun x => sm_lk sm_ca3 x, some .boolean) [81, 94] 5 0 [] [] 2000 [] = true := by decide +kernel
def mgh17631 : aw_H := [(81, mgx17628)]
def mgx17632 : aw_A := ms_o [(0, 8)] [(0, 4)] ar_t32 ar_t32 [(0, 180)] [(50, 50)] [(49, 60)] [(1, 8)] [(1, 1)]
def mgh17633 : aw_H := [(81, mgx17632)]
def mgx17634 : aw_A := ms_o [(0, 8)] [(0, 4)] ar_t32 ar_t32 [(0, 180)] [(51, 51)] [(49, 60)] [(1, 8)] [(1, 1)]
def mgh17635 : aw_H := [(81, mgx17634)]
def mgx17636 : aw_A := ms_o [(0, 8)] [(0, 4)] ar_t32 ar_t32 [(0, 180)] [(52, 52)] [(49, 60)] [(1, 8)] [(1, 1)]
def mgh17637 : aw_H := [(81, mgx17636)]
def mgx17638 : aw_A := ms_o [(0, 8)] [(0, 4)] ar_t32 ar_t32 [(0, 180)] [(53, 53)] [(49, 60)] [(1, 8)] [(1, 1)]
def mgh17639 : aw_H := [(81, mgx17638)]
def mgx17640 : aw_A := ms_o [(0, 8)] [(0, 4)] ar_t32 ar_t32 [(0, 180)] [(54, 54)] [(49, 60)] [(1, 8)] [(1, 1)]
def mgh17641 : aw_H := [(81, mgx17640)]
def mgx17642 : aw_A := ms_o [(0, 8)] [(0, 4)] ar_t32 ar_t32 [(0, 180)] [(55, 55)] [(49, 60)] [(1, 8)] [(1, 1)]
def mgh17643 : aw_H := [(81, mgx17642)]
def mgx17644 : aw_A := ms_o [(0, 8)] [(0, 4)] ar_t32 ar_t32 [(0, 180)] [(56, 56)] [(49, 60)] [(1, 8)] [(1, 1)]
def mgh17645 : aw_H := [(81, mgx17644)]
def mgx17646 : aw_A := ms_o [(0, 8)] [(0, 4)] ar_t32 ar_t32 [(0, 180)] [(57, 57)] [(49, 60)] [(1, 8)] [(1, 1)]
def mgh17647 : aw_H := [(81, mgx17646)]
def mgx17648 : aw_A := ms_o [(0, 8)] [(0, 4)] ar_t32 ar_t32 [(0, 180)] [(58, 58)] [(49, 60)] [(1, 8)] [(1, 1)]
def mgh17649 : aw_H := [(81, mgx17648)]
def mgx17650 : aw_A := ms_o [(0, 8)] [(0, 4)] ar_t32 ar_t32 [(0, 180)] [(59, 59)] [(49, 60)] [(1, 8)] [(1, 1)]
def mgh17651 : aw_H := [(81, mgx17650)]
def mgx17652 : aw_A := ms_o [(0, 8)] [(0, 4)] ar_t32 ar_t32 [(0, 180)] [(60, 60)] [(49, 60)] [(1, 8)] [(1, 1)]
def mgh17653 : aw_H := [(81, mgx17652)]
/-- MiceRegistersModel.skip -/
def mgh17654 : aw_H := [(81, mgx17628), (90, .inr (.inl (0, 240, [], [])))]
def mgc6268 : ak_C := (122, [.inl 81], mgh17654, [81], [([], none, mgh17631), ([], none, mgh17633), ([], none, mgh17635), ([], none, mgh17637), ([], none, mgh17639), ([], none, mgh17641), ([], none, mgh17643), ([], none, mgh17645), ([], none, mgh17647), ([], none, mgh17649), ([], none, mgh17651), ([], none, mgh17653)])
def mgx17655 : aw_A := ms_o [(0, 8)] [(0, 4)] ar_t32 ar_t32 [(0, 180)] [(51, 51)] [(50, 60)] [(1, 8)] [(0, 0)]
def mgh17656 : aw_H := [(81, mgx17655)]
def mgx17657 : aw_A := ms_o [(0, 8)] [(0, 4)] ar_t32 ar_t32 [(0, 180)] [(52, 52)] [(50, 60)] [(1, 8)] [(0, 0)]
def mgh17658 : aw_H := [(81, mgx17657)]
def mgx17659 : aw_A := ms_o [(0, 8)] [(0, 4)] ar_t32 ar_t32 [(0, 180)] [(53, 53)] [(50, 60)] [(1, 8)] [(0, 0)]
def mgh17660 : aw_H := [(81, mgx17659)]
def mgx17661 : aw_A := ms_o [(0, 8)] [(0, 4)] ar_t32 ar_t32 [(0, 180)] [(54, 54)] [(50, 60)] [(1, 8)] [(0, 0)]
def mgh17662 : aw_H := [(81, mgx17661)]
def mgx17663 : aw_A := ms_o [(0, 8)] [(0, 4)] ar_t32 ar_t32 [(0, 180)] [(55, 55)] [(50, 60)] [(1, 8)] [(0, 0)]
def mgh17664 : aw_H := [(81, mgx17663)]
def mgx17665 : aw_A := ms_o [(0, 8)] [(0, 4)] ar_t32 ar_t32 [(0, 180)] [(56, 56)] [(50, 60)] [(1, 8)] [(0, 0)]
def mgh17666 : aw_H := [(81, mgx17665)]
def mgx17667 : aw_A := ms_o [(0, 8)] [(0, 4)] ar_t32 ar_t32 [(0, 180)] [(57, 57)] [(50, 60)] [(1, 8)] [(0, 0)]
def mgh17668 : aw_H := [(81, mgx17667)]
def mgx17669 : aw_A := ms_o [(0, 8)] [(0, 4)] ar_t32 ar_t32 [(0, 180)] [(58, 58)] [(50, 60)] [(1, 8)] [(0, 0)]
def mgh17670 : aw_H := [(81, mgx17669)]
def mgx17671 : aw_A := ms_o [(0, 8)] [(0, 4)] ar_t32 ar_t32 [(0, 180)] [(59, 59)] [(50, 60)] [(1, 8)] [(0, 0)]
def mgh17672 : aw_H := [(81, mgx17671)]
def mgx17673 : aw_A := ms_o [(0, 8)] [(0, 4)] ar_t32 ar_t32 [(0, 180)] [(60, 60)] [(50, 60)] [(1, 8)] [(0, 0)]
def mgh17674 : aw_H := [(81, mgx17673)]
/-- MiceRegistersModel.skip -/
def mgc6272 : ak_C := (122, [.inl 81], mgh17479, [81], [([], none, mgh17476), ([], none, mgh17656), ([], none, mgh17658), ([], none, mgh17660), ([], none, mgh17662), ([], none, mgh17664), ([], none, mgh17666), ([], none, mgh17668), ([], none, mgh17670), ([], none, mgh17672), ([], none, mgh17674)])
def mgx17675 : aw_A := ms_o [(0, 8)] [(0, 4)] ar_t32 ar_t32 [(0, 180)] [(54, 54)] [(54, 60)] [(0, 7)] [(0, 0)]
def mgh17676 : aw_H := [(81, mgx17675)]
def mgx17677 : aw_A := ms_o [(0, 8)] [(0, 4)] ar_t32 ar_t32 [(0, 180)] [(55, 55)] [(55, 60)] [(0, 7)] [(0, 0)]
def mgh17678 : aw_H := [(81, mgx17677)]
/-- MiceRegistersModel.figure -/
def mgh17679 : aw_H := [(81, mgx17675), (90, .inr (.inl (0, 240, [], [])))]
def mgc4898 : ak_C := (125, [.inl 81, .inr (false, [(0, 0)]), .inr (false, [(9, 9)])], mgh17679, [81], [([], some (.inr (false, [(-9, -9)])), mgh17676), ([], some (.inr (false, [(0, 9)])), mgh17678)])
def mgx17680 : aw_A := ms_o [(0, 8)] [(0, 4)] ar_t32 ar_t32 [(0, 180)] [(56, 56)] [(56, 60)] [(0, 7)] [(0, 0)]
def mgh17681 : aw_H := [(81, mgx17680)]
/-- MiceRegistersModel.figure -/
def mgh17682 : aw_H := [(81, mgx17677), (90, .inr (.inl (0, 240, [], [])))]
def mgc4904 : ak_C := (125, [.inl 81, .inr (false, [(0, 0)]), .inr (false, [(9, 9)])], mgh17682, [81], [([], some (.inr (false, [(-9, -9)])), mgh17678), ([], some (.inr (false, [(0, 9)])), mgh17681)])
def mgx17683 : aw_A := ms_o [(0, 8)] [(0, 4)] ar_t32 ar_t32 [(0, 180)] [(57, 57)] [(57, 60)] [(0, 7)] [(0, 0)]
def mgh17684 : aw_H := [(81, mgx17683)]
/-- MiceRegistersModel.figure -/
def mgh17685 : aw_H := [(81, mgx17680), (90, .inr (.inl (0, 240, [], [])))]
def mgc4910 : ak_C := (125, [.inl 81, .inr (false, [(0, 0)]), .inr (false, [(9, 9)])], mgh17685, [81], [([], some (.inr (false, [(-9, -9)])), mgh17681), ([], some (.inr (false, [(0, 9)])), mgh17684)])
/-- MiceRegistersModel.twoFigures -/
def mgc4911 : ak_C := (126, [.inl 81, .inr (false, [(1, 1)]), .inr (false, [(40, 40)])], mgh17682, [81], [([], some (.inr (false, [(-9, -9)])), mgh17678), ([], some (.inr (false, [(0, 99)])), mgh17684), ([], some (.inr (false, [(-9, -9)])), mgh17681)])
theorem mgk4911 : ai_chk [mgc4904, mgc4910, mgc144] mgc4911 (fun pc => sm_ch sm_t126 pc, sm_Kn 3 6 none, fun x => sm_lk sm_ca3 x, some .int) [81] 6 0 [] [] 2000 [] = true := by decide +kernel
def mgh17686 : aw_H := [(81, mgx17680), (92, .inr (.inl (0, 8, [], []))), (93, .inr (.inl (0, 8, [], [])))]
def mgx17687 : aw_A := ms_o [(0, 8)] [(0, 4)] ar_t32 ar_t32 [(0, 180)] [(57, 57)] [(57, 60)] [(1, 8)] [(0, 0)]
def mgh17688 : aw_H := [(81, mgx17687), (92, .inr (.inl (0, 8, [], []))), (93, .inr (.inl (0, 8, [], [])))]
def mgh17689 : aw_H := [(81, mgx17677), (92, .inr (.inl (0, 8, [], []))), (93, .inr (.inl (0, 8, [], [])))]
def mgh17690 : aw_H := [(81, mgx17675), (92, .inr (.inl (0, 8, [], []))), (93, .inr (.inl (0, 8, [], [])))]
def mgx17691 : aw_A := ms_o [(0, 8)] [(0, 4)] ar_t32 ar_t32 [(0, 180)] [(53, 53)] [(54, 60)] [(8, 8)] [(0, 0)]
def mgh17692 : aw_H := [(81, mgx17691), (92, .inr (.inl (0, 8, [], []))), (93, .inr (.inl (0, 8, [], [])))]
/-- MiceRegistersModel.readsLine -/
def mgx17693 : aw_A := ms_o [(0, 8)] [(0, 4)] ar_t32 ar_t32 [(0, 180)] [(53, 53)] [(54, 60)] [(0, 8)] [(0, 0)]
def mgh17694 : aw_H := [(81, mgx17693), (90, .inr (.inl (0, 240, [], []))), (92, .inr (.inl (0, 8, [], []))), (93, .inr (.inl (0, 8, [], [])))]
def mgc5455 : ak_C := (124, [.inl 81], mgh17694, [81, 92, 93], [([], some (.inr (false, [(0, 0)])), mgh17686), ([], some (.inr (false, [(1, 1)])), mgh17688), ([], some (.inr (false, [(0, 0)])), mgh17689), ([], some (.inr (false, [(0, 0)])), mgh17690), ([], some (.inr (false, [(0, 0)])), mgh17692)])
theorem mgk5455 : ai_chk [mgc4898, mgc4911] mgc5455 (fun pc => sm_ch sm_t124 pc, sm_Kn 3 3 none, fun x => sm_lk sm_ca3 x, some .boolean) [81, 92, 93] 3 0 [] [] 2000 [] = true := by decide +kernel
def mgx17695 : aw_A := ms_o [(0, 8)] [(0, 4)] ar_t32 ar_t32 [(0, 180)] [(54, 54)] [(54, 60)] [(1, 8)] [(0, 0)]
def mgh17696 : aw_H := [(81, mgx17695)]
def mgx17697 : aw_A := ms_o [(0, 8)] [(0, 4)] ar_t32 ar_t32 [(0, 180)] [(55, 55)] [(55, 60)] [(1, 8)] [(0, 0)]
def mgh17698 : aw_H := [(81, mgx17697)]
/-- MiceRegistersModel.figure -/
def mgh17699 : aw_H := [(81, mgx17695), (90, .inr (.inl (0, 240, [], [])))]
def mgc5456 : ak_C := (125, [.inl 81, .inr (false, [(0, 0)]), .inr (false, [(0, 7)])], mgh17699, [81], [([], some (.inr (false, [(-9, -9)])), mgh17696), ([], some (.inr (false, [(0, 7)])), mgh17698)])
def mgx17700 : aw_A := ms_o [(0, 8)] [(0, 4)] ar_t32 ar_t32 [(0, 180)] [(56, 56)] [(56, 60)] [(1, 8)] [(0, 0)]
def mgh17701 : aw_H := [(81, mgx17700)]
/-- MiceRegistersModel.figure -/
def mgh17702 : aw_H := [(81, mgx17697), (90, .inr (.inl (0, 240, [], [])))]
def mgc5457 : ak_C := (125, [.inl 81, .inr (false, [(1, 1)]), .inr (false, [(9, 9)])], mgh17702, [81], [([], some (.inr (false, [(-9, -9)])), mgh17698), ([], some (.inr (false, [(1, 9)])), mgh17701)])
def mgh17703 : aw_H := [(81, mgx17693), (94, mgx4446)]
def mgx17704 : aw_A := ms_o [(0, 8)] [(0, 4)] ar_t32 ar_t32 [(0, 180)] [(56, 56)] [(56, 60)] [(1, 8)] [(1, 1)]
def mgh17705 : aw_H := [(81, mgx17704), (94, mgx4449)]
def mgh17706 : aw_H := [(81, mgx17697), (94, mgx4446)]
def mgh17707 : aw_H := [(81, mgx17695), (94, mgx4446)]
/-- MiceRegistersModel.readsMouse -/
def mgh17708 : aw_H := [(81, mgx17693), (90, .inr (.inl (0, 240, [], []))), (94, mgx4446)]
def mgc5458 : ak_C := (127, [.inl 81], mgh17708, [81, 94], [([], some (.inr (false, [(0, 0)])), mgh17703), ([], some (.inr (false, [(1, 1)])), mgh17705), ([], some (.inr (false, [(0, 0)])), mgh17706), ([], some (.inr (false, [(0, 0)])), mgh17707)])
theorem mgk5458 : ai_chk [mgc26, mgc147, mgc5456, mgc5457] mgc5458 (fun pc => sm_ch sm_t127 pc, sm_Kn 3 5 none, fun x => sm_lk sm_ca3 x, some .boolean) [81, 94] 5 0 [] [] 2000 [] = true := by decide +kernel
def mgh17709 : aw_H := [(81, mgx17704)]
def mgx17710 : aw_A := ms_o [(0, 8)] [(0, 4)] ar_t32 ar_t32 [(0, 180)] [(57, 57)] [(56, 60)] [(1, 8)] [(1, 1)]
def mgh17711 : aw_H := [(81, mgx17710)]
def mgx17712 : aw_A := ms_o [(0, 8)] [(0, 4)] ar_t32 ar_t32 [(0, 180)] [(58, 58)] [(56, 60)] [(1, 8)] [(1, 1)]
def mgh17713 : aw_H := [(81, mgx17712)]
def mgx17714 : aw_A := ms_o [(0, 8)] [(0, 4)] ar_t32 ar_t32 [(0, 180)] [(59, 59)] [(56, 60)] [(1, 8)] [(1, 1)]
def mgh17715 : aw_H := [(81, mgx17714)]
def mgx17716 : aw_A := ms_o [(0, 8)] [(0, 4)] ar_t32 ar_t32 [(0, 180)] [(60, 60)] [(56, 60)] [(1, 8)] [(1, 1)]
def mgh17717 : aw_H := [(81, mgx17716)]
/-- MiceRegistersModel.skip -/
def mgh17718 : aw_H := [(81, mgx17704), (90, .inr (.inl (0, 240, [], [])))]
def mgc6303 : ak_C := (122, [.inl 81], mgh17718, [81], [([], none, mgh17709), ([], none, mgh17711), ([], none, mgh17713), ([], none, mgh17715), ([], none, mgh17717)])
def mgh17719 : aw_H := [(81, mgx17687)]
def mgx17720 : aw_A := ms_o [(0, 8)] [(0, 4)] ar_t32 ar_t32 [(0, 180)] [(58, 58)] [(57, 60)] [(1, 8)] [(0, 0)]
def mgh17721 : aw_H := [(81, mgx17720)]
def mgx17722 : aw_A := ms_o [(0, 8)] [(0, 4)] ar_t32 ar_t32 [(0, 180)] [(59, 59)] [(57, 60)] [(1, 8)] [(0, 0)]
def mgh17723 : aw_H := [(81, mgx17722)]
def mgx17724 : aw_A := ms_o [(0, 8)] [(0, 4)] ar_t32 ar_t32 [(0, 180)] [(60, 60)] [(57, 60)] [(1, 8)] [(0, 0)]
def mgh17725 : aw_H := [(81, mgx17724)]
/-- MiceRegistersModel.skip -/
def mgh17726 : aw_H := [(81, mgx17687), (90, .inr (.inl (0, 240, [], [])))]
def mgc6307 : ak_C := (122, [.inl 81], mgh17726, [81], [([], none, mgh17719), ([], none, mgh17721), ([], none, mgh17723), ([], none, mgh17725)])
/-- MiceRegistersModel.figure -/
def mgh17727 : aw_H := [(81, mgx17463), (90, .inr (.inl (0, 240, [], [])))]
def mgc4892 : ak_C := (125, [.inl 81, .inr (false, [(0, 0)]), .inr (false, [(9, 9)])], mgh17727, [81], [([], some (.inr (false, [(-9, -9)])), mgh17464), ([], some (.inr (false, [(0, 9)])), mgh17676)])
/-- MiceRegistersModel.twoFigures -/
def mgc4893 : ak_C := (126, [.inl 81, .inr (false, [(1, 1)]), .inr (false, [(40, 40)])], mgh17465, [81], [([], some (.inr (false, [(-9, -9)])), mgh17461), ([], some (.inr (false, [(0, 99)])), mgh17676), ([], some (.inr (false, [(-9, -9)])), mgh17464)])
theorem mgk4893 : ai_chk [mgc4886, mgc4892, mgc144] mgc4893 (fun pc => sm_ch sm_t126 pc, sm_Kn 3 6 none, fun x => sm_lk sm_ca3 x, some .int) [81] 6 0 [] [] 2000 [] = true := by decide +kernel
def mgh17728 : aw_H := [(81, mgx17463), (92, .inr (.inl (0, 8, [], []))), (93, .inr (.inl (0, 8, [], [])))]
def mgh17729 : aw_H := [(81, mgx17695), (92, .inr (.inl (0, 8, [], []))), (93, .inr (.inl (0, 8, [], [])))]
def mgx17730 : aw_A := ms_o [(0, 8)] [(0, 4)] ar_t32 ar_t32 [(0, 180)] [(50, 50)] [(51, 60)] [(8, 8)] [(0, 0)]
def mgh17731 : aw_H := [(81, mgx17730), (92, .inr (.inl (0, 8, [], []))), (93, .inr (.inl (0, 8, [], [])))]
/-- MiceRegistersModel.readsLine -/
def mgx17732 : aw_A := ms_o [(0, 8)] [(0, 4)] ar_t32 ar_t32 [(0, 180)] [(50, 50)] [(51, 60)] [(0, 8)] [(0, 0)]
def mgh17733 : aw_H := [(81, mgx17732), (90, .inr (.inl (0, 240, [], []))), (92, .inr (.inl (0, 8, [], []))), (93, .inr (.inl (0, 8, [], [])))]
def mgc5443 : ak_C := (124, [.inl 81], mgh17733, [81, 92, 93], [([], some (.inr (false, [(0, 0)])), mgh17728), ([], some (.inr (false, [(1, 1)])), mgh17729), ([], some (.inr (false, [(0, 0)])), mgh17466), ([], some (.inr (false, [(0, 0)])), mgh17469), ([], some (.inr (false, [(0, 0)])), mgh17731)])
theorem mgk5443 : ai_chk [mgc4880, mgc4893] mgc5443 (fun pc => sm_ch sm_t124 pc, sm_Kn 3 3 none, fun x => sm_lk sm_ca3 x, some .boolean) [81, 92, 93] 3 0 [] [] 2000 [] = true := by decide +kernel
/-- MiceRegistersModel.figure -/
def mgc5444 : ak_C := (125, [.inl 81, .inr (false, [(0, 0)]), .inr (false, [(0, 7)])], mgh17482, [81], [([], some (.inr (false, [(-9, -9)])), mgh17478), ([], some (.inr (false, [(0, 7)])), mgh17481)])
/-- MiceRegistersModel.figure -/
def mgc5445 : ak_C := (125, [.inl 81, .inr (false, [(1, 1)]), .inr (false, [(9, 9)])], mgh17621, [81], [([], some (.inr (false, [(-9, -9)])), mgh17481), ([], some (.inr (false, [(1, 9)])), mgh17507)])
def mgh17734 : aw_H := [(81, mgx17732), (94, mgx4446)]
def mgx17735 : aw_A := ms_o [(0, 8)] [(0, 4)] ar_t32 ar_t32 [(0, 180)] [(53, 53)] [(53, 60)] [(1, 8)] [(1, 1)]
def mgh17736 : aw_H := [(81, mgx17735), (94, mgx4449)]
def mgh17737 : aw_H := [(81, mgx17480), (94, mgx4446)]
/-- MiceRegistersModel.readsMouse -/
def mgh17738 : aw_H := [(81, mgx17732), (90, .inr (.inl (0, 240, [], []))), (94, mgx4446)]
def mgc5446 : ak_C := (127, [.inl 81], mgh17738, [81, 94], [([], some (.inr (false, [(0, 0)])), mgh17734), ([], some (.inr (false, [(1, 1)])), mgh17736), ([], some (.inr (false, [(0, 0)])), mgh17737), ([], some (.inr (false, [(0, 0)])), mgh17486)])
theorem mgk5446 : ai_chk [mgc29, mgc147, mgc5444, mgc5445] mgc5446 (fun pc => sm_ch sm_t127 pc, sm_Kn 3 5 none, fun x => sm_lk sm_ca3 x, some .boolean) [81, 94] 5 0 [] [] 2000 [] = true := by decide +kernel
def mgh17739 : aw_H := [(81, mgx17735)]
def mgx17740 : aw_A := ms_o [(0, 8)] [(0, 4)] ar_t32 ar_t32 [(0, 180)] [(54, 54)] [(53, 60)] [(1, 8)] [(1, 1)]
def mgh17741 : aw_H := [(81, mgx17740)]
def mgx17742 : aw_A := ms_o [(0, 8)] [(0, 4)] ar_t32 ar_t32 [(0, 180)] [(55, 55)] [(53, 60)] [(1, 8)] [(1, 1)]
def mgh17743 : aw_H := [(81, mgx17742)]
def mgx17744 : aw_A := ms_o [(0, 8)] [(0, 4)] ar_t32 ar_t32 [(0, 180)] [(56, 56)] [(53, 60)] [(1, 8)] [(1, 1)]
def mgh17745 : aw_H := [(81, mgx17744)]
def mgx17746 : aw_A := ms_o [(0, 8)] [(0, 4)] ar_t32 ar_t32 [(0, 180)] [(57, 57)] [(53, 60)] [(1, 8)] [(1, 1)]
def mgh17747 : aw_H := [(81, mgx17746)]
def mgx17748 : aw_A := ms_o [(0, 8)] [(0, 4)] ar_t32 ar_t32 [(0, 180)] [(58, 58)] [(53, 60)] [(1, 8)] [(1, 1)]
def mgh17749 : aw_H := [(81, mgx17748)]
def mgx17750 : aw_A := ms_o [(0, 8)] [(0, 4)] ar_t32 ar_t32 [(0, 180)] [(59, 59)] [(53, 60)] [(1, 8)] [(1, 1)]
def mgh17751 : aw_H := [(81, mgx17750)]
def mgx17752 : aw_A := ms_o [(0, 8)] [(0, 4)] ar_t32 ar_t32 [(0, 180)] [(60, 60)] [(53, 60)] [(1, 8)] [(1, 1)]
def mgh17753 : aw_H := [(81, mgx17752)]
/-- MiceRegistersModel.skip -/
def mgh17754 : aw_H := [(81, mgx17735), (90, .inr (.inl (0, 240, [], [])))]
def mgc6288 : ak_C := (122, [.inl 81], mgh17754, [81], [([], none, mgh17739), ([], none, mgh17741), ([], none, mgh17743), ([], none, mgh17745), ([], none, mgh17747), ([], none, mgh17749), ([], none, mgh17751), ([], none, mgh17753)])
def mgx17755 : aw_A := ms_o [(0, 8)] [(0, 4)] ar_t32 ar_t32 [(0, 180)] [(55, 55)] [(54, 60)] [(1, 8)] [(0, 0)]
def mgh17756 : aw_H := [(81, mgx17755)]
def mgx17757 : aw_A := ms_o [(0, 8)] [(0, 4)] ar_t32 ar_t32 [(0, 180)] [(56, 56)] [(54, 60)] [(1, 8)] [(0, 0)]
def mgh17758 : aw_H := [(81, mgx17757)]
def mgx17759 : aw_A := ms_o [(0, 8)] [(0, 4)] ar_t32 ar_t32 [(0, 180)] [(57, 57)] [(54, 60)] [(1, 8)] [(0, 0)]
def mgh17760 : aw_H := [(81, mgx17759)]
def mgx17761 : aw_A := ms_o [(0, 8)] [(0, 4)] ar_t32 ar_t32 [(0, 180)] [(58, 58)] [(54, 60)] [(1, 8)] [(0, 0)]
def mgh17762 : aw_H := [(81, mgx17761)]
def mgx17763 : aw_A := ms_o [(0, 8)] [(0, 4)] ar_t32 ar_t32 [(0, 180)] [(59, 59)] [(54, 60)] [(1, 8)] [(0, 0)]
def mgh17764 : aw_H := [(81, mgx17763)]
def mgx17765 : aw_A := ms_o [(0, 8)] [(0, 4)] ar_t32 ar_t32 [(0, 180)] [(60, 60)] [(54, 60)] [(1, 8)] [(0, 0)]
def mgh17766 : aw_H := [(81, mgx17765)]
/-- MiceRegistersModel.skip -/
def mgc6292 : ak_C := (122, [.inl 81], mgh17699, [81], [([], none, mgh17696), ([], none, mgh17756), ([], none, mgh17758), ([], none, mgh17760), ([], none, mgh17762), ([], none, mgh17764), ([], none, mgh17766)])
def mgx17767 : aw_A := ms_o [(0, 8)] [(0, 4)] ar_t32 ar_t32 [(0, 180)] [(58, 58)] [(58, 60)] [(0, 7)] [(0, 0)]
def mgh17768 : aw_H := [(81, mgx17767)]
/-- MiceRegistersModel.figure -/
def mgh17769 : aw_H := [(81, mgx17683), (90, .inr (.inl (0, 240, [], [])))]
def mgc4916 : ak_C := (125, [.inl 81, .inr (false, [(0, 0)]), .inr (false, [(9, 9)])], mgh17769, [81], [([], some (.inr (false, [(-9, -9)])), mgh17684), ([], some (.inr (false, [(0, 9)])), mgh17768)])
/-- MiceRegistersModel.twoFigures -/
def mgc4917 : ak_C := (126, [.inl 81, .inr (false, [(1, 1)]), .inr (false, [(40, 40)])], mgh17685, [81], [([], some (.inr (false, [(-9, -9)])), mgh17681), ([], some (.inr (false, [(0, 99)])), mgh17768), ([], some (.inr (false, [(-9, -9)])), mgh17684)])
theorem mgk4917 : ai_chk [mgc4910, mgc4916, mgc144] mgc4917 (fun pc => sm_ch sm_t126 pc, sm_Kn 3 6 none, fun x => sm_lk sm_ca3 x, some .int) [81] 6 0 [] [] 2000 [] = true := by decide +kernel
def mgh17770 : aw_H := [(81, mgx17683), (92, .inr (.inl (0, 8, [], []))), (93, .inr (.inl (0, 8, [], [])))]
def mgx17771 : aw_A := ms_o [(0, 8)] [(0, 4)] ar_t32 ar_t32 [(0, 180)] [(58, 58)] [(58, 60)] [(1, 8)] [(0, 0)]
def mgh17772 : aw_H := [(81, mgx17771), (92, .inr (.inl (0, 8, [], []))), (93, .inr (.inl (0, 8, [], [])))]
def mgx17773 : aw_A := ms_o [(0, 8)] [(0, 4)] ar_t32 ar_t32 [(0, 180)] [(54, 54)] [(55, 60)] [(8, 8)] [(0, 0)]
def mgh17774 : aw_H := [(81, mgx17773), (92, .inr (.inl (0, 8, [], []))), (93, .inr (.inl (0, 8, [], [])))]
/-- MiceRegistersModel.readsLine -/
def mgx17775 : aw_A := ms_o [(0, 8)] [(0, 4)] ar_t32 ar_t32 [(0, 180)] [(54, 54)] [(55, 60)] [(0, 8)] [(0, 0)]
def mgh17776 : aw_H := [(81, mgx17775), (90, .inr (.inl (0, 240, [], []))), (92, .inr (.inl (0, 8, [], []))), (93, .inr (.inl (0, 8, [], [])))]
def mgc5459 : ak_C := (124, [.inl 81], mgh17776, [81, 92, 93], [([], some (.inr (false, [(0, 0)])), mgh17770), ([], some (.inr (false, [(1, 1)])), mgh17772), ([], some (.inr (false, [(0, 0)])), mgh17686), ([], some (.inr (false, [(0, 0)])), mgh17689), ([], some (.inr (false, [(0, 0)])), mgh17774)])
theorem mgk5459 : ai_chk [mgc4904, mgc4917] mgc5459 (fun pc => sm_ch sm_t124 pc, sm_Kn 3 3 none, fun x => sm_lk sm_ca3 x, some .boolean) [81, 92, 93] 3 0 [] [] 2000 [] = true := by decide +kernel
/-- MiceRegistersModel.figure -/
def mgc5460 : ak_C := (125, [.inl 81, .inr (false, [(0, 0)]), .inr (false, [(0, 7)])], mgh17702, [81], [([], some (.inr (false, [(-9, -9)])), mgh17698), ([], some (.inr (false, [(0, 7)])), mgh17701)])
/-- MiceRegistersModel.figure -/
def mgh17777 : aw_H := [(81, mgx17700), (90, .inr (.inl (0, 240, [], [])))]
def mgc5461 : ak_C := (125, [.inl 81, .inr (false, [(1, 1)]), .inr (false, [(9, 9)])], mgh17777, [81], [([], some (.inr (false, [(-9, -9)])), mgh17701), ([], some (.inr (false, [(1, 9)])), mgh17719)])
def mgh17778 : aw_H := [(81, mgx17775), (94, mgx4446)]
def mgx17779 : aw_A := ms_o [(0, 8)] [(0, 4)] ar_t32 ar_t32 [(0, 180)] [(57, 57)] [(57, 60)] [(1, 8)] [(1, 1)]
def mgh17780 : aw_H := [(81, mgx17779), (94, mgx4449)]
def mgh17781 : aw_H := [(81, mgx17700), (94, mgx4446)]
/-- MiceRegistersModel.readsMouse -/
def mgh17782 : aw_H := [(81, mgx17775), (90, .inr (.inl (0, 240, [], []))), (94, mgx4446)]
def mgc5462 : ak_C := (127, [.inl 81], mgh17782, [81, 94], [([], some (.inr (false, [(0, 0)])), mgh17778), ([], some (.inr (false, [(1, 1)])), mgh17780), ([], some (.inr (false, [(0, 0)])), mgh17781), ([], some (.inr (false, [(0, 0)])), mgh17706)])
theorem mgk5462 : ai_chk [mgc25, mgc147, mgc5460, mgc5461] mgc5462 (fun pc => sm_ch sm_t127 pc, sm_Kn 3 5 none, fun x => sm_lk sm_ca3 x, some .boolean) [81, 94] 5 0 [] [] 2000 [] = true := by decide +kernel
def mgh17783 : aw_H := [(81, mgx17779)]
def mgx17784 : aw_A := ms_o [(0, 8)] [(0, 4)] ar_t32 ar_t32 [(0, 180)] [(58, 58)] [(57, 60)] [(1, 8)] [(1, 1)]
def mgh17785 : aw_H := [(81, mgx17784)]
def mgx17786 : aw_A := ms_o [(0, 8)] [(0, 4)] ar_t32 ar_t32 [(0, 180)] [(59, 59)] [(57, 60)] [(1, 8)] [(1, 1)]
def mgh17787 : aw_H := [(81, mgx17786)]
def mgx17788 : aw_A := ms_o [(0, 8)] [(0, 4)] ar_t32 ar_t32 [(0, 180)] [(60, 60)] [(57, 60)] [(1, 8)] [(1, 1)]
def mgh17789 : aw_H := [(81, mgx17788)]
/-- MiceRegistersModel.skip -/
def mgh17790 : aw_H := [(81, mgx17779), (90, .inr (.inl (0, 240, [], [])))]
def mgc6308 : ak_C := (122, [.inl 81], mgh17790, [81], [([], none, mgh17783), ([], none, mgh17785), ([], none, mgh17787), ([], none, mgh17789)])
def mgh17791 : aw_H := [(81, mgx17771)]
def mgx17792 : aw_A := ms_o [(0, 8)] [(0, 4)] ar_t32 ar_t32 [(0, 180)] [(59, 59)] [(58, 60)] [(1, 8)] [(0, 0)]
def mgh17793 : aw_H := [(81, mgx17792)]
def mgx17794 : aw_A := ms_o [(0, 8)] [(0, 4)] ar_t32 ar_t32 [(0, 180)] [(60, 60)] [(58, 60)] [(1, 8)] [(0, 0)]
def mgh17795 : aw_H := [(81, mgx17794)]
/-- MiceRegistersModel.skip -/
def mgh17796 : aw_H := [(81, mgx17771), (90, .inr (.inl (0, 240, [], [])))]
def mgc6312 : ak_C := (122, [.inl 81], mgh17796, [81], [([], none, mgh17791), ([], none, mgh17793), ([], none, mgh17795)])
/-- MiceRegistersModel.twoFigures -/
def mgc4905 : ak_C := (126, [.inl 81, .inr (false, [(1, 1)]), .inr (false, [(40, 40)])], mgh17679, [81], [([], some (.inr (false, [(-9, -9)])), mgh17676), ([], some (.inr (false, [(0, 99)])), mgh17681), ([], some (.inr (false, [(-9, -9)])), mgh17678)])
theorem mgk4905 : ai_chk [mgc4898, mgc4904, mgc144] mgc4905 (fun pc => sm_ch sm_t126 pc, sm_Kn 3 6 none, fun x => sm_lk sm_ca3 x, some .int) [81] 6 0 [] [] 2000 [] = true := by decide +kernel
def mgh17797 : aw_H := [(81, mgx17700), (92, .inr (.inl (0, 8, [], []))), (93, .inr (.inl (0, 8, [], [])))]
def mgx17798 : aw_A := ms_o [(0, 8)] [(0, 4)] ar_t32 ar_t32 [(0, 180)] [(52, 52)] [(53, 60)] [(8, 8)] [(0, 0)]
def mgh17799 : aw_H := [(81, mgx17798), (92, .inr (.inl (0, 8, [], []))), (93, .inr (.inl (0, 8, [], [])))]
/-- MiceRegistersModel.readsLine -/
def mgx17800 : aw_A := ms_o [(0, 8)] [(0, 4)] ar_t32 ar_t32 [(0, 180)] [(52, 52)] [(53, 60)] [(0, 8)] [(0, 0)]
def mgh17801 : aw_H := [(81, mgx17800), (90, .inr (.inl (0, 240, [], []))), (92, .inr (.inl (0, 8, [], []))), (93, .inr (.inl (0, 8, [], [])))]
def mgc5451 : ak_C := (124, [.inl 81], mgh17801, [81, 92, 93], [([], some (.inr (false, [(0, 0)])), mgh17689), ([], some (.inr (false, [(1, 1)])), mgh17797), ([], some (.inr (false, [(0, 0)])), mgh17690), ([], some (.inr (false, [(0, 0)])), mgh17728), ([], some (.inr (false, [(0, 0)])), mgh17799)])
theorem mgk5451 : ai_chk [mgc4892, mgc4905] mgc5451 (fun pc => sm_ch sm_t124 pc, sm_Kn 3 3 none, fun x => sm_lk sm_ca3 x, some .boolean) [81, 92, 93] 3 0 [] [] 2000 [] = true := by decide +kernel
/-- MiceRegistersModel.figure -/
def mgc5452 : ak_C := (125, [.inl 81, .inr (false, [(0, 0)]), .inr (false, [(0, 7)])], mgh17522, [81], [([], some (.inr (false, [(-9, -9)])), mgh17507), ([], some (.inr (false, [(0, 7)])), mgh17696)])
/-- MiceRegistersModel.figure -/
def mgc5453 : ak_C := (125, [.inl 81, .inr (false, [(1, 1)]), .inr (false, [(9, 9)])], mgh17699, [81], [([], some (.inr (false, [(-9, -9)])), mgh17696), ([], some (.inr (false, [(1, 9)])), mgh17698)])
def mgh17802 : aw_H := [(81, mgx17800), (94, mgx4446)]
def mgx17803 : aw_A := ms_o [(0, 8)] [(0, 4)] ar_t32 ar_t32 [(0, 180)] [(55, 55)] [(55, 60)] [(1, 8)] [(1, 1)]
def mgh17804 : aw_H := [(81, mgx17803), (94, mgx4449)]
def mgh17805 : aw_H := [(81, mgx17467), (94, mgx4446)]
/-- MiceRegistersModel.readsMouse -/
def mgh17806 : aw_H := [(81, mgx17800), (90, .inr (.inl (0, 240, [], []))), (94, mgx4446)]
def mgc5454 : ak_C := (127, [.inl 81], mgh17806, [81, 94], [([], some (.inr (false, [(0, 0)])), mgh17802), ([], some (.inr (false, [(1, 1)])), mgh17804), ([], some (.inr (false, [(0, 0)])), mgh17707), ([], some (.inr (false, [(0, 0)])), mgh17805)])
theorem mgk5454 : ai_chk [mgc27, mgc147, mgc5452, mgc5453] mgc5454 (fun pc => sm_ch sm_t127 pc, sm_Kn 3 5 none, fun x => sm_lk sm_ca3 x, some .boolean) [81, 94] 5 0 [] [] 2000 [] = true := by decide +kernel
def mgh17807 : aw_H := [(81, mgx17803)]
def mgx17808 : aw_A := ms_o [(0, 8)] [(0, 4)] ar_t32 ar_t32 [(0, 180)] [(56, 56)] [(55, 60)] [(1, 8)] [(1, 1)]
def mgh17809 : aw_H := [(81, mgx17808)]
def mgx17810 : aw_A := ms_o [(0, 8)] [(0, 4)] ar_t32 ar_t32 [(0, 180)] [(57, 57)] [(55, 60)] [(1, 8)] [(1, 1)]
def mgh17811 : aw_H := [(81, mgx17810)]
def mgx17812 : aw_A := ms_o [(0, 8)] [(0, 4)] ar_t32 ar_t32 [(0, 180)] [(58, 58)] [(55, 60)] [(1, 8)] [(1, 1)]
def mgh17813 : aw_H := [(81, mgx17812)]
def mgx17814 : aw_A := ms_o [(0, 8)] [(0, 4)] ar_t32 ar_t32 [(0, 180)] [(59, 59)] [(55, 60)] [(1, 8)] [(1, 1)]
def mgh17815 : aw_H := [(81, mgx17814)]
def mgx17816 : aw_A := ms_o [(0, 8)] [(0, 4)] ar_t32 ar_t32 [(0, 180)] [(60, 60)] [(55, 60)] [(1, 8)] [(1, 1)]
def mgh17817 : aw_H := [(81, mgx17816)]
/-- MiceRegistersModel.skip -/
def mgh17818 : aw_H := [(81, mgx17803), (90, .inr (.inl (0, 240, [], [])))]
def mgc6298 : ak_C := (122, [.inl 81], mgh17818, [81], [([], none, mgh17807), ([], none, mgh17809), ([], none, mgh17811), ([], none, mgh17813), ([], none, mgh17815), ([], none, mgh17817)])
def mgx17819 : aw_A := ms_o [(0, 8)] [(0, 4)] ar_t32 ar_t32 [(0, 180)] [(57, 57)] [(56, 60)] [(1, 8)] [(0, 0)]
def mgh17820 : aw_H := [(81, mgx17819)]
def mgx17821 : aw_A := ms_o [(0, 8)] [(0, 4)] ar_t32 ar_t32 [(0, 180)] [(58, 58)] [(56, 60)] [(1, 8)] [(0, 0)]
def mgh17822 : aw_H := [(81, mgx17821)]
def mgx17823 : aw_A := ms_o [(0, 8)] [(0, 4)] ar_t32 ar_t32 [(0, 180)] [(59, 59)] [(56, 60)] [(1, 8)] [(0, 0)]
def mgh17824 : aw_H := [(81, mgx17823)]
def mgx17825 : aw_A := ms_o [(0, 8)] [(0, 4)] ar_t32 ar_t32 [(0, 180)] [(60, 60)] [(56, 60)] [(1, 8)] [(0, 0)]
def mgh17826 : aw_H := [(81, mgx17825)]
/-- MiceRegistersModel.skip -/
def mgc6302 : ak_C := (122, [.inl 81], mgh17777, [81], [([], none, mgh17701), ([], none, mgh17820), ([], none, mgh17822), ([], none, mgh17824), ([], none, mgh17826)])
def mgh17827 : aw_H := [(81, mgx17424)]
def mgx17828 : aw_A := ms_o [(0, 8)] [(0, 4)] ar_t32 ar_t32 [(0, 180)] [(46, 46)] [(45, 60)] [(1, 8)] [(1, 1)]
def mgh17829 : aw_H := [(81, mgx17828)]
def mgx17830 : aw_A := ms_o [(0, 8)] [(0, 4)] ar_t32 ar_t32 [(0, 180)] [(47, 47)] [(45, 60)] [(1, 8)] [(1, 1)]
def mgh17831 : aw_H := [(81, mgx17830)]
def mgx17832 : aw_A := ms_o [(0, 8)] [(0, 4)] ar_t32 ar_t32 [(0, 180)] [(48, 48)] [(45, 60)] [(1, 8)] [(1, 1)]
def mgh17833 : aw_H := [(81, mgx17832)]
def mgx17834 : aw_A := ms_o [(0, 8)] [(0, 4)] ar_t32 ar_t32 [(0, 180)] [(49, 49)] [(45, 60)] [(1, 8)] [(1, 1)]
def mgh17835 : aw_H := [(81, mgx17834)]
def mgx17836 : aw_A := ms_o [(0, 8)] [(0, 4)] ar_t32 ar_t32 [(0, 180)] [(50, 50)] [(45, 60)] [(1, 8)] [(1, 1)]
def mgh17837 : aw_H := [(81, mgx17836)]
def mgx17838 : aw_A := ms_o [(0, 8)] [(0, 4)] ar_t32 ar_t32 [(0, 180)] [(51, 51)] [(45, 60)] [(1, 8)] [(1, 1)]
def mgh17839 : aw_H := [(81, mgx17838)]
def mgx17840 : aw_A := ms_o [(0, 8)] [(0, 4)] ar_t32 ar_t32 [(0, 180)] [(52, 52)] [(45, 60)] [(1, 8)] [(1, 1)]
def mgh17841 : aw_H := [(81, mgx17840)]
def mgx17842 : aw_A := ms_o [(0, 8)] [(0, 4)] ar_t32 ar_t32 [(0, 180)] [(53, 53)] [(45, 60)] [(1, 8)] [(1, 1)]
def mgh17843 : aw_H := [(81, mgx17842)]
def mgx17844 : aw_A := ms_o [(0, 8)] [(0, 4)] ar_t32 ar_t32 [(0, 180)] [(54, 54)] [(45, 60)] [(1, 8)] [(1, 1)]
def mgh17845 : aw_H := [(81, mgx17844)]
def mgx17846 : aw_A := ms_o [(0, 8)] [(0, 4)] ar_t32 ar_t32 [(0, 180)] [(55, 55)] [(45, 60)] [(1, 8)] [(1, 1)]
def mgh17847 : aw_H := [(81, mgx17846)]
def mgx17848 : aw_A := ms_o [(0, 8)] [(0, 4)] ar_t32 ar_t32 [(0, 180)] [(56, 56)] [(45, 60)] [(1, 8)] [(1, 1)]
def mgh17849 : aw_H := [(81, mgx17848)]
def mgx17850 : aw_A := ms_o [(0, 8)] [(0, 4)] ar_t32 ar_t32 [(0, 180)] [(57, 57)] [(45, 60)] [(1, 8)] [(1, 1)]
def mgh17851 : aw_H := [(81, mgx17850)]
def mgx17852 : aw_A := ms_o [(0, 8)] [(0, 4)] ar_t32 ar_t32 [(0, 180)] [(58, 58)] [(45, 60)] [(1, 8)] [(1, 1)]
def mgh17853 : aw_H := [(81, mgx17852)]
def mgx17854 : aw_A := ms_o [(0, 8)] [(0, 4)] ar_t32 ar_t32 [(0, 180)] [(59, 59)] [(45, 60)] [(1, 8)] [(1, 1)]
def mgh17855 : aw_H := [(81, mgx17854)]
def mgx17856 : aw_A := ms_o [(0, 8)] [(0, 4)] ar_t32 ar_t32 [(0, 180)] [(60, 60)] [(45, 60)] [(1, 8)] [(1, 1)]
def mgh17857 : aw_H := [(81, mgx17856)]
/-- MiceRegistersModel.skip -/
def mgh17858 : aw_H := [(81, mgx17424), (90, .inr (.inl (0, 240, [], [])))]
def mgc6218 : ak_C := (122, [.inl 81], mgh17858, [81], [([], none, mgh17827), ([], none, mgh17829), ([], none, mgh17831), ([], none, mgh17833), ([], none, mgh17835), ([], none, mgh17837), ([], none, mgh17839), ([], none, mgh17841), ([], none, mgh17843), ([], none, mgh17845), ([], none, mgh17847), ([], none, mgh17849), ([], none, mgh17851), ([], none, mgh17853), ([], none, mgh17855), ([], none, mgh17857)])
/-- MiceRegistersModel.twoFigures -/
def mgc4899 : ak_C := (126, [.inl 81, .inr (false, [(1, 1)]), .inr (false, [(40, 40)])], mgh17727, [81], [([], some (.inr (false, [(-9, -9)])), mgh17464), ([], some (.inr (false, [(0, 99)])), mgh17678), ([], some (.inr (false, [(-9, -9)])), mgh17676)])
theorem mgk4899 : ai_chk [mgc4892, mgc4898, mgc144] mgc4899 (fun pc => sm_ch sm_t126 pc, sm_Kn 3 6 none, fun x => sm_lk sm_ca3 x, some .int) [81] 6 0 [] [] 2000 [] = true := by decide +kernel
def mgh17859 : aw_H := [(81, mgx17697), (92, .inr (.inl (0, 8, [], []))), (93, .inr (.inl (0, 8, [], [])))]
def mgx17860 : aw_A := ms_o [(0, 8)] [(0, 4)] ar_t32 ar_t32 [(0, 180)] [(51, 51)] [(52, 60)] [(8, 8)] [(0, 0)]
def mgh17861 : aw_H := [(81, mgx17860), (92, .inr (.inl (0, 8, [], []))), (93, .inr (.inl (0, 8, [], [])))]
/-- MiceRegistersModel.readsLine -/
def mgx17862 : aw_A := ms_o [(0, 8)] [(0, 4)] ar_t32 ar_t32 [(0, 180)] [(51, 51)] [(52, 60)] [(0, 8)] [(0, 0)]
def mgh17863 : aw_H := [(81, mgx17862), (90, .inr (.inl (0, 240, [], []))), (92, .inr (.inl (0, 8, [], []))), (93, .inr (.inl (0, 8, [], [])))]
def mgc5447 : ak_C := (124, [.inl 81], mgh17863, [81, 92, 93], [([], some (.inr (false, [(0, 0)])), mgh17690), ([], some (.inr (false, [(1, 1)])), mgh17859), ([], some (.inr (false, [(0, 0)])), mgh17728), ([], some (.inr (false, [(0, 0)])), mgh17466), ([], some (.inr (false, [(0, 0)])), mgh17861)])
theorem mgk5447 : ai_chk [mgc4886, mgc4899] mgc5447 (fun pc => sm_ch sm_t124 pc, sm_Kn 3 3 none, fun x => sm_lk sm_ca3 x, some .boolean) [81, 92, 93] 3 0 [] [] 2000 [] = true := by decide +kernel
/-- MiceRegistersModel.figure -/
def mgc5448 : ak_C := (125, [.inl 81, .inr (false, [(0, 0)]), .inr (false, [(0, 7)])], mgh17621, [81], [([], some (.inr (false, [(-9, -9)])), mgh17481), ([], some (.inr (false, [(0, 7)])), mgh17507)])
/-- MiceRegistersModel.figure -/
def mgc5449 : ak_C := (125, [.inl 81, .inr (false, [(1, 1)]), .inr (false, [(9, 9)])], mgh17522, [81], [([], some (.inr (false, [(-9, -9)])), mgh17507), ([], some (.inr (false, [(1, 9)])), mgh17696)])
def mgh17864 : aw_H := [(81, mgx17862), (94, mgx4446)]
def mgx17865 : aw_A := ms_o [(0, 8)] [(0, 4)] ar_t32 ar_t32 [(0, 180)] [(54, 54)] [(54, 60)] [(1, 8)] [(1, 1)]
def mgh17866 : aw_H := [(81, mgx17865), (94, mgx4449)]
/-- MiceRegistersModel.readsMouse -/
def mgh17867 : aw_H := [(81, mgx17862), (90, .inr (.inl (0, 240, [], []))), (94, mgx4446)]
def mgc5450 : ak_C := (127, [.inl 81], mgh17867, [81, 94], [([], some (.inr (false, [(0, 0)])), mgh17864), ([], some (.inr (false, [(1, 1)])), mgh17866), ([], some (.inr (false, [(0, 0)])), mgh17805), ([], some (.inr (false, [(0, 0)])), mgh17737)])
theorem mgk5450 : ai_chk [mgc28, mgc147, mgc5448, mgc5449] mgc5450 (fun pc => sm_ch sm_t127 pc, sm_Kn 3 5 none, fun x => sm_lk sm_ca3 x, some .boolean) [81, 94] 5 0 [] [] 2000 [] = true := by decide +kernel
def mgh17868 : aw_H := [(81, mgx17865)]
def mgx17869 : aw_A := ms_o [(0, 8)] [(0, 4)] ar_t32 ar_t32 [(0, 180)] [(55, 55)] [(54, 60)] [(1, 8)] [(1, 1)]
def mgh17870 : aw_H := [(81, mgx17869)]
def mgx17871 : aw_A := ms_o [(0, 8)] [(0, 4)] ar_t32 ar_t32 [(0, 180)] [(56, 56)] [(54, 60)] [(1, 8)] [(1, 1)]
def mgh17872 : aw_H := [(81, mgx17871)]
def mgx17873 : aw_A := ms_o [(0, 8)] [(0, 4)] ar_t32 ar_t32 [(0, 180)] [(57, 57)] [(54, 60)] [(1, 8)] [(1, 1)]
def mgh17874 : aw_H := [(81, mgx17873)]
def mgx17875 : aw_A := ms_o [(0, 8)] [(0, 4)] ar_t32 ar_t32 [(0, 180)] [(58, 58)] [(54, 60)] [(1, 8)] [(1, 1)]
def mgh17876 : aw_H := [(81, mgx17875)]
def mgx17877 : aw_A := ms_o [(0, 8)] [(0, 4)] ar_t32 ar_t32 [(0, 180)] [(59, 59)] [(54, 60)] [(1, 8)] [(1, 1)]
def mgh17878 : aw_H := [(81, mgx17877)]
def mgx17879 : aw_A := ms_o [(0, 8)] [(0, 4)] ar_t32 ar_t32 [(0, 180)] [(60, 60)] [(54, 60)] [(1, 8)] [(1, 1)]
def mgh17880 : aw_H := [(81, mgx17879)]
/-- MiceRegistersModel.skip -/
def mgh17881 : aw_H := [(81, mgx17865), (90, .inr (.inl (0, 240, [], [])))]
def mgc6293 : ak_C := (122, [.inl 81], mgh17881, [81], [([], none, mgh17868), ([], none, mgh17870), ([], none, mgh17872), ([], none, mgh17874), ([], none, mgh17876), ([], none, mgh17878), ([], none, mgh17880)])
def mgx17882 : aw_A := ms_o [(0, 8)] [(0, 4)] ar_t32 ar_t32 [(0, 180)] [(56, 56)] [(55, 60)] [(1, 8)] [(0, 0)]
def mgh17883 : aw_H := [(81, mgx17882)]
def mgx17884 : aw_A := ms_o [(0, 8)] [(0, 4)] ar_t32 ar_t32 [(0, 180)] [(57, 57)] [(55, 60)] [(1, 8)] [(0, 0)]
def mgh17885 : aw_H := [(81, mgx17884)]
def mgx17886 : aw_A := ms_o [(0, 8)] [(0, 4)] ar_t32 ar_t32 [(0, 180)] [(58, 58)] [(55, 60)] [(1, 8)] [(0, 0)]
def mgh17887 : aw_H := [(81, mgx17886)]
def mgx17888 : aw_A := ms_o [(0, 8)] [(0, 4)] ar_t32 ar_t32 [(0, 180)] [(59, 59)] [(55, 60)] [(1, 8)] [(0, 0)]
def mgh17889 : aw_H := [(81, mgx17888)]
def mgx17890 : aw_A := ms_o [(0, 8)] [(0, 4)] ar_t32 ar_t32 [(0, 180)] [(60, 60)] [(55, 60)] [(1, 8)] [(0, 0)]
def mgh17891 : aw_H := [(81, mgx17890)]
/-- MiceRegistersModel.skip -/
def mgc6297 : ak_C := (122, [.inl 81], mgh17702, [81], [([], none, mgh17698), ([], none, mgh17883), ([], none, mgh17885), ([], none, mgh17887), ([], none, mgh17889), ([], none, mgh17891)])
def mgx17892 : aw_A := ms_o [(0, 8)] [(0, 4)] ar_t32 ar_t32 [(0, 180)] [(59, 59)] [(59, 60)] [(0, 7)] [(0, 0)]
def mgh17893 : aw_H := [(81, mgx17892)]
/-- MiceRegistersModel.figure -/
def mgh17894 : aw_H := [(81, mgx17767), (90, .inr (.inl (0, 240, [], [])))]
def mgc4922 : ak_C := (125, [.inl 81, .inr (false, [(0, 0)]), .inr (false, [(9, 9)])], mgh17894, [81], [([], some (.inr (false, [(-9, -9)])), mgh17768), ([], some (.inr (false, [(0, 9)])), mgh17893)])
def mgx17895 : aw_A := ms_o [(0, 8)] [(0, 4)] ar_t32 ar_t32 [(0, 180)] [(60, 60)] [(60, 60)] [(0, 7)] [(0, 0)]
def mgh17896 : aw_H := [(81, mgx17895)]
/-- MiceRegistersModel.figure -/
def mgh17897 : aw_H := [(81, mgx17892), (90, .inr (.inl (0, 240, [], [])))]
def mgc4928 : ak_C := (125, [.inl 81, .inr (false, [(0, 0)]), .inr (false, [(9, 9)])], mgh17897, [81], [([], some (.inr (false, [(-9, -9)])), mgh17893), ([], some (.inr (false, [(0, 9)])), mgh17896)])
/-- MiceRegistersModel.figure -/
def mgh17898 : aw_H := [(81, mgx17895), (90, .inr (.inl (0, 240, [], [])))]
def mgc4934 : ak_C := (125, [.inl 81, .inr (false, [(0, 0)]), .inr (false, [(9, 9)])], mgh17898, [81], [([], some (.inr (false, [(-9, -9)])), mgh17896)])
/-- MiceRegistersModel.twoFigures -/
def mgc4935 : ak_C := (126, [.inl 81, .inr (false, [(1, 1)]), .inr (false, [(40, 40)])], mgh17897, [81], [([], some (.inr (false, [(-9, -9)])), mgh17896), ([], some (.inr (false, [(-9, -9)])), mgh17893)])
theorem mgk4935 : ai_chk [mgc4928, mgc4934] mgc4935 (fun pc => sm_ch sm_t126 pc, sm_Kn 3 6 none, fun x => sm_lk sm_ca3 x, some .int) [81] 6 0 [] [] 2000 [] = true := by decide +kernel
def mgx17899 : aw_A := ms_o [(0, 8)] [(0, 4)] ar_t32 ar_t32 [(0, 180)] [(57, 57)] [(58, 60)] [(8, 8)] [(0, 0)]
def mgh17900 : aw_H := [(81, mgx17899)]
/-- MiceRegistersModel.readsLine -/
def mgx17901 : aw_A := ms_o [(0, 8)] [(0, 4)] ar_t32 ar_t32 [(0, 180)] [(57, 57)] [(58, 60)] [(0, 8)] [(0, 0)]
def mgh17902 : aw_H := [(81, mgx17901), (90, .inr (.inl (0, 240, [], [])))]
def mgc5471 : ak_C := (124, [.inl 81], mgh17902, [81], [([], some (.inr (false, [(0, 0)])), mgh17893), ([], some (.inr (false, [(0, 0)])), mgh17896), ([], some (.inr (false, [(0, 0)])), mgh17768), ([], some (.inr (false, [(0, 0)])), mgh17900)])
theorem mgk5471 : ai_chk [mgc4922, mgc4935] mgc5471 (fun pc => sm_ch sm_t124 pc, sm_Kn 3 3 none, fun x => sm_lk sm_ca3 x, some .boolean) [81] 3 0 [] [] 2000 [] = true := by decide +kernel
def mgx17903 : aw_A := ms_o [(0, 8)] [(0, 4)] ar_t32 ar_t32 [(0, 180)] [(59, 59)] [(59, 60)] [(1, 8)] [(0, 0)]
def mgh17904 : aw_H := [(81, mgx17903)]
/-- MiceRegistersModel.figure -/
def mgc5472 : ak_C := (125, [.inl 81, .inr (false, [(0, 0)]), .inr (false, [(0, 7)])], mgh17796, [81], [([], some (.inr (false, [(-9, -9)])), mgh17791), ([], some (.inr (false, [(0, 7)])), mgh17904)])
def mgx17905 : aw_A := ms_o [(0, 8)] [(0, 4)] ar_t32 ar_t32 [(0, 180)] [(60, 60)] [(60, 60)] [(1, 8)] [(0, 0)]
def mgh17906 : aw_H := [(81, mgx17905)]
/-- MiceRegistersModel.figure -/
def mgh17907 : aw_H := [(81, mgx17903), (90, .inr (.inl (0, 240, [], [])))]
def mgc5473 : ak_C := (125, [.inl 81, .inr (false, [(1, 1)]), .inr (false, [(9, 9)])], mgh17907, [81], [([], some (.inr (false, [(-9, -9)])), mgh17904), ([], some (.inr (false, [(1, 9)])), mgh17906)])
def mgh17908 : aw_H := [(81, mgx17901), (94, mgx4446)]
def mgx17909 : aw_A := ms_o [(0, 8)] [(0, 4)] ar_t32 ar_t32 [(0, 180)] [(60, 60)] [(60, 60)] [(1, 8)] [(1, 1)]
def mgh17910 : aw_H := [(81, mgx17909), (94, mgx4449)]
def mgh17911 : aw_H := [(81, mgx17903), (94, mgx4446)]
def mgh17912 : aw_H := [(81, mgx17771), (94, mgx4446)]
/-- MiceRegistersModel.readsMouse -/
def mgh17913 : aw_H := [(81, mgx17901), (90, .inr (.inl (0, 240, [], []))), (94, mgx4446)]
def mgc5474 : ak_C := (127, [.inl 81], mgh17913, [81, 94], [([], some (.inr (false, [(0, 0)])), mgh17908), ([], some (.inr (false, [(1, 1)])), mgh17910), ([], some (.inr (false, [(0, 0)])), mgh17911), ([], some (.inr (false, [(0, 0)])), mgh17912)])
theorem mgk5474 : ai_chk [mgc22, mgc147, mgc5472, mgc5473] mgc5474 (fun pc => sm_ch sm_t127 pc, sm_Kn 3 5 none, fun x => sm_lk sm_ca3 x, some .boolean) [81, 94] 5 0 [] [] 2000 [] = true := by decide +kernel
def mgh17914 : aw_H := [(81, mgx17909)]
/-- MiceRegistersModel.skip -/
def mgh17915 : aw_H := [(81, mgx17909), (90, .inr (.inl (0, 240, [], [])))]
def mgc6323 : ak_C := (122, [.inl 81], mgh17915, [81], [([], none, mgh17914)])
/-- MiceRegistersModel.twoFigures -/
def mgc4929 : ak_C := (126, [.inl 81, .inr (false, [(1, 1)]), .inr (false, [(40, 40)])], mgh17894, [81], [([], some (.inr (false, [(-9, -9)])), mgh17768), ([], some (.inr (false, [(0, 99)])), mgh17896), ([], some (.inr (false, [(-9, -9)])), mgh17893)])
theorem mgk4929 : ai_chk [mgc4922, mgc4928, mgc144] mgc4929 (fun pc => sm_ch sm_t126 pc, sm_Kn 3 6 none, fun x => sm_lk sm_ca3 x, some .int) [81] 6 0 [] [] 2000 [] = true := by decide +kernel
def mgh17916 : aw_H := [(81, mgx17892), (92, .inr (.inl (0, 8, [], []))), (93, .inr (.inl (0, 8, [], [])))]
def mgh17917 : aw_H := [(81, mgx17905), (92, .inr (.inl (0, 8, [], []))), (93, .inr (.inl (0, 8, [], [])))]
def mgh17918 : aw_H := [(81, mgx17767), (92, .inr (.inl (0, 8, [], []))), (93, .inr (.inl (0, 8, [], [])))]
def mgx17919 : aw_A := ms_o [(0, 8)] [(0, 4)] ar_t32 ar_t32 [(0, 180)] [(56, 56)] [(57, 60)] [(8, 8)] [(0, 0)]
def mgh17920 : aw_H := [(81, mgx17919), (92, .inr (.inl (0, 8, [], []))), (93, .inr (.inl (0, 8, [], [])))]
/-- MiceRegistersModel.readsLine -/
def mgx17921 : aw_A := ms_o [(0, 8)] [(0, 4)] ar_t32 ar_t32 [(0, 180)] [(56, 56)] [(57, 60)] [(0, 8)] [(0, 0)]
def mgh17922 : aw_H := [(81, mgx17921), (90, .inr (.inl (0, 240, [], []))), (92, .inr (.inl (0, 8, [], []))), (93, .inr (.inl (0, 8, [], [])))]
def mgc5467 : ak_C := (124, [.inl 81], mgh17922, [81, 92, 93], [([], some (.inr (false, [(0, 0)])), mgh17916), ([], some (.inr (false, [(1, 1)])), mgh17917), ([], some (.inr (false, [(0, 0)])), mgh17918), ([], some (.inr (false, [(0, 0)])), mgh17770), ([], some (.inr (false, [(0, 0)])), mgh17920)])
theorem mgk5467 : ai_chk [mgc4916, mgc4929] mgc5467 (fun pc => sm_ch sm_t124 pc, sm_Kn 3 3 none, fun x => sm_lk sm_ca3 x, some .boolean) [81, 92, 93] 3 0 [] [] 2000 [] = true := by decide +kernel
/-- MiceRegistersModel.figure -/
def mgc5468 : ak_C := (125, [.inl 81, .inr (false, [(0, 0)]), .inr (false, [(0, 7)])], mgh17726, [81], [([], some (.inr (false, [(-9, -9)])), mgh17719), ([], some (.inr (false, [(0, 7)])), mgh17791)])
/-- MiceRegistersModel.figure -/
def mgc5469 : ak_C := (125, [.inl 81, .inr (false, [(1, 1)]), .inr (false, [(9, 9)])], mgh17796, [81], [([], some (.inr (false, [(-9, -9)])), mgh17791), ([], some (.inr (false, [(1, 9)])), mgh17904)])
def mgh17923 : aw_H := [(81, mgx17921), (94, mgx4446)]
def mgx17924 : aw_A := ms_o [(0, 8)] [(0, 4)] ar_t32 ar_t32 [(0, 180)] [(59, 59)] [(59, 60)] [(1, 8)] [(1, 1)]
def mgh17925 : aw_H := [(81, mgx17924), (94, mgx4449)]
def mgh17926 : aw_H := [(81, mgx17687), (94, mgx4446)]
/-- MiceRegistersModel.readsMouse -/
def mgh17927 : aw_H := [(81, mgx17921), (90, .inr (.inl (0, 240, [], []))), (94, mgx4446)]
def mgc5470 : ak_C := (127, [.inl 81], mgh17927, [81, 94], [([], some (.inr (false, [(0, 0)])), mgh17923), ([], some (.inr (false, [(1, 1)])), mgh17925), ([], some (.inr (false, [(0, 0)])), mgh17912), ([], some (.inr (false, [(0, 0)])), mgh17926)])
theorem mgk5470 : ai_chk [mgc23, mgc147, mgc5468, mgc5469] mgc5470 (fun pc => sm_ch sm_t127 pc, sm_Kn 3 5 none, fun x => sm_lk sm_ca3 x, some .boolean) [81, 94] 5 0 [] [] 2000 [] = true := by decide +kernel
def mgh17928 : aw_H := [(81, mgx17924)]
def mgx17929 : aw_A := ms_o [(0, 8)] [(0, 4)] ar_t32 ar_t32 [(0, 180)] [(60, 60)] [(59, 60)] [(1, 8)] [(1, 1)]
def mgh17930 : aw_H := [(81, mgx17929)]
/-- MiceRegistersModel.skip -/
def mgh17931 : aw_H := [(81, mgx17924), (90, .inr (.inl (0, 240, [], [])))]
def mgc6318 : ak_C := (122, [.inl 81], mgh17931, [81], [([], none, mgh17928), ([], none, mgh17930)])
/-- MiceRegistersModel.skip -/
def mgh17932 : aw_H := [(81, mgx17905), (90, .inr (.inl (0, 240, [], [])))]
def mgc6322 : ak_C := (122, [.inl 81], mgh17932, [81], [([], none, mgh17906)])
/-- MiceRegistersModel.twoFigures -/
def mgc4940 : ak_C := (126, [.inl 81, .inr (false, [(1, 1)]), .inr (false, [(40, 40)])], mgh17898, [81], [([], some (.inr (false, [(-9, -9)])), mgh17896)])
theorem mgk4940 : ai_chk [mgc4934] mgc4940 (fun pc => sm_ch sm_t126 pc, sm_Kn 3 6 none, fun x => sm_lk sm_ca3 x, some .int) [81] 6 0 [] [] 2000 [] = true := by decide +kernel
def mgx17933 : aw_A := ms_o [(0, 8)] [(0, 4)] ar_t32 ar_t32 [(0, 180)] [(58, 58)] [(59, 60)] [(8, 8)] [(0, 0)]
def mgh17934 : aw_H := [(81, mgx17933)]
/-- MiceRegistersModel.readsLine -/
def mgx17935 : aw_A := ms_o [(0, 8)] [(0, 4)] ar_t32 ar_t32 [(0, 180)] [(58, 58)] [(59, 60)] [(0, 8)] [(0, 0)]
def mgh17936 : aw_H := [(81, mgx17935), (90, .inr (.inl (0, 240, [], [])))]
def mgc5475 : ak_C := (124, [.inl 81], mgh17936, [81], [([], some (.inr (false, [(0, 0)])), mgh17896), ([], some (.inr (false, [(0, 0)])), mgh17893), ([], some (.inr (false, [(0, 0)])), mgh17934)])
theorem mgk5475 : ai_chk [mgc4928, mgc4940] mgc5475 (fun pc => sm_ch sm_t124 pc, sm_Kn 3 3 none, fun x => sm_lk sm_ca3 x, some .boolean) [81] 3 0 [] [] 2000 [] = true := by decide +kernel
/-- MiceRegistersModel.figure -/
def mgc5476 : ak_C := (125, [.inl 81, .inr (false, [(0, 0)]), .inr (false, [(0, 7)])], mgh17907, [81], [([], some (.inr (false, [(-9, -9)])), mgh17904), ([], some (.inr (false, [(0, 7)])), mgh17906)])
/-- MiceRegistersModel.figure -/
def mgc5477 : ak_C := (125, [.inl 81, .inr (false, [(1, 1)]), .inr (false, [(9, 9)])], mgh17932, [81], [([], some (.inr (false, [(-9, -9)])), mgh17906)])
def mgh17937 : aw_H := [(81, mgx17935)]
/-- MiceRegistersModel.readsMouse -/
def mgc5478 : ak_C := (127, [.inl 81], mgh17936, [81], [([], some (.inr (false, [(0, 0)])), mgh17937), ([], some (.inr (false, [(0, 0)])), mgh17906), ([], some (.inr (false, [(0, 0)])), mgh17904)])
theorem mgk5478 : ai_chk [mgc21, mgc147, mgc5476, mgc5477] mgc5478 (fun pc => sm_ch sm_t127 pc, sm_Kn 3 5 none, fun x => sm_lk sm_ca3 x, some .boolean) [81] 5 0 [] [] 2000 [] = true := by decide +kernel
/-- MiceRegistersModel.twoFigures -/
def mgc4923 : ak_C := (126, [.inl 81, .inr (false, [(1, 1)]), .inr (false, [(40, 40)])], mgh17769, [81], [([], some (.inr (false, [(-9, -9)])), mgh17684), ([], some (.inr (false, [(0, 99)])), mgh17893), ([], some (.inr (false, [(-9, -9)])), mgh17768)])
theorem mgk4923 : ai_chk [mgc4916, mgc4922, mgc144] mgc4923 (fun pc => sm_ch sm_t126 pc, sm_Kn 3 6 none, fun x => sm_lk sm_ca3 x, some .int) [81] 6 0 [] [] 2000 [] = true := by decide +kernel
def mgh17938 : aw_H := [(81, mgx17903), (92, .inr (.inl (0, 8, [], []))), (93, .inr (.inl (0, 8, [], [])))]
def mgx17939 : aw_A := ms_o [(0, 8)] [(0, 4)] ar_t32 ar_t32 [(0, 180)] [(55, 55)] [(56, 60)] [(8, 8)] [(0, 0)]
def mgh17940 : aw_H := [(81, mgx17939), (92, .inr (.inl (0, 8, [], []))), (93, .inr (.inl (0, 8, [], [])))]
/-- MiceRegistersModel.readsLine -/
def mgx17941 : aw_A := ms_o [(0, 8)] [(0, 4)] ar_t32 ar_t32 [(0, 180)] [(55, 55)] [(56, 60)] [(0, 8)] [(0, 0)]
def mgh17942 : aw_H := [(81, mgx17941), (90, .inr (.inl (0, 240, [], []))), (92, .inr (.inl (0, 8, [], []))), (93, .inr (.inl (0, 8, [], [])))]
def mgc5463 : ak_C := (124, [.inl 81], mgh17942, [81, 92, 93], [([], some (.inr (false, [(0, 0)])), mgh17918), ([], some (.inr (false, [(1, 1)])), mgh17938), ([], some (.inr (false, [(0, 0)])), mgh17770), ([], some (.inr (false, [(0, 0)])), mgh17686), ([], some (.inr (false, [(0, 0)])), mgh17940)])
theorem mgk5463 : ai_chk [mgc4910, mgc4923] mgc5463 (fun pc => sm_ch sm_t124 pc, sm_Kn 3 3 none, fun x => sm_lk sm_ca3 x, some .boolean) [81, 92, 93] 3 0 [] [] 2000 [] = true := by decide +kernel
/-- MiceRegistersModel.figure -/
def mgc5464 : ak_C := (125, [.inl 81, .inr (false, [(0, 0)]), .inr (false, [(0, 7)])], mgh17777, [81], [([], some (.inr (false, [(-9, -9)])), mgh17701), ([], some (.inr (false, [(0, 7)])), mgh17719)])
/-- MiceRegistersModel.figure -/
def mgc5465 : ak_C := (125, [.inl 81, .inr (false, [(1, 1)]), .inr (false, [(9, 9)])], mgh17726, [81], [([], some (.inr (false, [(-9, -9)])), mgh17719), ([], some (.inr (false, [(1, 9)])), mgh17791)])
def mgh17943 : aw_H := [(81, mgx17941), (94, mgx4446)]
def mgx17944 : aw_A := ms_o [(0, 8)] [(0, 4)] ar_t32 ar_t32 [(0, 180)] [(58, 58)] [(58, 60)] [(1, 8)] [(1, 1)]
def mgh17945 : aw_H := [(81, mgx17944), (94, mgx4449)]
/-- MiceRegistersModel.readsMouse -/
def mgh17946 : aw_H := [(81, mgx17941), (90, .inr (.inl (0, 240, [], []))), (94, mgx4446)]
def mgc5466 : ak_C := (127, [.inl 81], mgh17946, [81, 94], [([], some (.inr (false, [(0, 0)])), mgh17943), ([], some (.inr (false, [(1, 1)])), mgh17945), ([], some (.inr (false, [(0, 0)])), mgh17926), ([], some (.inr (false, [(0, 0)])), mgh17781)])
theorem mgk5466 : ai_chk [mgc24, mgc147, mgc5464, mgc5465] mgc5466 (fun pc => sm_ch sm_t127 pc, sm_Kn 3 5 none, fun x => sm_lk sm_ca3 x, some .boolean) [81, 94] 5 0 [] [] 2000 [] = true := by decide +kernel
def mgx17947 : aw_A := ms_o [(0, 8)] [(0, 4)] ar_t32 ar_t32 [(0, 180)] [(60, 60)] [(59, 60)] [(1, 8)] [(0, 0)]
def mgh17948 : aw_H := [(81, mgx17947)]
/-- MiceRegistersModel.skip -/
def mgc6317 : ak_C := (122, [.inl 81], mgh17907, [81], [([], none, mgh17904), ([], none, mgh17948)])
def mgx17949 : aw_A := ms_o [(0, 8)] [(0, 4)] ar_t32 ar_t32 [(0, 180)] [(59, 59)] [(60, 60)] [(8, 8)] [(0, 0)]
def mgh17950 : aw_H := [(81, mgx17949)]
/-- MiceRegistersModel.readsLine -/
def mgx17951 : aw_A := ms_o [(0, 8)] [(0, 4)] ar_t32 ar_t32 [(0, 180)] [(59, 59)] [(60, 60)] [(0, 8)] [(0, 0)]
def mgh17952 : aw_H := [(81, mgx17951), (90, .inr (.inl (0, 240, [], [])))]
def mgc5479 : ak_C := (124, [.inl 81], mgh17952, [81], [([], some (.inr (false, [(0, 0)])), mgh17896), ([], some (.inr (false, [(0, 0)])), mgh17950)])
theorem mgk5479 : ai_chk [mgc4934] mgc5479 (fun pc => sm_ch sm_t124 pc, sm_Kn 3 3 none, fun x => sm_lk sm_ca3 x, some .boolean) [81] 3 0 [] [] 2000 [] = true := by decide +kernel
/-- MiceRegistersModel.figure -/
def mgc5480 : ak_C := (125, [.inl 81, .inr (false, [(0, 0)]), .inr (false, [(0, 7)])], mgh17932, [81], [([], some (.inr (false, [(-9, -9)])), mgh17906)])
def mgh17953 : aw_H := [(81, mgx17951)]
/-- MiceRegistersModel.readsMouse -/
def mgc5481 : ak_C := (127, [.inl 81], mgh17952, [81], [([], some (.inr (false, [(0, 0)])), mgh17953), ([], some (.inr (false, [(0, 0)])), mgh17906)])
theorem mgk5481 : ai_chk [mgc20, mgc147, mgc5480] mgc5481 (fun pc => sm_ch sm_t127 pc, sm_Kn 3 5 none, fun x => sm_lk sm_ca3 x, some .boolean) [81] 5 0 [] [] 2000 [] = true := by decide +kernel
def mgh17954 : aw_H := [(81, mgx17944)]
def mgx17955 : aw_A := ms_o [(0, 8)] [(0, 4)] ar_t32 ar_t32 [(0, 180)] [(59, 59)] [(58, 60)] [(1, 8)] [(1, 1)]
def mgh17956 : aw_H := [(81, mgx17955)]
def mgx17957 : aw_A := ms_o [(0, 8)] [(0, 4)] ar_t32 ar_t32 [(0, 180)] [(60, 60)] [(58, 60)] [(1, 8)] [(1, 1)]
def mgh17958 : aw_H := [(81, mgx17957)]
/-- MiceRegistersModel.skip -/
def mgh17959 : aw_H := [(81, mgx17944), (90, .inr (.inl (0, 240, [], [])))]
def mgc6313 : ak_C := (122, [.inl 81], mgh17959, [81], [([], none, mgh17954), ([], none, mgh17956), ([], none, mgh17958)])
def mgx17960 : aw_A := ms_o [(0, 8)] [(0, 4)] ar_t32 ar_t32 [(0, 180)] [(38, 38)] [(37, 60)] [(1, 8)] [(1, 1)]
def mgh17961 : aw_H := [(81, mgx17960)]
def mgx17962 : aw_A := ms_o [(0, 8)] [(0, 4)] ar_t32 ar_t32 [(0, 180)] [(39, 39)] [(37, 60)] [(1, 8)] [(1, 1)]
def mgh17963 : aw_H := [(81, mgx17962)]
def mgx17964 : aw_A := ms_o [(0, 8)] [(0, 4)] ar_t32 ar_t32 [(0, 180)] [(40, 40)] [(37, 60)] [(1, 8)] [(1, 1)]
def mgh17965 : aw_H := [(81, mgx17964)]
def mgx17966 : aw_A := ms_o [(0, 8)] [(0, 4)] ar_t32 ar_t32 [(0, 180)] [(41, 41)] [(37, 60)] [(1, 8)] [(1, 1)]
def mgh17967 : aw_H := [(81, mgx17966)]
def mgx17968 : aw_A := ms_o [(0, 8)] [(0, 4)] ar_t32 ar_t32 [(0, 180)] [(42, 42)] [(37, 60)] [(1, 8)] [(1, 1)]
def mgh17969 : aw_H := [(81, mgx17968)]
def mgx17970 : aw_A := ms_o [(0, 8)] [(0, 4)] ar_t32 ar_t32 [(0, 180)] [(43, 43)] [(37, 60)] [(1, 8)] [(1, 1)]
def mgh17971 : aw_H := [(81, mgx17970)]
def mgx17972 : aw_A := ms_o [(0, 8)] [(0, 4)] ar_t32 ar_t32 [(0, 180)] [(44, 44)] [(37, 60)] [(1, 8)] [(1, 1)]
def mgh17973 : aw_H := [(81, mgx17972)]
def mgx17974 : aw_A := ms_o [(0, 8)] [(0, 4)] ar_t32 ar_t32 [(0, 180)] [(45, 45)] [(37, 60)] [(1, 8)] [(1, 1)]
def mgh17975 : aw_H := [(81, mgx17974)]
def mgx17976 : aw_A := ms_o [(0, 8)] [(0, 4)] ar_t32 ar_t32 [(0, 180)] [(46, 46)] [(37, 60)] [(1, 8)] [(1, 1)]
def mgh17977 : aw_H := [(81, mgx17976)]
def mgx17978 : aw_A := ms_o [(0, 8)] [(0, 4)] ar_t32 ar_t32 [(0, 180)] [(47, 47)] [(37, 60)] [(1, 8)] [(1, 1)]
def mgh17979 : aw_H := [(81, mgx17978)]
def mgx17980 : aw_A := ms_o [(0, 8)] [(0, 4)] ar_t32 ar_t32 [(0, 180)] [(48, 48)] [(37, 60)] [(1, 8)] [(1, 1)]
def mgh17981 : aw_H := [(81, mgx17980)]
def mgx17982 : aw_A := ms_o [(0, 8)] [(0, 4)] ar_t32 ar_t32 [(0, 180)] [(49, 49)] [(37, 60)] [(1, 8)] [(1, 1)]
def mgh17983 : aw_H := [(81, mgx17982)]
def mgx17984 : aw_A := ms_o [(0, 8)] [(0, 4)] ar_t32 ar_t32 [(0, 180)] [(50, 50)] [(37, 60)] [(1, 8)] [(1, 1)]
def mgh17985 : aw_H := [(81, mgx17984)]
def mgx17986 : aw_A := ms_o [(0, 8)] [(0, 4)] ar_t32 ar_t32 [(0, 180)] [(51, 51)] [(37, 60)] [(1, 8)] [(1, 1)]
def mgh17987 : aw_H := [(81, mgx17986)]
def mgx17988 : aw_A := ms_o [(0, 8)] [(0, 4)] ar_t32 ar_t32 [(0, 180)] [(52, 52)] [(37, 60)] [(1, 8)] [(1, 1)]
def mgh17989 : aw_H := [(81, mgx17988)]
def mgx17990 : aw_A := ms_o [(0, 8)] [(0, 4)] ar_t32 ar_t32 [(0, 180)] [(53, 53)] [(37, 60)] [(1, 8)] [(1, 1)]
def mgh17991 : aw_H := [(81, mgx17990)]
def mgx17992 : aw_A := ms_o [(0, 8)] [(0, 4)] ar_t32 ar_t32 [(0, 180)] [(54, 54)] [(37, 60)] [(1, 8)] [(1, 1)]
def mgh17993 : aw_H := [(81, mgx17992)]
def mgx17994 : aw_A := ms_o [(0, 8)] [(0, 4)] ar_t32 ar_t32 [(0, 180)] [(55, 55)] [(37, 60)] [(1, 8)] [(1, 1)]
def mgh17995 : aw_H := [(81, mgx17994)]
def mgx17996 : aw_A := ms_o [(0, 8)] [(0, 4)] ar_t32 ar_t32 [(0, 180)] [(56, 56)] [(37, 60)] [(1, 8)] [(1, 1)]
def mgh17997 : aw_H := [(81, mgx17996)]
def mgx17998 : aw_A := ms_o [(0, 8)] [(0, 4)] ar_t32 ar_t32 [(0, 180)] [(57, 57)] [(37, 60)] [(1, 8)] [(1, 1)]
def mgh17999 : aw_H := [(81, mgx17998)]
def mgx18000 : aw_A := ms_o [(0, 8)] [(0, 4)] ar_t32 ar_t32 [(0, 180)] [(58, 58)] [(37, 60)] [(1, 8)] [(1, 1)]
def mgh18001 : aw_H := [(81, mgx18000)]
def mgx18002 : aw_A := ms_o [(0, 8)] [(0, 4)] ar_t32 ar_t32 [(0, 180)] [(59, 59)] [(37, 60)] [(1, 8)] [(1, 1)]
def mgh18003 : aw_H := [(81, mgx18002)]
def mgx18004 : aw_A := ms_o [(0, 8)] [(0, 4)] ar_t32 ar_t32 [(0, 180)] [(60, 60)] [(37, 60)] [(1, 8)] [(1, 1)]
def mgh18005 : aw_H := [(81, mgx18004)]
/-- MiceRegistersModel.skip -/
def mgc5853 : ak_C := (122, [.inl 81], mgh14077, [81], [([], none, mgh14076), ([], none, mgh17961), ([], none, mgh17963), ([], none, mgh17965), ([], none, mgh17967), ([], none, mgh17969), ([], none, mgh17971), ([], none, mgh17973), ([], none, mgh17975), ([], none, mgh17977), ([], none, mgh17979), ([], none, mgh17981), ([], none, mgh17983), ([], none, mgh17985), ([], none, mgh17987), ([], none, mgh17989), ([], none, mgh17991), ([], none, mgh17993), ([], none, mgh17995), ([], none, mgh17997), ([], none, mgh17999), ([], none, mgh18001), ([], none, mgh18003), ([], none, mgh18005)])
/-- MiceRegistersModel.readsLine -/
def mgx18006 : aw_A := ms_o [(0, 8)] [(0, 4)] ar_t32 ar_t32 [(0, 180)] [(46, 46)] [(47, 60)] [(1, 8)] [(1, 1)]
def mgh18007 : aw_H := [(81, mgx18006)]
def mgc5794 : ak_C := (124, [.inl 81], mgh18007, [], [([], some (.inr (false, [(0, 0)])), [])])
theorem mgk5794 : ai_chk [] mgc5794 (fun pc => sm_ch sm_t124 pc, sm_Kn 3 3 none, fun x => sm_lk sm_ca3 x, some .boolean) [] 3 0 [] [] 2000 [] = true := by decide +kernel
/-- MiceRegistersModel.figure -/
def mgc5795 : ak_C := (125, [.inl 81, .inr (false, [(0, 0)]), .inr (false, [(0, 7)])], mgh17183, [81], [([], some (.inr (false, [(-9, -9)])), mgh17156), ([], some (.inr (false, [(0, 7)])), mgh17392)])
/-- MiceRegistersModel.figure -/
def mgc5796 : ak_C := (125, [.inl 81, .inr (false, [(1, 1)]), .inr (false, [(9, 9)])], mgh17417, [81], [([], some (.inr (false, [(-9, -9)])), mgh17392), ([], some (.inr (false, [(1, 9)])), mgh17631)])
def mgh18008 : aw_H := [(81, mgx18006), (94, mgx4449)]
def mgx18009 : aw_A := ms_o [(0, 8)] [(0, 4)] ar_t32 ar_t32 [(0, 180)] [(49, 49)] [(49, 60)] [(1, 8)] [(2, 2)]
def mgh18010 : aw_H := [(81, mgx18009), (94, mgx6150)]
/-- MiceRegistersModel.readsMouse -/
def mgh18011 : aw_H := [(81, mgx18006), (90, .inr (.inl (0, 240, [], []))), (94, mgx4449)]
def mgc5797 : ak_C := (127, [.inl 81], mgh18011, [81, 94], [([], some (.inr (false, [(0, 0)])), mgh18008), ([], some (.inr (false, [(1, 1)])), mgh18010), ([], some (.inr (false, [(0, 0)])), mgh17365), ([], some (.inr (false, [(0, 0)])), mgh17152)])
theorem mgk5797 : ai_chk [mgc33, mgc147, mgc5795, mgc5796] mgc5797 (fun pc => sm_ch sm_t127 pc, sm_Kn 3 5 none, fun x => sm_lk sm_ca3 x, some .boolean) [81, 94] 5 0 [] [] 2000 [] = true := by decide +kernel
def mgh18012 : aw_H := [(81, mgx18009)]
def mgx18013 : aw_A := ms_o [(0, 8)] [(0, 4)] ar_t32 ar_t32 [(0, 180)] [(50, 50)] [(49, 60)] [(1, 8)] [(2, 2)]
def mgh18014 : aw_H := [(81, mgx18013)]
def mgx18015 : aw_A := ms_o [(0, 8)] [(0, 4)] ar_t32 ar_t32 [(0, 180)] [(51, 51)] [(49, 60)] [(1, 8)] [(2, 2)]
def mgh18016 : aw_H := [(81, mgx18015)]
def mgx18017 : aw_A := ms_o [(0, 8)] [(0, 4)] ar_t32 ar_t32 [(0, 180)] [(52, 52)] [(49, 60)] [(1, 8)] [(2, 2)]
def mgh18018 : aw_H := [(81, mgx18017)]
def mgx18019 : aw_A := ms_o [(0, 8)] [(0, 4)] ar_t32 ar_t32 [(0, 180)] [(53, 53)] [(49, 60)] [(1, 8)] [(2, 2)]
def mgh18020 : aw_H := [(81, mgx18019)]
def mgx18021 : aw_A := ms_o [(0, 8)] [(0, 4)] ar_t32 ar_t32 [(0, 180)] [(54, 54)] [(49, 60)] [(1, 8)] [(2, 2)]
def mgh18022 : aw_H := [(81, mgx18021)]
def mgx18023 : aw_A := ms_o [(0, 8)] [(0, 4)] ar_t32 ar_t32 [(0, 180)] [(55, 55)] [(49, 60)] [(1, 8)] [(2, 2)]
def mgh18024 : aw_H := [(81, mgx18023)]
def mgx18025 : aw_A := ms_o [(0, 8)] [(0, 4)] ar_t32 ar_t32 [(0, 180)] [(56, 56)] [(49, 60)] [(1, 8)] [(2, 2)]
def mgh18026 : aw_H := [(81, mgx18025)]
def mgx18027 : aw_A := ms_o [(0, 8)] [(0, 4)] ar_t32 ar_t32 [(0, 180)] [(57, 57)] [(49, 60)] [(1, 8)] [(2, 2)]
def mgh18028 : aw_H := [(81, mgx18027)]
def mgx18029 : aw_A := ms_o [(0, 8)] [(0, 4)] ar_t32 ar_t32 [(0, 180)] [(58, 58)] [(49, 60)] [(1, 8)] [(2, 2)]
def mgh18030 : aw_H := [(81, mgx18029)]
def mgx18031 : aw_A := ms_o [(0, 8)] [(0, 4)] ar_t32 ar_t32 [(0, 180)] [(59, 59)] [(49, 60)] [(1, 8)] [(2, 2)]
def mgh18032 : aw_H := [(81, mgx18031)]
def mgx18033 : aw_A := ms_o [(0, 8)] [(0, 4)] ar_t32 ar_t32 [(0, 180)] [(60, 60)] [(49, 60)] [(1, 8)] [(2, 2)]
def mgh18034 : aw_H := [(81, mgx18033)]
/-- MiceRegistersModel.skip -/
def mgh18035 : aw_H := [(81, mgx18009), (90, .inr (.inl (0, 240, [], [])))]
def mgc6269 : ak_C := (122, [.inl 81], mgh18035, [81], [([], none, mgh18012), ([], none, mgh18014), ([], none, mgh18016), ([], none, mgh18018), ([], none, mgh18020), ([], none, mgh18022), ([], none, mgh18024), ([], none, mgh18026), ([], none, mgh18028), ([], none, mgh18030), ([], none, mgh18032), ([], none, mgh18034)])
/-- MiceRegistersModel.readsLine -/
def mgx18036 : aw_A := ms_o [(0, 8)] [(0, 4)] ar_t32 ar_t32 [(0, 180)] [(59, 59)] [(60, 60)] [(1, 8)] [(1, 1)]
def mgh18037 : aw_H := [(81, mgx18036)]
def mgc5846 : ak_C := (124, [.inl 81], mgh18037, [], [([], some (.inr (false, [(0, 0)])), [])])
theorem mgk5846 : ai_chk [] mgc5846 (fun pc => sm_ch sm_t124 pc, sm_Kn 3 3 none, fun x => sm_lk sm_ca3 x, some .boolean) [] 3 0 [] [] 2000 [] = true := by decide +kernel
/-- MiceRegistersModel.figure -/
def mgc5847 : ak_C := (125, [.inl 81, .inr (false, [(0, 0)]), .inr (false, [(0, 7)])], mgh17915, [81], [([], some (.inr (false, [(-9, -9)])), mgh17914)])
/-- MiceRegistersModel.readsMouse -/
def mgh18038 : aw_H := [(81, mgx18036), (90, .inr (.inl (0, 240, [], [])))]
def mgc5848 : ak_C := (127, [.inl 81], mgh18038, [81], [([], some (.inr (false, [(0, 0)])), mgh18037), ([], some (.inr (false, [(0, 0)])), mgh17914)])
theorem mgk5848 : ai_chk [mgc20, mgc147, mgc5847] mgc5848 (fun pc => sm_ch sm_t127 pc, sm_Kn 3 5 none, fun x => sm_lk sm_ca3 x, some .boolean) [81] 5 0 [] [] 2000 [] = true := by decide +kernel
/-- MiceRegistersModel.readsLine -/
def mgx18039 : aw_A := ms_o [(0, 8)] [(0, 4)] ar_t32 ar_t32 [(0, 180)] [(51, 51)] [(52, 60)] [(1, 8)] [(1, 1)]
def mgh18040 : aw_H := [(81, mgx18039)]
def mgc5814 : ak_C := (124, [.inl 81], mgh18040, [], [([], some (.inr (false, [(0, 0)])), [])])
theorem mgk5814 : ai_chk [] mgc5814 (fun pc => sm_ch sm_t124 pc, sm_Kn 3 3 none, fun x => sm_lk sm_ca3 x, some .boolean) [] 3 0 [] [] 2000 [] = true := by decide +kernel
/-- MiceRegistersModel.figure -/
def mgc5815 : ak_C := (125, [.inl 81, .inr (false, [(0, 0)]), .inr (false, [(0, 7)])], mgh17506, [81], [([], some (.inr (false, [(-9, -9)])), mgh17489), ([], some (.inr (false, [(0, 7)])), mgh17739)])
/-- MiceRegistersModel.figure -/
def mgc5816 : ak_C := (125, [.inl 81, .inr (false, [(1, 1)]), .inr (false, [(9, 9)])], mgh17754, [81], [([], some (.inr (false, [(-9, -9)])), mgh17739), ([], some (.inr (false, [(1, 9)])), mgh17868)])
def mgh18041 : aw_H := [(81, mgx18039), (94, mgx4449)]
def mgx18042 : aw_A := ms_o [(0, 8)] [(0, 4)] ar_t32 ar_t32 [(0, 180)] [(54, 54)] [(54, 60)] [(1, 8)] [(2, 2)]
def mgh18043 : aw_H := [(81, mgx18042), (94, mgx6150)]
/-- MiceRegistersModel.readsMouse -/
def mgh18044 : aw_H := [(81, mgx18039), (90, .inr (.inl (0, 240, [], []))), (94, mgx4449)]
def mgc5817 : ak_C := (127, [.inl 81], mgh18044, [81, 94], [([], some (.inr (false, [(0, 0)])), mgh18041), ([], some (.inr (false, [(1, 1)])), mgh18043), ([], some (.inr (false, [(0, 0)])), mgh17736), ([], some (.inr (false, [(0, 0)])), mgh17485)])
theorem mgk5817 : ai_chk [mgc28, mgc147, mgc5815, mgc5816] mgc5817 (fun pc => sm_ch sm_t127 pc, sm_Kn 3 5 none, fun x => sm_lk sm_ca3 x, some .boolean) [81, 94] 5 0 [] [] 2000 [] = true := by decide +kernel
def mgh18045 : aw_H := [(81, mgx18042)]
def mgx18046 : aw_A := ms_o [(0, 8)] [(0, 4)] ar_t32 ar_t32 [(0, 180)] [(55, 55)] [(54, 60)] [(1, 8)] [(2, 2)]
def mgh18047 : aw_H := [(81, mgx18046)]
def mgx18048 : aw_A := ms_o [(0, 8)] [(0, 4)] ar_t32 ar_t32 [(0, 180)] [(56, 56)] [(54, 60)] [(1, 8)] [(2, 2)]
def mgh18049 : aw_H := [(81, mgx18048)]
def mgx18050 : aw_A := ms_o [(0, 8)] [(0, 4)] ar_t32 ar_t32 [(0, 180)] [(57, 57)] [(54, 60)] [(1, 8)] [(2, 2)]
def mgh18051 : aw_H := [(81, mgx18050)]
def mgx18052 : aw_A := ms_o [(0, 8)] [(0, 4)] ar_t32 ar_t32 [(0, 180)] [(58, 58)] [(54, 60)] [(1, 8)] [(2, 2)]
def mgh18053 : aw_H := [(81, mgx18052)]
def mgx18054 : aw_A := ms_o [(0, 8)] [(0, 4)] ar_t32 ar_t32 [(0, 180)] [(59, 59)] [(54, 60)] [(1, 8)] [(2, 2)]
def mgh18055 : aw_H := [(81, mgx18054)]
def mgx18056 : aw_A := ms_o [(0, 8)] [(0, 4)] ar_t32 ar_t32 [(0, 180)] [(60, 60)] [(54, 60)] [(1, 8)] [(2, 2)]
def mgh18057 : aw_H := [(81, mgx18056)]
/-- MiceRegistersModel.skip -/
def mgh18058 : aw_H := [(81, mgx18042), (90, .inr (.inl (0, 240, [], [])))]
def mgc6294 : ak_C := (122, [.inl 81], mgh18058, [81], [([], none, mgh18045), ([], none, mgh18047), ([], none, mgh18049), ([], none, mgh18051), ([], none, mgh18053), ([], none, mgh18055), ([], none, mgh18057)])
/-- MiceRegistersModel.readsLine -/
def mgx18059 : aw_A := ms_o [(0, 8)] [(0, 4)] ar_t32 ar_t32 [(0, 180)] [(37, 37)] [(38, 60)] [(1, 8)] [(1, 1)]
def mgh18060 : aw_H := [(81, mgx18059)]
def mgc5758 : ak_C := (124, [.inl 81], mgh18060, [], [([], some (.inr (false, [(0, 0)])), [])])
theorem mgk5758 : ai_chk [] mgc5758 (fun pc => sm_ch sm_t124 pc, sm_Kn 3 3 none, fun x => sm_lk sm_ca3 x, some .boolean) [] 3 0 [] [] 2000 [] = true := by decide +kernel
/-- MiceRegistersModel.figure -/
def mgc5759 : ak_C := (125, [.inl 81, .inr (false, [(0, 0)]), .inr (false, [(0, 7)])], mgh13372, [81], [([], some (.inr (false, [(-9, -9)])), mgh13327), ([], some (.inr (false, [(0, 7)])), mgh14079)])
/-- MiceRegistersModel.figure -/
def mgc5760 : ak_C := (125, [.inl 81, .inr (false, [(1, 1)]), .inr (false, [(9, 9)])], mgh16762, [81], [([], some (.inr (false, [(-9, -9)])), mgh14079), ([], some (.inr (false, [(1, 9)])), mgh13230)])
def mgh18061 : aw_H := [(81, mgx18059), (94, mgx4449)]
/-- MiceRegistersModel.readsMouse -/
def mgh18062 : aw_H := [(81, mgx18059), (90, .inr (.inl (0, 240, [], []))), (94, mgx4449)]
def mgc5761 : ak_C := (127, [.inl 81], mgh18062, [81, 94], [([], some (.inr (false, [(0, 0)])), mgh18061), ([], some (.inr (false, [(1, 1)])), mgh16083), ([], some (.inr (false, [(0, 0)])), mgh16718), ([], some (.inr (false, [(0, 0)])), mgh13281)])
theorem mgk5761 : ai_chk [mgc42, mgc147, mgc5759, mgc5760] mgc5761 (fun pc => sm_ch sm_t127 pc, sm_Kn 3 5 none, fun x => sm_lk sm_ca3 x, some .boolean) [81, 94] 5 0 [] [] 2000 [] = true := by decide +kernel
def mgx18063 : aw_A := ms_o [(0, 8)] [(0, 4)] ar_t32 ar_t32 [(0, 180)] [(41, 41)] [(40, 60)] [(1, 8)] [(2, 2)]
def mgh18064 : aw_H := [(81, mgx18063)]
def mgx18065 : aw_A := ms_o [(0, 8)] [(0, 4)] ar_t32 ar_t32 [(0, 180)] [(42, 42)] [(40, 60)] [(1, 8)] [(2, 2)]
def mgh18066 : aw_H := [(81, mgx18065)]
def mgx18067 : aw_A := ms_o [(0, 8)] [(0, 4)] ar_t32 ar_t32 [(0, 180)] [(43, 43)] [(40, 60)] [(1, 8)] [(2, 2)]
def mgh18068 : aw_H := [(81, mgx18067)]
def mgx18069 : aw_A := ms_o [(0, 8)] [(0, 4)] ar_t32 ar_t32 [(0, 180)] [(44, 44)] [(40, 60)] [(1, 8)] [(2, 2)]
def mgh18070 : aw_H := [(81, mgx18069)]
def mgx18071 : aw_A := ms_o [(0, 8)] [(0, 4)] ar_t32 ar_t32 [(0, 180)] [(45, 45)] [(40, 60)] [(1, 8)] [(2, 2)]
def mgh18072 : aw_H := [(81, mgx18071)]
def mgx18073 : aw_A := ms_o [(0, 8)] [(0, 4)] ar_t32 ar_t32 [(0, 180)] [(46, 46)] [(40, 60)] [(1, 8)] [(2, 2)]
def mgh18074 : aw_H := [(81, mgx18073)]
def mgx18075 : aw_A := ms_o [(0, 8)] [(0, 4)] ar_t32 ar_t32 [(0, 180)] [(47, 47)] [(40, 60)] [(1, 8)] [(2, 2)]
def mgh18076 : aw_H := [(81, mgx18075)]
def mgx18077 : aw_A := ms_o [(0, 8)] [(0, 4)] ar_t32 ar_t32 [(0, 180)] [(48, 48)] [(40, 60)] [(1, 8)] [(2, 2)]
def mgh18078 : aw_H := [(81, mgx18077)]
def mgx18079 : aw_A := ms_o [(0, 8)] [(0, 4)] ar_t32 ar_t32 [(0, 180)] [(49, 49)] [(40, 60)] [(1, 8)] [(2, 2)]
def mgh18080 : aw_H := [(81, mgx18079)]
def mgx18081 : aw_A := ms_o [(0, 8)] [(0, 4)] ar_t32 ar_t32 [(0, 180)] [(50, 50)] [(40, 60)] [(1, 8)] [(2, 2)]
def mgh18082 : aw_H := [(81, mgx18081)]
def mgx18083 : aw_A := ms_o [(0, 8)] [(0, 4)] ar_t32 ar_t32 [(0, 180)] [(51, 51)] [(40, 60)] [(1, 8)] [(2, 2)]
def mgh18084 : aw_H := [(81, mgx18083)]
def mgx18085 : aw_A := ms_o [(0, 8)] [(0, 4)] ar_t32 ar_t32 [(0, 180)] [(52, 52)] [(40, 60)] [(1, 8)] [(2, 2)]
def mgh18086 : aw_H := [(81, mgx18085)]
def mgx18087 : aw_A := ms_o [(0, 8)] [(0, 4)] ar_t32 ar_t32 [(0, 180)] [(53, 53)] [(40, 60)] [(1, 8)] [(2, 2)]
def mgh18088 : aw_H := [(81, mgx18087)]
def mgx18089 : aw_A := ms_o [(0, 8)] [(0, 4)] ar_t32 ar_t32 [(0, 180)] [(54, 54)] [(40, 60)] [(1, 8)] [(2, 2)]
def mgh18090 : aw_H := [(81, mgx18089)]
def mgx18091 : aw_A := ms_o [(0, 8)] [(0, 4)] ar_t32 ar_t32 [(0, 180)] [(55, 55)] [(40, 60)] [(1, 8)] [(2, 2)]
def mgh18092 : aw_H := [(81, mgx18091)]
def mgx18093 : aw_A := ms_o [(0, 8)] [(0, 4)] ar_t32 ar_t32 [(0, 180)] [(56, 56)] [(40, 60)] [(1, 8)] [(2, 2)]
def mgh18094 : aw_H := [(81, mgx18093)]
def mgx18095 : aw_A := ms_o [(0, 8)] [(0, 4)] ar_t32 ar_t32 [(0, 180)] [(57, 57)] [(40, 60)] [(1, 8)] [(2, 2)]
def mgh18096 : aw_H := [(81, mgx18095)]
def mgx18097 : aw_A := ms_o [(0, 8)] [(0, 4)] ar_t32 ar_t32 [(0, 180)] [(58, 58)] [(40, 60)] [(1, 8)] [(2, 2)]
def mgh18098 : aw_H := [(81, mgx18097)]
def mgx18099 : aw_A := ms_o [(0, 8)] [(0, 4)] ar_t32 ar_t32 [(0, 180)] [(59, 59)] [(40, 60)] [(1, 8)] [(2, 2)]
def mgh18100 : aw_H := [(81, mgx18099)]
def mgx18101 : aw_A := ms_o [(0, 8)] [(0, 4)] ar_t32 ar_t32 [(0, 180)] [(60, 60)] [(40, 60)] [(1, 8)] [(2, 2)]
def mgh18102 : aw_H := [(81, mgx18101)]
/-- MiceRegistersModel.skip -/
def mgc6085 : ak_C := (122, [.inl 81], mgh16075, [81], [([], none, mgh16072), ([], none, mgh18064), ([], none, mgh18066), ([], none, mgh18068), ([], none, mgh18070), ([], none, mgh18072), ([], none, mgh18074), ([], none, mgh18076), ([], none, mgh18078), ([], none, mgh18080), ([], none, mgh18082), ([], none, mgh18084), ([], none, mgh18086), ([], none, mgh18088), ([], none, mgh18090), ([], none, mgh18092), ([], none, mgh18094), ([], none, mgh18096), ([], none, mgh18098), ([], none, mgh18100), ([], none, mgh18102)])
/-- MiceRegistersModel.readsLine -/
def mgx18103 : aw_A := ms_o [(0, 8)] [(0, 4)] ar_t32 ar_t32 [(0, 180)] [(40, 40)] [(41, 60)] [(1, 8)] [(2, 2)]
def mgh18104 : aw_H := [(81, mgx18103)]
def mgc6002 : ak_C := (124, [.inl 81], mgh18104, [], [([], some (.inr (false, [(0, 0)])), [])])
theorem mgk6002 : ai_chk [] mgc6002 (fun pc => sm_ch sm_t124 pc, sm_Kn 3 3 none, fun x => sm_lk sm_ca3 x, some .boolean) [] 3 0 [] [] 2000 [] = true := by decide +kernel
/-- MiceRegistersModel.figure -/
def mgc6003 : ak_C := (125, [.inl 81, .inr (false, [(0, 0)]), .inr (false, [(0, 7)])], mgh16078, [81], [([], some (.inr (false, [(-9, -9)])), mgh16074), ([], some (.inr (false, [(0, 7)])), mgh16077)])
def mgx18105 : aw_A := ms_o [(0, 8)] [(0, 4)] ar_t32 ar_t32 [(0, 180)] [(43, 43)] [(43, 60)] [(1, 8)] [(2, 2)]
def mgh18106 : aw_H := [(81, mgx18105)]
/-- MiceRegistersModel.figure -/
def mgh18107 : aw_H := [(81, mgx16076), (90, .inr (.inl (0, 240, [], [])))]
def mgc6004 : ak_C := (125, [.inl 81, .inr (false, [(1, 1)]), .inr (false, [(9, 9)])], mgh18107, [81], [([], some (.inr (false, [(-9, -9)])), mgh16077), ([], some (.inr (false, [(1, 9)])), mgh18106)])
def mgh18108 : aw_H := [(81, mgx18103), (94, mgx6150)]
def mgh18109 : aw_H := [(81, mgx16076), (94, mgx6150)]
/-- MiceRegistersModel.readsMouse -/
def mgh18110 : aw_H := [(81, mgx18103), (90, .inr (.inl (0, 240, [], []))), (94, mgx6150)]
def mgc6005 : ak_C := (127, [.inl 81], mgh18110, [81, 94], [([], some (.inr (false, [(0, 0)])), mgh18108), ([], some (.inr (false, [(1, 1)])), mgh16628), ([], some (.inr (false, [(0, 0)])), mgh18109), ([], some (.inr (false, [(0, 0)])), mgh16082)])
theorem mgk6005 : ai_chk [mgc39, mgc147, mgc6003, mgc6004] mgc6005 (fun pc => sm_ch sm_t127 pc, sm_Kn 3 5 none, fun x => sm_lk sm_ca3 x, some .boolean) [81, 94] 5 0 [] [] 2000 [] = true := by decide +kernel
