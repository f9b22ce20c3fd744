/-! Contracts over ranges of the reference, and their checks; printed by a program of mine. -/
def mgx18111 : aw_A := ms_o [(0, 8)] [(0, 4)] ar_t32 ar_t32 [(0, 180)] [(44, 44)] [(43, 60)] [(1, 8)] [(3, 3)]
def mgh18112 : aw_H := [(81, mgx18111)]
def mgx18113 : aw_A := ms_o [(0, 8)] [(0, 4)] ar_t32 ar_t32 [(0, 180)] [(45, 45)] [(43, 60)] [(1, 8)] [(3, 3)]
def mgh18114 : aw_H := [(81, mgx18113)]
def mgx18115 : aw_A := ms_o [(0, 8)] [(0, 4)] ar_t32 ar_t32 [(0, 180)] [(46, 46)] [(43, 60)] [(1, 8)] [(3, 3)]
def mgh18116 : aw_H := [(81, mgx18115)]
def mgx18117 : aw_A := ms_o [(0, 8)] [(0, 4)] ar_t32 ar_t32 [(0, 180)] [(47, 47)] [(43, 60)] [(1, 8)] [(3, 3)]
def mgh18118 : aw_H := [(81, mgx18117)]
def mgx18119 : aw_A := ms_o [(0, 8)] [(0, 4)] ar_t32 ar_t32 [(0, 180)] [(48, 48)] [(43, 60)] [(1, 8)] [(3, 3)]
def mgh18120 : aw_H := [(81, mgx18119)]
def mgx18121 : aw_A := ms_o [(0, 8)] [(0, 4)] ar_t32 ar_t32 [(0, 180)] [(49, 49)] [(43, 60)] [(1, 8)] [(3, 3)]
def mgh18122 : aw_H := [(81, mgx18121)]
def mgx18123 : aw_A := ms_o [(0, 8)] [(0, 4)] ar_t32 ar_t32 [(0, 180)] [(50, 50)] [(43, 60)] [(1, 8)] [(3, 3)]
def mgh18124 : aw_H := [(81, mgx18123)]
def mgx18125 : aw_A := ms_o [(0, 8)] [(0, 4)] ar_t32 ar_t32 [(0, 180)] [(51, 51)] [(43, 60)] [(1, 8)] [(3, 3)]
def mgh18126 : aw_H := [(81, mgx18125)]
def mgx18127 : aw_A := ms_o [(0, 8)] [(0, 4)] ar_t32 ar_t32 [(0, 180)] [(52, 52)] [(43, 60)] [(1, 8)] [(3, 3)]
def mgh18128 : aw_H := [(81, mgx18127)]
def mgx18129 : aw_A := ms_o [(0, 8)] [(0, 4)] ar_t32 ar_t32 [(0, 180)] [(53, 53)] [(43, 60)] [(1, 8)] [(3, 3)]
def mgh18130 : aw_H := [(81, mgx18129)]
def mgx18131 : aw_A := ms_o [(0, 8)] [(0, 4)] ar_t32 ar_t32 [(0, 180)] [(54, 54)] [(43, 60)] [(1, 8)] [(3, 3)]
def mgh18132 : aw_H := [(81, mgx18131)]
def mgx18133 : aw_A := ms_o [(0, 8)] [(0, 4)] ar_t32 ar_t32 [(0, 180)] [(55, 55)] [(43, 60)] [(1, 8)] [(3, 3)]
def mgh18134 : aw_H := [(81, mgx18133)]
def mgx18135 : aw_A := ms_o [(0, 8)] [(0, 4)] ar_t32 ar_t32 [(0, 180)] [(56, 56)] [(43, 60)] [(1, 8)] [(3, 3)]
def mgh18136 : aw_H := [(81, mgx18135)]
def mgx18137 : aw_A := ms_o [(0, 8)] [(0, 4)] ar_t32 ar_t32 [(0, 180)] [(57, 57)] [(43, 60)] [(1, 8)] [(3, 3)]
def mgh18138 : aw_H := [(81, mgx18137)]
def mgx18139 : aw_A := ms_o [(0, 8)] [(0, 4)] ar_t32 ar_t32 [(0, 180)] [(58, 58)] [(43, 60)] [(1, 8)] [(3, 3)]
def mgh18140 : aw_H := [(81, mgx18139)]
def mgx18141 : aw_A := ms_o [(0, 8)] [(0, 4)] ar_t32 ar_t32 [(0, 180)] [(59, 59)] [(43, 60)] [(1, 8)] [(3, 3)]
def mgh18142 : aw_H := [(81, mgx18141)]
def mgx18143 : aw_A := ms_o [(0, 8)] [(0, 4)] ar_t32 ar_t32 [(0, 180)] [(60, 60)] [(43, 60)] [(1, 8)] [(3, 3)]
def mgh18144 : aw_H := [(81, mgx18143)]
/-- MiceRegistersModel.skip -/
def mgc6210 : ak_C := (122, [.inl 81], mgh16620, [81], [([], none, mgh16617), ([], none, mgh18112), ([], none, mgh18114), ([], none, mgh18116), ([], none, mgh18118), ([], none, mgh18120), ([], none, mgh18122), ([], none, mgh18124), ([], none, mgh18126), ([], none, mgh18128), ([], none, mgh18130), ([], none, mgh18132), ([], none, mgh18134), ([], none, mgh18136), ([], none, mgh18138), ([], none, mgh18140), ([], none, mgh18142), ([], none, mgh18144)])
/-- MiceRegistersModel.readsLine -/
def mgx18145 : aw_A := ms_o [(0, 8)] [(0, 4)] ar_t32 ar_t32 [(0, 180)] [(43, 43)] [(44, 60)] [(1, 8)] [(3, 3)]
def mgh18146 : aw_H := [(81, mgx18145)]
def mgc6139 : ak_C := (124, [.inl 81], mgh18146, [], [([], some (.inr (false, [(0, 0)])), [])])
theorem mgk6139 : ai_chk [] mgc6139 (fun pc => sm_ch sm_t124 pc, sm_Kn 3 3 none, fun x => sm_lk sm_ca3 x, some .boolean) [] 3 0 [] [] 2000 [] = true := by decide +kernel
/-- MiceRegistersModel.figure -/
def mgc6140 : ak_C := (125, [.inl 81, .inr (false, [(0, 0)]), .inr (false, [(0, 7)])], mgh16623, [81], [([], some (.inr (false, [(-9, -9)])), mgh16619), ([], some (.inr (false, [(0, 7)])), mgh16622)])
def mgx18147 : aw_A := ms_o [(0, 8)] [(0, 4)] ar_t32 ar_t32 [(0, 180)] [(46, 46)] [(46, 60)] [(1, 8)] [(3, 3)]
def mgh18148 : aw_H := [(81, mgx18147)]
/-- MiceRegistersModel.figure -/
def mgh18149 : aw_H := [(81, mgx16621), (90, .inr (.inl (0, 240, [], [])))]
def mgc6141 : ak_C := (125, [.inl 81, .inr (false, [(1, 1)]), .inr (false, [(9, 9)])], mgh18149, [81], [([], some (.inr (false, [(-9, -9)])), mgh16622), ([], some (.inr (false, [(1, 9)])), mgh18148)])
def mgh18150 : aw_H := [(81, mgx18145), (94, mgx6362)]
def mgx18151 : aw_A := ms_o [(0, 8)] [(0, 4)] ar_t32 ar_t32 [(0, 180)] [(46, 46)] [(46, 60)] [(1, 8)] [(4, 4)]
def mgh18152 : aw_H := [(81, mgx18151), (94, mgx6473)]
def mgh18153 : aw_H := [(81, mgx16621), (94, mgx6362)]
/-- MiceRegistersModel.readsMouse -/
def mgh18154 : aw_H := [(81, mgx18145), (90, .inr (.inl (0, 240, [], []))), (94, mgx6362)]
def mgc6142 : ak_C := (127, [.inl 81], mgh18154, [81, 94], [([], some (.inr (false, [(0, 0)])), mgh18150), ([], some (.inr (false, [(1, 1)])), mgh18152), ([], some (.inr (false, [(0, 0)])), mgh18153), ([], some (.inr (false, [(0, 0)])), mgh16627)])
theorem mgk6142 : ai_chk [mgc36, mgc147, mgc6140, mgc6141] mgc6142 (fun pc => sm_ch sm_t127 pc, sm_Kn 3 5 none, fun x => sm_lk sm_ca3 x, some .boolean) [81, 94] 5 0 [] [] 2000 [] = true := by decide +kernel
def mgh18155 : aw_H := [(81, mgx18151)]
def mgx18156 : aw_A := ms_o [(0, 8)] [(0, 4)] ar_t32 ar_t32 [(0, 180)] [(47, 47)] [(46, 60)] [(1, 8)] [(4, 4)]
def mgh18157 : aw_H := [(81, mgx18156)]
def mgx18158 : aw_A := ms_o [(0, 8)] [(0, 4)] ar_t32 ar_t32 [(0, 180)] [(48, 48)] [(46, 60)] [(1, 8)] [(4, 4)]
def mgh18159 : aw_H := [(81, mgx18158)]
def mgx18160 : aw_A := ms_o [(0, 8)] [(0, 4)] ar_t32 ar_t32 [(0, 180)] [(49, 49)] [(46, 60)] [(1, 8)] [(4, 4)]
def mgh18161 : aw_H := [(81, mgx18160)]
def mgx18162 : aw_A := ms_o [(0, 8)] [(0, 4)] ar_t32 ar_t32 [(0, 180)] [(50, 50)] [(46, 60)] [(1, 8)] [(4, 4)]
def mgh18163 : aw_H := [(81, mgx18162)]
def mgx18164 : aw_A := ms_o [(0, 8)] [(0, 4)] ar_t32 ar_t32 [(0, 180)] [(51, 51)] [(46, 60)] [(1, 8)] [(4, 4)]
def mgh18165 : aw_H := [(81, mgx18164)]
def mgx18166 : aw_A := ms_o [(0, 8)] [(0, 4)] ar_t32 ar_t32 [(0, 180)] [(52, 52)] [(46, 60)] [(1, 8)] [(4, 4)]
def mgh18167 : aw_H := [(81, mgx18166)]
def mgx18168 : aw_A := ms_o [(0, 8)] [(0, 4)] ar_t32 ar_t32 [(0, 180)] [(53, 53)] [(46, 60)] [(1, 8)] [(4, 4)]
def mgh18169 : aw_H := [(81, mgx18168)]
def mgx18170 : aw_A := ms_o [(0, 8)] [(0, 4)] ar_t32 ar_t32 [(0, 180)] [(54, 54)] [(46, 60)] [(1, 8)] [(4, 4)]
def mgh18171 : aw_H := [(81, mgx18170)]
def mgx18172 : aw_A := ms_o [(0, 8)] [(0, 4)] ar_t32 ar_t32 [(0, 180)] [(55, 55)] [(46, 60)] [(1, 8)] [(4, 4)]
def mgh18173 : aw_H := [(81, mgx18172)]
def mgx18174 : aw_A := ms_o [(0, 8)] [(0, 4)] ar_t32 ar_t32 [(0, 180)] [(56, 56)] [(46, 60)] [(1, 8)] [(4, 4)]
def mgh18175 : aw_H := [(81, mgx18174)]
def mgx18176 : aw_A := ms_o [(0, 8)] [(0, 4)] ar_t32 ar_t32 [(0, 180)] [(57, 57)] [(46, 60)] [(1, 8)] [(4, 4)]
def mgh18177 : aw_H := [(81, mgx18176)]
def mgx18178 : aw_A := ms_o [(0, 8)] [(0, 4)] ar_t32 ar_t32 [(0, 180)] [(58, 58)] [(46, 60)] [(1, 8)] [(4, 4)]
def mgh18179 : aw_H := [(81, mgx18178)]
def mgx18180 : aw_A := ms_o [(0, 8)] [(0, 4)] ar_t32 ar_t32 [(0, 180)] [(59, 59)] [(46, 60)] [(1, 8)] [(4, 4)]
def mgh18181 : aw_H := [(81, mgx18180)]
def mgx18182 : aw_A := ms_o [(0, 8)] [(0, 4)] ar_t32 ar_t32 [(0, 180)] [(60, 60)] [(46, 60)] [(1, 8)] [(4, 4)]
def mgh18183 : aw_H := [(81, mgx18182)]
/-- MiceRegistersModel.skip -/
def mgh18184 : aw_H := [(81, mgx18151), (90, .inr (.inl (0, 240, [], [])))]
def mgc6256 : ak_C := (122, [.inl 81], mgh18184, [81], [([], none, mgh18155), ([], none, mgh18157), ([], none, mgh18159), ([], none, mgh18161), ([], none, mgh18163), ([], none, mgh18165), ([], none, mgh18167), ([], none, mgh18169), ([], none, mgh18171), ([], none, mgh18173), ([], none, mgh18175), ([], none, mgh18177), ([], none, mgh18179), ([], none, mgh18181), ([], none, mgh18183)])
/-- MiceRegistersModel.readsLine -/
def mgx18185 : aw_A := ms_o [(0, 8)] [(0, 4)] ar_t32 ar_t32 [(0, 180)] [(46, 46)] [(47, 60)] [(1, 8)] [(4, 4)]
def mgh18186 : aw_H := [(81, mgx18185)]
def mgc6224 : ak_C := (124, [.inl 81], mgh18186, [], [([], some (.inr (false, [(0, 0)])), [])])
theorem mgk6224 : ai_chk [] mgc6224 (fun pc => sm_ch sm_t124 pc, sm_Kn 3 3 none, fun x => sm_lk sm_ca3 x, some .boolean) [] 3 0 [] [] 2000 [] = true := by decide +kernel
/-- MiceRegistersModel.readsMouse -/
def mgh18187 : aw_H := [(81, mgx18185), (90, .inr (.inl (0, 240, [], [])))]
def mgc6225 : ak_C := (127, [.inl 81], mgh18187, [], [([], some (.inr (false, [(0, 0)])), [])])
theorem mgk6225 : ai_chk [mgc33, mgc147] mgc6225 (fun pc => sm_ch sm_t127 pc, sm_Kn 3 5 none, fun x => sm_lk sm_ca3 x, some .boolean) [] 5 0 [] [] 2000 [] = true := by decide +kernel
/-- MiceRegistersModel.readsLine -/
def mgx18188 : aw_A := ms_o [(0, 8)] [(0, 4)] ar_t32 ar_t32 [(0, 180)] [(54, 54)] [(55, 60)] [(1, 8)] [(1, 1)]
def mgh18189 : aw_H := [(81, mgx18188)]
def mgc5826 : ak_C := (124, [.inl 81], mgh18189, [], [([], some (.inr (false, [(0, 0)])), [])])
theorem mgk5826 : ai_chk [] mgc5826 (fun pc => sm_ch sm_t124 pc, sm_Kn 3 3 none, fun x => sm_lk sm_ca3 x, some .boolean) [] 3 0 [] [] 2000 [] = true := by decide +kernel
/-- MiceRegistersModel.figure -/
def mgc5827 : ak_C := (125, [.inl 81, .inr (false, [(0, 0)]), .inr (false, [(0, 7)])], mgh17818, [81], [([], some (.inr (false, [(-9, -9)])), mgh17807), ([], some (.inr (false, [(0, 7)])), mgh17709)])
/-- MiceRegistersModel.figure -/
def mgc5828 : ak_C := (125, [.inl 81, .inr (false, [(1, 1)]), .inr (false, [(9, 9)])], mgh17718, [81], [([], some (.inr (false, [(-9, -9)])), mgh17709), ([], some (.inr (false, [(1, 9)])), mgh17783)])
def mgh18190 : aw_H := [(81, mgx18188), (94, mgx4449)]
def mgx18191 : aw_A := ms_o [(0, 8)] [(0, 4)] ar_t32 ar_t32 [(0, 180)] [(57, 57)] [(57, 60)] [(1, 8)] [(2, 2)]
def mgh18192 : aw_H := [(81, mgx18191), (94, mgx6150)]
/-- MiceRegistersModel.readsMouse -/
def mgh18193 : aw_H := [(81, mgx18188), (90, .inr (.inl (0, 240, [], []))), (94, mgx4449)]
def mgc5829 : ak_C := (127, [.inl 81], mgh18193, [81, 94], [([], some (.inr (false, [(0, 0)])), mgh18190), ([], some (.inr (false, [(1, 1)])), mgh18192), ([], some (.inr (false, [(0, 0)])), mgh17705), ([], some (.inr (false, [(0, 0)])), mgh17804)])
theorem mgk5829 : ai_chk [mgc25, mgc147, mgc5827, mgc5828] mgc5829 (fun pc => sm_ch sm_t127 pc, sm_Kn 3 5 none, fun x => sm_lk sm_ca3 x, some .boolean) [81, 94] 5 0 [] [] 2000 [] = true := by decide +kernel
def mgh18194 : aw_H := [(81, mgx18191)]
def mgx18195 : aw_A := ms_o [(0, 8)] [(0, 4)] ar_t32 ar_t32 [(0, 180)] [(58, 58)] [(57, 60)] [(1, 8)] [(2, 2)]
def mgh18196 : aw_H := [(81, mgx18195)]
def mgx18197 : aw_A := ms_o [(0, 8)] [(0, 4)] ar_t32 ar_t32 [(0, 180)] [(59, 59)] [(57, 60)] [(1, 8)] [(2, 2)]
def mgh18198 : aw_H := [(81, mgx18197)]
def mgx18199 : aw_A := ms_o [(0, 8)] [(0, 4)] ar_t32 ar_t32 [(0, 180)] [(60, 60)] [(57, 60)] [(1, 8)] [(2, 2)]
def mgh18200 : aw_H := [(81, mgx18199)]
/-- MiceRegistersModel.skip -/
def mgh18201 : aw_H := [(81, mgx18191), (90, .inr (.inl (0, 240, [], [])))]
def mgc6309 : ak_C := (122, [.inl 81], mgh18201, [81], [([], none, mgh18194), ([], none, mgh18196), ([], none, mgh18198), ([], none, mgh18200)])
/-- MiceRegistersModel.readsLine -/
def mgx18202 : aw_A := ms_o [(0, 8)] [(0, 4)] ar_t32 ar_t32 [(0, 180)] [(58, 58)] [(59, 60)] [(1, 8)] [(1, 1)]
def mgh18203 : aw_H := [(81, mgx18202)]
def mgc5842 : ak_C := (124, [.inl 81], mgh18203, [], [([], some (.inr (false, [(0, 0)])), [])])
theorem mgk5842 : ai_chk [] mgc5842 (fun pc => sm_ch sm_t124 pc, sm_Kn 3 3 none, fun x => sm_lk sm_ca3 x, some .boolean) [] 3 0 [] [] 2000 [] = true := by decide +kernel
/-- MiceRegistersModel.figure -/
def mgc5843 : ak_C := (125, [.inl 81, .inr (false, [(0, 0)]), .inr (false, [(0, 7)])], mgh17931, [81], [([], some (.inr (false, [(-9, -9)])), mgh17928), ([], some (.inr (false, [(0, 7)])), mgh17914)])
/-- MiceRegistersModel.figure -/
def mgc5844 : ak_C := (125, [.inl 81, .inr (false, [(1, 1)]), .inr (false, [(9, 9)])], mgh17915, [81], [([], some (.inr (false, [(-9, -9)])), mgh17914)])
/-- MiceRegistersModel.readsMouse -/
def mgh18204 : aw_H := [(81, mgx18202), (90, .inr (.inl (0, 240, [], [])))]
def mgc5845 : ak_C := (127, [.inl 81], mgh18204, [81], [([], some (.inr (false, [(0, 0)])), mgh18203), ([], some (.inr (false, [(0, 0)])), mgh17914), ([], some (.inr (false, [(0, 0)])), mgh17928)])
theorem mgk5845 : ai_chk [mgc21, mgc147, mgc5843, mgc5844] mgc5845 (fun pc => sm_ch sm_t127 pc, sm_Kn 3 5 none, fun x => sm_lk sm_ca3 x, some .boolean) [81] 5 0 [] [] 2000 [] = true := by decide +kernel
/-- MiceRegistersModel.readsLine -/
def mgx18205 : aw_A := ms_o [(0, 8)] [(0, 4)] ar_t32 ar_t32 [(0, 180)] [(38, 38)] [(39, 60)] [(1, 8)] [(1, 1)]
def mgh18206 : aw_H := [(81, mgx18205)]
def mgc5762 : ak_C := (124, [.inl 81], mgh18206, [], [([], some (.inr (false, [(0, 0)])), [])])
theorem mgk5762 : ai_chk [] mgc5762 (fun pc => sm_ch sm_t124 pc, sm_Kn 3 3 none, fun x => sm_lk sm_ca3 x, some .boolean) [] 3 0 [] [] 2000 [] = true := by decide +kernel
/-- MiceRegistersModel.figure -/
def mgc5763 : ak_C := (125, [.inl 81, .inr (false, [(0, 0)]), .inr (false, [(0, 7)])], mgh16762, [81], [([], some (.inr (false, [(-9, -9)])), mgh14079), ([], some (.inr (false, [(0, 7)])), mgh13230)])
/-- MiceRegistersModel.figure -/
def mgc5764 : ak_C := (125, [.inl 81, .inr (false, [(1, 1)]), .inr (false, [(9, 9)])], mgh13271, [81], [([], some (.inr (false, [(-9, -9)])), mgh13230), ([], some (.inr (false, [(1, 9)])), mgh16870)])
def mgh18207 : aw_H := [(81, mgx18205), (94, mgx4449)]
/-- MiceRegistersModel.readsMouse -/
def mgh18208 : aw_H := [(81, mgx18205), (90, .inr (.inl (0, 240, [], []))), (94, mgx4449)]
def mgc5765 : ak_C := (127, [.inl 81], mgh18208, [81, 94], [([], some (.inr (false, [(0, 0)])), mgh18207), ([], some (.inr (false, [(1, 1)])), mgh16082), ([], some (.inr (false, [(0, 0)])), mgh13186), ([], some (.inr (false, [(0, 0)])), mgh16718)])
theorem mgk5765 : ai_chk [mgc41, mgc147, mgc5763, mgc5764] mgc5765 (fun pc => sm_ch sm_t127 pc, sm_Kn 3 5 none, fun x => sm_lk sm_ca3 x, some .boolean) [81, 94] 5 0 [] [] 2000 [] = true := by decide +kernel
def mgx18209 : aw_A := ms_o [(0, 8)] [(0, 4)] ar_t32 ar_t32 [(0, 180)] [(42, 42)] [(41, 60)] [(1, 8)] [(2, 2)]
def mgh18210 : aw_H := [(81, mgx18209)]
def mgx18211 : aw_A := ms_o [(0, 8)] [(0, 4)] ar_t32 ar_t32 [(0, 180)] [(43, 43)] [(41, 60)] [(1, 8)] [(2, 2)]
def mgh18212 : aw_H := [(81, mgx18211)]
def mgx18213 : aw_A := ms_o [(0, 8)] [(0, 4)] ar_t32 ar_t32 [(0, 180)] [(44, 44)] [(41, 60)] [(1, 8)] [(2, 2)]
def mgh18214 : aw_H := [(81, mgx18213)]
def mgx18215 : aw_A := ms_o [(0, 8)] [(0, 4)] ar_t32 ar_t32 [(0, 180)] [(45, 45)] [(41, 60)] [(1, 8)] [(2, 2)]
def mgh18216 : aw_H := [(81, mgx18215)]
def mgx18217 : aw_A := ms_o [(0, 8)] [(0, 4)] ar_t32 ar_t32 [(0, 180)] [(46, 46)] [(41, 60)] [(1, 8)] [(2, 2)]
def mgh18218 : aw_H := [(81, mgx18217)]
def mgx18219 : aw_A := ms_o [(0, 8)] [(0, 4)] ar_t32 ar_t32 [(0, 180)] [(47, 47)] [(41, 60)] [(1, 8)] [(2, 2)]
def mgh18220 : aw_H := [(81, mgx18219)]
def mgx18221 : aw_A := ms_o [(0, 8)] [(0, 4)] ar_t32 ar_t32 [(0, 180)] [(48, 48)] [(41, 60)] [(1, 8)] [(2, 2)]
def mgh18222 : aw_H := [(81, mgx18221)]
def mgx18223 : aw_A := ms_o [(0, 8)] [(0, 4)] ar_t32 ar_t32 [(0, 180)] [(49, 49)] [(41, 60)] [(1, 8)] [(2, 2)]
def mgh18224 : aw_H := [(81, mgx18223)]
def mgx18225 : aw_A := ms_o [(0, 8)] [(0, 4)] ar_t32 ar_t32 [(0, 180)] [(50, 50)] [(41, 60)] [(1, 8)] [(2, 2)]
def mgh18226 : aw_H := [(81, mgx18225)]
def mgx18227 : aw_A := ms_o [(0, 8)] [(0, 4)] ar_t32 ar_t32 [(0, 180)] [(51, 51)] [(41, 60)] [(1, 8)] [(2, 2)]
def mgh18228 : aw_H := [(81, mgx18227)]
def mgx18229 : aw_A := ms_o [(0, 8)] [(0, 4)] ar_t32 ar_t32 [(0, 180)] [(52, 52)] [(41, 60)] [(1, 8)] [(2, 2)]
def mgh18230 : aw_H := [(81, mgx18229)]
def mgx18231 : aw_A := ms_o [(0, 8)] [(0, 4)] ar_t32 ar_t32 [(0, 180)] [(53, 53)] [(41, 60)] [(1, 8)] [(2, 2)]
def mgh18232 : aw_H := [(81, mgx18231)]
def mgx18233 : aw_A := ms_o [(0, 8)] [(0, 4)] ar_t32 ar_t32 [(0, 180)] [(54, 54)] [(41, 60)] [(1, 8)] [(2, 2)]
def mgh18234 : aw_H := [(81, mgx18233)]
def mgx18235 : aw_A := ms_o [(0, 8)] [(0, 4)] ar_t32 ar_t32 [(0, 180)] [(55, 55)] [(41, 60)] [(1, 8)] [(2, 2)]
def mgh18236 : aw_H := [(81, mgx18235)]
def mgx18237 : aw_A := ms_o [(0, 8)] [(0, 4)] ar_t32 ar_t32 [(0, 180)] [(56, 56)] [(41, 60)] [(1, 8)] [(2, 2)]
def mgh18238 : aw_H := [(81, mgx18237)]
def mgx18239 : aw_A := ms_o [(0, 8)] [(0, 4)] ar_t32 ar_t32 [(0, 180)] [(57, 57)] [(41, 60)] [(1, 8)] [(2, 2)]
def mgh18240 : aw_H := [(81, mgx18239)]
def mgx18241 : aw_A := ms_o [(0, 8)] [(0, 4)] ar_t32 ar_t32 [(0, 180)] [(58, 58)] [(41, 60)] [(1, 8)] [(2, 2)]
def mgh18242 : aw_H := [(81, mgx18241)]
def mgx18243 : aw_A := ms_o [(0, 8)] [(0, 4)] ar_t32 ar_t32 [(0, 180)] [(59, 59)] [(41, 60)] [(1, 8)] [(2, 2)]
def mgh18244 : aw_H := [(81, mgx18243)]
def mgx18245 : aw_A := ms_o [(0, 8)] [(0, 4)] ar_t32 ar_t32 [(0, 180)] [(60, 60)] [(41, 60)] [(1, 8)] [(2, 2)]
def mgh18246 : aw_H := [(81, mgx18245)]
/-- MiceRegistersModel.skip -/
def mgc6090 : ak_C := (122, [.inl 81], mgh16078, [81], [([], none, mgh16074), ([], none, mgh18210), ([], none, mgh18212), ([], none, mgh18214), ([], none, mgh18216), ([], none, mgh18218), ([], none, mgh18220), ([], none, mgh18222), ([], none, mgh18224), ([], none, mgh18226), ([], none, mgh18228), ([], none, mgh18230), ([], none, mgh18232), ([], none, mgh18234), ([], none, mgh18236), ([], none, mgh18238), ([], none, mgh18240), ([], none, mgh18242), ([], none, mgh18244), ([], none, mgh18246)])
/-- MiceRegistersModel.readsLine -/
def mgx18247 : aw_A := ms_o [(0, 8)] [(0, 4)] ar_t32 ar_t32 [(0, 180)] [(41, 41)] [(42, 60)] [(1, 8)] [(2, 2)]
def mgh18248 : aw_H := [(81, mgx18247)]
def mgc6006 : ak_C := (124, [.inl 81], mgh18248, [], [([], some (.inr (false, [(0, 0)])), [])])
theorem mgk6006 : ai_chk [] mgc6006 (fun pc => sm_ch sm_t124 pc, sm_Kn 3 3 none, fun x => sm_lk sm_ca3 x, some .boolean) [] 3 0 [] [] 2000 [] = true := by decide +kernel
/-- MiceRegistersModel.figure -/
def mgc6007 : ak_C := (125, [.inl 81, .inr (false, [(0, 0)]), .inr (false, [(0, 7)])], mgh18107, [81], [([], some (.inr (false, [(-9, -9)])), mgh16077), ([], some (.inr (false, [(0, 7)])), mgh18106)])
def mgx18249 : aw_A := ms_o [(0, 8)] [(0, 4)] ar_t32 ar_t32 [(0, 180)] [(44, 44)] [(44, 60)] [(1, 8)] [(2, 2)]
def mgh18250 : aw_H := [(81, mgx18249)]
/-- MiceRegistersModel.figure -/
def mgh18251 : aw_H := [(81, mgx18105), (90, .inr (.inl (0, 240, [], [])))]
def mgc6008 : ak_C := (125, [.inl 81, .inr (false, [(1, 1)]), .inr (false, [(9, 9)])], mgh18251, [81], [([], some (.inr (false, [(-9, -9)])), mgh18106), ([], some (.inr (false, [(1, 9)])), mgh18250)])
def mgh18252 : aw_H := [(81, mgx18247), (94, mgx6150)]
def mgh18253 : aw_H := [(81, mgx18105), (94, mgx6150)]
/-- MiceRegistersModel.readsMouse -/
def mgh18254 : aw_H := [(81, mgx18247), (90, .inr (.inl (0, 240, [], []))), (94, mgx6150)]
def mgc6009 : ak_C := (127, [.inl 81], mgh18254, [81, 94], [([], some (.inr (false, [(0, 0)])), mgh18252), ([], some (.inr (false, [(1, 1)])), mgh16627), ([], some (.inr (false, [(0, 0)])), mgh18253), ([], some (.inr (false, [(0, 0)])), mgh18109)])
theorem mgk6009 : ai_chk [mgc38, mgc147, mgc6007, mgc6008] mgc6009 (fun pc => sm_ch sm_t127 pc, sm_Kn 3 5 none, fun x => sm_lk sm_ca3 x, some .boolean) [81, 94] 5 0 [] [] 2000 [] = true := by decide +kernel
def mgx18255 : aw_A := ms_o [(0, 8)] [(0, 4)] ar_t32 ar_t32 [(0, 180)] [(45, 45)] [(44, 60)] [(1, 8)] [(3, 3)]
def mgh18256 : aw_H := [(81, mgx18255)]
def mgx18257 : aw_A := ms_o [(0, 8)] [(0, 4)] ar_t32 ar_t32 [(0, 180)] [(46, 46)] [(44, 60)] [(1, 8)] [(3, 3)]
def mgh18258 : aw_H := [(81, mgx18257)]
def mgx18259 : aw_A := ms_o [(0, 8)] [(0, 4)] ar_t32 ar_t32 [(0, 180)] [(47, 47)] [(44, 60)] [(1, 8)] [(3, 3)]
def mgh18260 : aw_H := [(81, mgx18259)]
def mgx18261 : aw_A := ms_o [(0, 8)] [(0, 4)] ar_t32 ar_t32 [(0, 180)] [(48, 48)] [(44, 60)] [(1, 8)] [(3, 3)]
def mgh18262 : aw_H := [(81, mgx18261)]
def mgx18263 : aw_A := ms_o [(0, 8)] [(0, 4)] ar_t32 ar_t32 [(0, 180)] [(49, 49)] [(44, 60)] [(1, 8)] [(3, 3)]
def mgh18264 : aw_H := [(81, mgx18263)]
def mgx18265 : aw_A := ms_o [(0, 8)] [(0, 4)] ar_t32 ar_t32 [(0, 180)] [(50, 50)] [(44, 60)] [(1, 8)] [(3, 3)]
def mgh18266 : aw_H := [(81, mgx18265)]
def mgx18267 : aw_A := ms_o [(0, 8)] [(0, 4)] ar_t32 ar_t32 [(0, 180)] [(51, 51)] [(44, 60)] [(1, 8)] [(3, 3)]
def mgh18268 : aw_H := [(81, mgx18267)]
def mgx18269 : aw_A := ms_o [(0, 8)] [(0, 4)] ar_t32 ar_t32 [(0, 180)] [(52, 52)] [(44, 60)] [(1, 8)] [(3, 3)]
def mgh18270 : aw_H := [(81, mgx18269)]
def mgx18271 : aw_A := ms_o [(0, 8)] [(0, 4)] ar_t32 ar_t32 [(0, 180)] [(53, 53)] [(44, 60)] [(1, 8)] [(3, 3)]
def mgh18272 : aw_H := [(81, mgx18271)]
def mgx18273 : aw_A := ms_o [(0, 8)] [(0, 4)] ar_t32 ar_t32 [(0, 180)] [(54, 54)] [(44, 60)] [(1, 8)] [(3, 3)]
def mgh18274 : aw_H := [(81, mgx18273)]
def mgx18275 : aw_A := ms_o [(0, 8)] [(0, 4)] ar_t32 ar_t32 [(0, 180)] [(55, 55)] [(44, 60)] [(1, 8)] [(3, 3)]
def mgh18276 : aw_H := [(81, mgx18275)]
def mgx18277 : aw_A := ms_o [(0, 8)] [(0, 4)] ar_t32 ar_t32 [(0, 180)] [(56, 56)] [(44, 60)] [(1, 8)] [(3, 3)]
def mgh18278 : aw_H := [(81, mgx18277)]
def mgx18279 : aw_A := ms_o [(0, 8)] [(0, 4)] ar_t32 ar_t32 [(0, 180)] [(57, 57)] [(44, 60)] [(1, 8)] [(3, 3)]
def mgh18280 : aw_H := [(81, mgx18279)]
def mgx18281 : aw_A := ms_o [(0, 8)] [(0, 4)] ar_t32 ar_t32 [(0, 180)] [(58, 58)] [(44, 60)] [(1, 8)] [(3, 3)]
def mgh18282 : aw_H := [(81, mgx18281)]
def mgx18283 : aw_A := ms_o [(0, 8)] [(0, 4)] ar_t32 ar_t32 [(0, 180)] [(59, 59)] [(44, 60)] [(1, 8)] [(3, 3)]
def mgh18284 : aw_H := [(81, mgx18283)]
def mgx18285 : aw_A := ms_o [(0, 8)] [(0, 4)] ar_t32 ar_t32 [(0, 180)] [(60, 60)] [(44, 60)] [(1, 8)] [(3, 3)]
def mgh18286 : aw_H := [(81, mgx18285)]
/-- MiceRegistersModel.skip -/
def mgc6215 : ak_C := (122, [.inl 81], mgh16623, [81], [([], none, mgh16619), ([], none, mgh18256), ([], none, mgh18258), ([], none, mgh18260), ([], none, mgh18262), ([], none, mgh18264), ([], none, mgh18266), ([], none, mgh18268), ([], none, mgh18270), ([], none, mgh18272), ([], none, mgh18274), ([], none, mgh18276), ([], none, mgh18278), ([], none, mgh18280), ([], none, mgh18282), ([], none, mgh18284), ([], none, mgh18286)])
/-- MiceRegistersModel.readsLine -/
def mgx18287 : aw_A := ms_o [(0, 8)] [(0, 4)] ar_t32 ar_t32 [(0, 180)] [(44, 44)] [(45, 60)] [(1, 8)] [(3, 3)]
def mgh18288 : aw_H := [(81, mgx18287)]
def mgc6143 : ak_C := (124, [.inl 81], mgh18288, [], [([], some (.inr (false, [(0, 0)])), [])])
theorem mgk6143 : ai_chk [] mgc6143 (fun pc => sm_ch sm_t124 pc, sm_Kn 3 3 none, fun x => sm_lk sm_ca3 x, some .boolean) [] 3 0 [] [] 2000 [] = true := by decide +kernel
/-- MiceRegistersModel.figure -/
def mgc6144 : ak_C := (125, [.inl 81, .inr (false, [(0, 0)]), .inr (false, [(0, 7)])], mgh18149, [81], [([], some (.inr (false, [(-9, -9)])), mgh16622), ([], some (.inr (false, [(0, 7)])), mgh18148)])
def mgx18289 : aw_A := ms_o [(0, 8)] [(0, 4)] ar_t32 ar_t32 [(0, 180)] [(47, 47)] [(47, 60)] [(1, 8)] [(3, 3)]
def mgh18290 : aw_H := [(81, mgx18289)]
/-- MiceRegistersModel.figure -/
def mgh18291 : aw_H := [(81, mgx18147), (90, .inr (.inl (0, 240, [], [])))]
def mgc6145 : ak_C := (125, [.inl 81, .inr (false, [(1, 1)]), .inr (false, [(9, 9)])], mgh18291, [81], [([], some (.inr (false, [(-9, -9)])), mgh18148), ([], some (.inr (false, [(1, 9)])), mgh18290)])
def mgh18292 : aw_H := [(81, mgx18287), (94, mgx6362)]
def mgx18293 : aw_A := ms_o [(0, 8)] [(0, 4)] ar_t32 ar_t32 [(0, 180)] [(47, 47)] [(47, 60)] [(1, 8)] [(4, 4)]
def mgh18294 : aw_H := [(81, mgx18293), (94, mgx6473)]
def mgh18295 : aw_H := [(81, mgx18147), (94, mgx6362)]
/-- MiceRegistersModel.readsMouse -/
def mgh18296 : aw_H := [(81, mgx18287), (90, .inr (.inl (0, 240, [], []))), (94, mgx6362)]
def mgc6146 : ak_C := (127, [.inl 81], mgh18296, [81, 94], [([], some (.inr (false, [(0, 0)])), mgh18292), ([], some (.inr (false, [(1, 1)])), mgh18294), ([], some (.inr (false, [(0, 0)])), mgh18295), ([], some (.inr (false, [(0, 0)])), mgh18153)])
theorem mgk6146 : ai_chk [mgc35, mgc147, mgc6144, mgc6145] mgc6146 (fun pc => sm_ch sm_t127 pc, sm_Kn 3 5 none, fun x => sm_lk sm_ca3 x, some .boolean) [81, 94] 5 0 [] [] 2000 [] = true := by decide +kernel
def mgh18297 : aw_H := [(81, mgx18293)]
def mgx18298 : aw_A := ms_o [(0, 8)] [(0, 4)] ar_t32 ar_t32 [(0, 180)] [(48, 48)] [(47, 60)] [(1, 8)] [(4, 4)]
def mgh18299 : aw_H := [(81, mgx18298)]
def mgx18300 : aw_A := ms_o [(0, 8)] [(0, 4)] ar_t32 ar_t32 [(0, 180)] [(49, 49)] [(47, 60)] [(1, 8)] [(4, 4)]
def mgh18301 : aw_H := [(81, mgx18300)]
def mgx18302 : aw_A := ms_o [(0, 8)] [(0, 4)] ar_t32 ar_t32 [(0, 180)] [(50, 50)] [(47, 60)] [(1, 8)] [(4, 4)]
def mgh18303 : aw_H := [(81, mgx18302)]
def mgx18304 : aw_A := ms_o [(0, 8)] [(0, 4)] ar_t32 ar_t32 [(0, 180)] [(51, 51)] [(47, 60)] [(1, 8)] [(4, 4)]
def mgh18305 : aw_H := [(81, mgx18304)]
def mgx18306 : aw_A := ms_o [(0, 8)] [(0, 4)] ar_t32 ar_t32 [(0, 180)] [(52, 52)] [(47, 60)] [(1, 8)] [(4, 4)]
def mgh18307 : aw_H := [(81, mgx18306)]
def mgx18308 : aw_A := ms_o [(0, 8)] [(0, 4)] ar_t32 ar_t32 [(0, 180)] [(53, 53)] [(47, 60)] [(1, 8)] [(4, 4)]
def mgh18309 : aw_H := [(81, mgx18308)]
def mgx18310 : aw_A := ms_o [(0, 8)] [(0, 4)] ar_t32 ar_t32 [(0, 180)] [(54, 54)] [(47, 60)] [(1, 8)] [(4, 4)]
def mgh18311 : aw_H := [(81, mgx18310)]
def mgx18312 : aw_A := ms_o [(0, 8)] [(0, 4)] ar_t32 ar_t32 [(0, 180)] [(55, 55)] [(47, 60)] [(1, 8)] [(4, 4)]
def mgh18313 : aw_H := [(81, mgx18312)]
def mgx18314 : aw_A := ms_o [(0, 8)] [(0, 4)] ar_t32 ar_t32 [(0, 180)] [(56, 56)] [(47, 60)] [(1, 8)] [(4, 4)]
def mgh18315 : aw_H := [(81, mgx18314)]
def mgx18316 : aw_A := ms_o [(0, 8)] [(0, 4)] ar_t32 ar_t32 [(0, 180)] [(57, 57)] [(47, 60)] [(1, 8)] [(4, 4)]
def mgh18317 : aw_H := [(81, mgx18316)]
def mgx18318 : aw_A := ms_o [(0, 8)] [(0, 4)] ar_t32 ar_t32 [(0, 180)] [(58, 58)] [(47, 60)] [(1, 8)] [(4, 4)]
def mgh18319 : aw_H := [(81, mgx18318)]
def mgx18320 : aw_A := ms_o [(0, 8)] [(0, 4)] ar_t32 ar_t32 [(0, 180)] [(59, 59)] [(47, 60)] [(1, 8)] [(4, 4)]
def mgh18321 : aw_H := [(81, mgx18320)]
def mgx18322 : aw_A := ms_o [(0, 8)] [(0, 4)] ar_t32 ar_t32 [(0, 180)] [(60, 60)] [(47, 60)] [(1, 8)] [(4, 4)]
def mgh18323 : aw_H := [(81, mgx18322)]
/-- MiceRegistersModel.skip -/
def mgh18324 : aw_H := [(81, mgx18293), (90, .inr (.inl (0, 240, [], [])))]
def mgc6261 : ak_C := (122, [.inl 81], mgh18324, [81], [([], none, mgh18297), ([], none, mgh18299), ([], none, mgh18301), ([], none, mgh18303), ([], none, mgh18305), ([], none, mgh18307), ([], none, mgh18309), ([], none, mgh18311), ([], none, mgh18313), ([], none, mgh18315), ([], none, mgh18317), ([], none, mgh18319), ([], none, mgh18321), ([], none, mgh18323)])
/-- MiceRegistersModel.readsLine -/
def mgx18325 : aw_A := ms_o [(0, 8)] [(0, 4)] ar_t32 ar_t32 [(0, 180)] [(47, 47)] [(48, 60)] [(1, 8)] [(4, 4)]
def mgh18326 : aw_H := [(81, mgx18325)]
def mgc6226 : ak_C := (124, [.inl 81], mgh18326, [], [([], some (.inr (false, [(0, 0)])), [])])
theorem mgk6226 : ai_chk [] mgc6226 (fun pc => sm_ch sm_t124 pc, sm_Kn 3 3 none, fun x => sm_lk sm_ca3 x, some .boolean) [] 3 0 [] [] 2000 [] = true := by decide +kernel
/-- MiceRegistersModel.readsMouse -/
def mgh18327 : aw_H := [(81, mgx18325), (90, .inr (.inl (0, 240, [], [])))]
def mgc6227 : ak_C := (127, [.inl 81], mgh18327, [], [([], some (.inr (false, [(0, 0)])), [])])
theorem mgk6227 : ai_chk [mgc32, mgc147] mgc6227 (fun pc => sm_ch sm_t127 pc, sm_Kn 3 5 none, fun x => sm_lk sm_ca3 x, some .boolean) [] 5 0 [] [] 2000 [] = true := by decide +kernel
/-- MiceRegistersModel.readsLine -/
def mgx18328 : aw_A := ms_o [(0, 8)] [(0, 4)] ar_t32 ar_t32 [(0, 180)] [(50, 50)] [(51, 60)] [(1, 8)] [(1, 1)]
def mgh18329 : aw_H := [(81, mgx18328)]
def mgc5810 : ak_C := (124, [.inl 81], mgh18329, [], [([], some (.inr (false, [(0, 0)])), [])])
theorem mgk5810 : ai_chk [] mgc5810 (fun pc => sm_ch sm_t124 pc, sm_Kn 3 3 none, fun x => sm_lk sm_ca3 x, some .boolean) [] 3 0 [] [] 2000 [] = true := by decide +kernel
/-- MiceRegistersModel.figure -/
def mgc5811 : ak_C := (125, [.inl 81, .inr (false, [(0, 0)]), .inr (false, [(0, 7)])], mgh17604, [81], [([], some (.inr (false, [(-9, -9)])), mgh17585), ([], some (.inr (false, [(0, 7)])), mgh17489)])
/-- MiceRegistersModel.figure -/
def mgc5812 : ak_C := (125, [.inl 81, .inr (false, [(1, 1)]), .inr (false, [(9, 9)])], mgh17506, [81], [([], some (.inr (false, [(-9, -9)])), mgh17489), ([], some (.inr (false, [(1, 9)])), mgh17739)])
def mgh18330 : aw_H := [(81, mgx18328), (94, mgx4449)]
def mgx18331 : aw_A := ms_o [(0, 8)] [(0, 4)] ar_t32 ar_t32 [(0, 180)] [(53, 53)] [(53, 60)] [(1, 8)] [(2, 2)]
def mgh18332 : aw_H := [(81, mgx18331), (94, mgx6150)]
/-- MiceRegistersModel.readsMouse -/
def mgh18333 : aw_H := [(81, mgx18328), (90, .inr (.inl (0, 240, [], []))), (94, mgx4449)]
def mgc5813 : ak_C := (127, [.inl 81], mgh18333, [81, 94], [([], some (.inr (false, [(0, 0)])), mgh18330), ([], some (.inr (false, [(1, 1)])), mgh18332), ([], some (.inr (false, [(0, 0)])), mgh17485), ([], some (.inr (false, [(0, 0)])), mgh17583)])
theorem mgk5813 : ai_chk [mgc29, mgc147, mgc5811, mgc5812] mgc5813 (fun pc => sm_ch sm_t127 pc, sm_Kn 3 5 none, fun x => sm_lk sm_ca3 x, some .boolean) [81, 94] 5 0 [] [] 2000 [] = true := by decide +kernel
def mgh18334 : aw_H := [(81, mgx18331)]
def mgx18335 : aw_A := ms_o [(0, 8)] [(0, 4)] ar_t32 ar_t32 [(0, 180)] [(54, 54)] [(53, 60)] [(1, 8)] [(2, 2)]
def mgh18336 : aw_H := [(81, mgx18335)]
def mgx18337 : aw_A := ms_o [(0, 8)] [(0, 4)] ar_t32 ar_t32 [(0, 180)] [(55, 55)] [(53, 60)] [(1, 8)] [(2, 2)]
def mgh18338 : aw_H := [(81, mgx18337)]
def mgx18339 : aw_A := ms_o [(0, 8)] [(0, 4)] ar_t32 ar_t32 [(0, 180)] [(56, 56)] [(53, 60)] [(1, 8)] [(2, 2)]
def mgh18340 : aw_H := [(81, mgx18339)]
def mgx18341 : aw_A := ms_o [(0, 8)] [(0, 4)] ar_t32 ar_t32 [(0, 180)] [(57, 57)] [(53, 60)] [(1, 8)] [(2, 2)]
def mgh18342 : aw_H := [(81, mgx18341)]
def mgx18343 : aw_A := ms_o [(0, 8)] [(0, 4)] ar_t32 ar_t32 [(0, 180)] [(58, 58)] [(53, 60)] [(1, 8)] [(2, 2)]
def mgh18344 : aw_H := [(81, mgx18343)]
def mgx18345 : aw_A := ms_o [(0, 8)] [(0, 4)] ar_t32 ar_t32 [(0, 180)] [(59, 59)] [(53, 60)] [(1, 8)] [(2, 2)]
def mgh18346 : aw_H := [(81, mgx18345)]
def mgx18347 : aw_A := ms_o [(0, 8)] [(0, 4)] ar_t32 ar_t32 [(0, 180)] [(60, 60)] [(53, 60)] [(1, 8)] [(2, 2)]
def mgh18348 : aw_H := [(81, mgx18347)]
/-- MiceRegistersModel.skip -/
def mgh18349 : aw_H := [(81, mgx18331), (90, .inr (.inl (0, 240, [], [])))]
def mgc6289 : ak_C := (122, [.inl 81], mgh18349, [81], [([], none, mgh18334), ([], none, mgh18336), ([], none, mgh18338), ([], none, mgh18340), ([], none, mgh18342), ([], none, mgh18344), ([], none, mgh18346), ([], none, mgh18348)])
/-- MiceRegistersModel.readsLine -/
def mgx18350 : aw_A := ms_o [(0, 8)] [(0, 4)] ar_t32 ar_t32 [(0, 180)] [(49, 49)] [(50, 60)] [(1, 8)] [(1, 1)]
def mgh18351 : aw_H := [(81, mgx18350)]
def mgc5806 : ak_C := (124, [.inl 81], mgh18351, [], [([], some (.inr (false, [(0, 0)])), [])])
theorem mgk5806 : ai_chk [] mgc5806 (fun pc => sm_ch sm_t124 pc, sm_Kn 3 3 none, fun x => sm_lk sm_ca3 x, some .boolean) [] 3 0 [] [] 2000 [] = true := by decide +kernel
/-- MiceRegistersModel.figure -/
def mgc5807 : ak_C := (125, [.inl 81, .inr (false, [(0, 0)]), .inr (false, [(0, 7)])], mgh17575, [81], [([], some (.inr (false, [(-9, -9)])), mgh17554), ([], some (.inr (false, [(0, 7)])), mgh17585)])
/-- MiceRegistersModel.figure -/
def mgc5808 : ak_C := (125, [.inl 81, .inr (false, [(1, 1)]), .inr (false, [(9, 9)])], mgh17604, [81], [([], some (.inr (false, [(-9, -9)])), mgh17585), ([], some (.inr (false, [(1, 9)])), mgh17489)])
def mgh18352 : aw_H := [(81, mgx18350), (94, mgx4449)]
def mgx18353 : aw_A := ms_o [(0, 8)] [(0, 4)] ar_t32 ar_t32 [(0, 180)] [(52, 52)] [(52, 60)] [(1, 8)] [(2, 2)]
def mgh18354 : aw_H := [(81, mgx18353), (94, mgx6150)]
/-- MiceRegistersModel.readsMouse -/
def mgh18355 : aw_H := [(81, mgx18350), (90, .inr (.inl (0, 240, [], []))), (94, mgx4449)]
def mgc5809 : ak_C := (127, [.inl 81], mgh18355, [81, 94], [([], some (.inr (false, [(0, 0)])), mgh18352), ([], some (.inr (false, [(1, 1)])), mgh18354), ([], some (.inr (false, [(0, 0)])), mgh17583), ([], some (.inr (false, [(0, 0)])), mgh17532)])
theorem mgk5809 : ai_chk [mgc30, mgc147, mgc5807, mgc5808] mgc5809 (fun pc => sm_ch sm_t127 pc, sm_Kn 3 5 none, fun x => sm_lk sm_ca3 x, some .boolean) [81, 94] 5 0 [] [] 2000 [] = true := by decide +kernel
def mgh18356 : aw_H := [(81, mgx18353)]
def mgx18357 : aw_A := ms_o [(0, 8)] [(0, 4)] ar_t32 ar_t32 [(0, 180)] [(53, 53)] [(52, 60)] [(1, 8)] [(2, 2)]
def mgh18358 : aw_H := [(81, mgx18357)]
def mgx18359 : aw_A := ms_o [(0, 8)] [(0, 4)] ar_t32 ar_t32 [(0, 180)] [(54, 54)] [(52, 60)] [(1, 8)] [(2, 2)]
def mgh18360 : aw_H := [(81, mgx18359)]
def mgx18361 : aw_A := ms_o [(0, 8)] [(0, 4)] ar_t32 ar_t32 [(0, 180)] [(55, 55)] [(52, 60)] [(1, 8)] [(2, 2)]
def mgh18362 : aw_H := [(81, mgx18361)]
def mgx18363 : aw_A := ms_o [(0, 8)] [(0, 4)] ar_t32 ar_t32 [(0, 180)] [(56, 56)] [(52, 60)] [(1, 8)] [(2, 2)]
def mgh18364 : aw_H := [(81, mgx18363)]
def mgx18365 : aw_A := ms_o [(0, 8)] [(0, 4)] ar_t32 ar_t32 [(0, 180)] [(57, 57)] [(52, 60)] [(1, 8)] [(2, 2)]
def mgh18366 : aw_H := [(81, mgx18365)]
def mgx18367 : aw_A := ms_o [(0, 8)] [(0, 4)] ar_t32 ar_t32 [(0, 180)] [(58, 58)] [(52, 60)] [(1, 8)] [(2, 2)]
def mgh18368 : aw_H := [(81, mgx18367)]
def mgx18369 : aw_A := ms_o [(0, 8)] [(0, 4)] ar_t32 ar_t32 [(0, 180)] [(59, 59)] [(52, 60)] [(1, 8)] [(2, 2)]
def mgh18370 : aw_H := [(81, mgx18369)]
def mgx18371 : aw_A := ms_o [(0, 8)] [(0, 4)] ar_t32 ar_t32 [(0, 180)] [(60, 60)] [(52, 60)] [(1, 8)] [(2, 2)]
def mgh18372 : aw_H := [(81, mgx18371)]
/-- MiceRegistersModel.skip -/
def mgh18373 : aw_H := [(81, mgx18353), (90, .inr (.inl (0, 240, [], [])))]
def mgc6284 : ak_C := (122, [.inl 81], mgh18373, [81], [([], none, mgh18356), ([], none, mgh18358), ([], none, mgh18360), ([], none, mgh18362), ([], none, mgh18364), ([], none, mgh18366), ([], none, mgh18368), ([], none, mgh18370), ([], none, mgh18372)])
/-- MiceRegistersModel.readsLine -/
def mgx18374 : aw_A := ms_o [(0, 8)] [(0, 4)] ar_t32 ar_t32 [(0, 180)] [(41, 41)] [(42, 60)] [(1, 8)] [(1, 1)]
def mgh18375 : aw_H := [(81, mgx18374)]
def mgc5774 : ak_C := (124, [.inl 81], mgh18375, [], [([], some (.inr (false, [(0, 0)])), [])])
theorem mgk5774 : ai_chk [] mgc5774 (fun pc => sm_ch sm_t124 pc, sm_Kn 3 3 none, fun x => sm_lk sm_ca3 x, some .boolean) [] 3 0 [] [] 2000 [] = true := by decide +kernel
/-- MiceRegistersModel.figure -/
def mgc5775 : ak_C := (125, [.inl 81, .inr (false, [(0, 0)]), .inr (false, [(0, 7)])], mgh17086, [81], [([], some (.inr (false, [(-9, -9)])), mgh17049), ([], some (.inr (false, [(0, 7)])), mgh17004)])
/-- MiceRegistersModel.figure -/
def mgc5776 : ak_C := (125, [.inl 81, .inr (false, [(1, 1)]), .inr (false, [(9, 9)])], mgh17039, [81], [([], some (.inr (false, [(-9, -9)])), mgh17004), ([], some (.inr (false, [(1, 9)])), mgh17289)])
def mgh18376 : aw_H := [(81, mgx18374), (94, mgx4449)]
def mgh18377 : aw_H := [(81, mgx18249), (94, mgx6150)]
/-- MiceRegistersModel.readsMouse -/
def mgh18378 : aw_H := [(81, mgx18374), (90, .inr (.inl (0, 240, [], []))), (94, mgx4449)]
def mgc5777 : ak_C := (127, [.inl 81], mgh18378, [81, 94], [([], some (.inr (false, [(0, 0)])), mgh18376), ([], some (.inr (false, [(1, 1)])), mgh18377), ([], some (.inr (false, [(0, 0)])), mgh16966), ([], some (.inr (false, [(0, 0)])), mgh17047)])
theorem mgk5777 : ai_chk [mgc38, mgc147, mgc5775, mgc5776] mgc5777 (fun pc => sm_ch sm_t127 pc, sm_Kn 3 5 none, fun x => sm_lk sm_ca3 x, some .boolean) [81, 94] 5 0 [] [] 2000 [] = true := by decide +kernel
def mgx18379 : aw_A := ms_o [(0, 8)] [(0, 4)] ar_t32 ar_t32 [(0, 180)] [(45, 45)] [(44, 60)] [(1, 8)] [(2, 2)]
def mgh18380 : aw_H := [(81, mgx18379)]
def mgx18381 : aw_A := ms_o [(0, 8)] [(0, 4)] ar_t32 ar_t32 [(0, 180)] [(46, 46)] [(44, 60)] [(1, 8)] [(2, 2)]
def mgh18382 : aw_H := [(81, mgx18381)]
def mgx18383 : aw_A := ms_o [(0, 8)] [(0, 4)] ar_t32 ar_t32 [(0, 180)] [(47, 47)] [(44, 60)] [(1, 8)] [(2, 2)]
def mgh18384 : aw_H := [(81, mgx18383)]
def mgx18385 : aw_A := ms_o [(0, 8)] [(0, 4)] ar_t32 ar_t32 [(0, 180)] [(48, 48)] [(44, 60)] [(1, 8)] [(2, 2)]
def mgh18386 : aw_H := [(81, mgx18385)]
def mgx18387 : aw_A := ms_o [(0, 8)] [(0, 4)] ar_t32 ar_t32 [(0, 180)] [(49, 49)] [(44, 60)] [(1, 8)] [(2, 2)]
def mgh18388 : aw_H := [(81, mgx18387)]
def mgx18389 : aw_A := ms_o [(0, 8)] [(0, 4)] ar_t32 ar_t32 [(0, 180)] [(50, 50)] [(44, 60)] [(1, 8)] [(2, 2)]
def mgh18390 : aw_H := [(81, mgx18389)]
def mgx18391 : aw_A := ms_o [(0, 8)] [(0, 4)] ar_t32 ar_t32 [(0, 180)] [(51, 51)] [(44, 60)] [(1, 8)] [(2, 2)]
def mgh18392 : aw_H := [(81, mgx18391)]
def mgx18393 : aw_A := ms_o [(0, 8)] [(0, 4)] ar_t32 ar_t32 [(0, 180)] [(52, 52)] [(44, 60)] [(1, 8)] [(2, 2)]
def mgh18394 : aw_H := [(81, mgx18393)]
def mgx18395 : aw_A := ms_o [(0, 8)] [(0, 4)] ar_t32 ar_t32 [(0, 180)] [(53, 53)] [(44, 60)] [(1, 8)] [(2, 2)]
def mgh18396 : aw_H := [(81, mgx18395)]
def mgx18397 : aw_A := ms_o [(0, 8)] [(0, 4)] ar_t32 ar_t32 [(0, 180)] [(54, 54)] [(44, 60)] [(1, 8)] [(2, 2)]
def mgh18398 : aw_H := [(81, mgx18397)]
def mgx18399 : aw_A := ms_o [(0, 8)] [(0, 4)] ar_t32 ar_t32 [(0, 180)] [(55, 55)] [(44, 60)] [(1, 8)] [(2, 2)]
def mgh18400 : aw_H := [(81, mgx18399)]
def mgx18401 : aw_A := ms_o [(0, 8)] [(0, 4)] ar_t32 ar_t32 [(0, 180)] [(56, 56)] [(44, 60)] [(1, 8)] [(2, 2)]
def mgh18402 : aw_H := [(81, mgx18401)]
def mgx18403 : aw_A := ms_o [(0, 8)] [(0, 4)] ar_t32 ar_t32 [(0, 180)] [(57, 57)] [(44, 60)] [(1, 8)] [(2, 2)]
def mgh18404 : aw_H := [(81, mgx18403)]
def mgx18405 : aw_A := ms_o [(0, 8)] [(0, 4)] ar_t32 ar_t32 [(0, 180)] [(58, 58)] [(44, 60)] [(1, 8)] [(2, 2)]
def mgh18406 : aw_H := [(81, mgx18405)]
def mgx18407 : aw_A := ms_o [(0, 8)] [(0, 4)] ar_t32 ar_t32 [(0, 180)] [(59, 59)] [(44, 60)] [(1, 8)] [(2, 2)]
def mgh18408 : aw_H := [(81, mgx18407)]
def mgx18409 : aw_A := ms_o [(0, 8)] [(0, 4)] ar_t32 ar_t32 [(0, 180)] [(60, 60)] [(44, 60)] [(1, 8)] [(2, 2)]
def mgh18410 : aw_H := [(81, mgx18409)]
/-- MiceRegistersModel.skip -/
def mgh18411 : aw_H := [(81, mgx18249), (90, .inr (.inl (0, 240, [], [])))]
def mgc6214 : ak_C := (122, [.inl 81], mgh18411, [81], [([], none, mgh18250), ([], none, mgh18380), ([], none, mgh18382), ([], none, mgh18384), ([], none, mgh18386), ([], none, mgh18388), ([], none, mgh18390), ([], none, mgh18392), ([], none, mgh18394), ([], none, mgh18396), ([], none, mgh18398), ([], none, mgh18400), ([], none, mgh18402), ([], none, mgh18404), ([], none, mgh18406), ([], none, mgh18408), ([], none, mgh18410)])
/-- MiceRegistersModel.readsLine -/
def mgx18412 : aw_A := ms_o [(0, 8)] [(0, 4)] ar_t32 ar_t32 [(0, 180)] [(53, 53)] [(54, 60)] [(1, 8)] [(1, 1)]
def mgh18413 : aw_H := [(81, mgx18412)]
def mgc5822 : ak_C := (124, [.inl 81], mgh18413, [], [([], some (.inr (false, [(0, 0)])), [])])
theorem mgk5822 : ai_chk [] mgc5822 (fun pc => sm_ch sm_t124 pc, sm_Kn 3 3 none, fun x => sm_lk sm_ca3 x, some .boolean) [] 3 0 [] [] 2000 [] = true := by decide +kernel
/-- MiceRegistersModel.figure -/
def mgc5823 : ak_C := (125, [.inl 81, .inr (false, [(0, 0)]), .inr (false, [(0, 7)])], mgh17881, [81], [([], some (.inr (false, [(-9, -9)])), mgh17868), ([], some (.inr (false, [(0, 7)])), mgh17807)])
/-- MiceRegistersModel.figure -/
def mgc5824 : ak_C := (125, [.inl 81, .inr (false, [(1, 1)]), .inr (false, [(9, 9)])], mgh17818, [81], [([], some (.inr (false, [(-9, -9)])), mgh17807), ([], some (.inr (false, [(1, 9)])), mgh17709)])
def mgh18414 : aw_H := [(81, mgx18412), (94, mgx4449)]
def mgx18415 : aw_A := ms_o [(0, 8)] [(0, 4)] ar_t32 ar_t32 [(0, 180)] [(56, 56)] [(56, 60)] [(1, 8)] [(2, 2)]
def mgh18416 : aw_H := [(81, mgx18415), (94, mgx6150)]
/-- MiceRegistersModel.readsMouse -/
def mgh18417 : aw_H := [(81, mgx18412), (90, .inr (.inl (0, 240, [], []))), (94, mgx4449)]
def mgc5825 : ak_C := (127, [.inl 81], mgh18417, [81, 94], [([], some (.inr (false, [(0, 0)])), mgh18414), ([], some (.inr (false, [(1, 1)])), mgh18416), ([], some (.inr (false, [(0, 0)])), mgh17804), ([], some (.inr (false, [(0, 0)])), mgh17866)])
theorem mgk5825 : ai_chk [mgc26, mgc147, mgc5823, mgc5824] mgc5825 (fun pc => sm_ch sm_t127 pc, sm_Kn 3 5 none, fun x => sm_lk sm_ca3 x, some .boolean) [81, 94] 5 0 [] [] 2000 [] = true := by decide +kernel
def mgh18418 : aw_H := [(81, mgx18415)]
def mgx18419 : aw_A := ms_o [(0, 8)] [(0, 4)] ar_t32 ar_t32 [(0, 180)] [(57, 57)] [(56, 60)] [(1, 8)] [(2, 2)]
def mgh18420 : aw_H := [(81, mgx18419)]
def mgx18421 : aw_A := ms_o [(0, 8)] [(0, 4)] ar_t32 ar_t32 [(0, 180)] [(58, 58)] [(56, 60)] [(1, 8)] [(2, 2)]
def mgh18422 : aw_H := [(81, mgx18421)]
def mgx18423 : aw_A := ms_o [(0, 8)] [(0, 4)] ar_t32 ar_t32 [(0, 180)] [(59, 59)] [(56, 60)] [(1, 8)] [(2, 2)]
def mgh18424 : aw_H := [(81, mgx18423)]
def mgx18425 : aw_A := ms_o [(0, 8)] [(0, 4)] ar_t32 ar_t32 [(0, 180)] [(60, 60)] [(56, 60)] [(1, 8)] [(2, 2)]
def mgh18426 : aw_H := [(81, mgx18425)]
/-- MiceRegistersModel.skip -/
def mgh18427 : aw_H := [(81, mgx18415), (90, .inr (.inl (0, 240, [], [])))]
def mgc6304 : ak_C := (122, [.inl 81], mgh18427, [81], [([], none, mgh18418), ([], none, mgh18420), ([], none, mgh18422), ([], none, mgh18424), ([], none, mgh18426)])
/-- MiceRegistersModel.readsLine -/
def mgx18428 : aw_A := ms_o [(0, 8)] [(0, 4)] ar_t32 ar_t32 [(0, 180)] [(48, 48)] [(49, 60)] [(1, 8)] [(1, 1)]
def mgh18429 : aw_H := [(81, mgx18428)]
def mgc5802 : ak_C := (124, [.inl 81], mgh18429, [], [([], some (.inr (false, [(0, 0)])), [])])
theorem mgk5802 : ai_chk [] mgc5802 (fun pc => sm_ch sm_t124 pc, sm_Kn 3 3 none, fun x => sm_lk sm_ca3 x, some .boolean) [] 3 0 [] [] 2000 [] = true := by decide +kernel
/-- MiceRegistersModel.figure -/
def mgc5803 : ak_C := (125, [.inl 81, .inr (false, [(0, 0)]), .inr (false, [(0, 7)])], mgh17654, [81], [([], some (.inr (false, [(-9, -9)])), mgh17631), ([], some (.inr (false, [(0, 7)])), mgh17554)])
/-- MiceRegistersModel.figure -/
def mgc5804 : ak_C := (125, [.inl 81, .inr (false, [(1, 1)]), .inr (false, [(9, 9)])], mgh17575, [81], [([], some (.inr (false, [(-9, -9)])), mgh17554), ([], some (.inr (false, [(1, 9)])), mgh17585)])
def mgh18430 : aw_H := [(81, mgx18428), (94, mgx4449)]
def mgx18431 : aw_A := ms_o [(0, 8)] [(0, 4)] ar_t32 ar_t32 [(0, 180)] [(51, 51)] [(51, 60)] [(1, 8)] [(2, 2)]
def mgh18432 : aw_H := [(81, mgx18431), (94, mgx6150)]
/-- MiceRegistersModel.readsMouse -/
def mgh18433 : aw_H := [(81, mgx18428), (90, .inr (.inl (0, 240, [], []))), (94, mgx4449)]
def mgc5805 : ak_C := (127, [.inl 81], mgh18433, [81, 94], [([], some (.inr (false, [(0, 0)])), mgh18430), ([], some (.inr (false, [(1, 1)])), mgh18432), ([], some (.inr (false, [(0, 0)])), mgh17532), ([], some (.inr (false, [(0, 0)])), mgh17629)])
theorem mgk5805 : ai_chk [mgc31, mgc147, mgc5803, mgc5804] mgc5805 (fun pc => sm_ch sm_t127 pc, sm_Kn 3 5 none, fun x => sm_lk sm_ca3 x, some .boolean) [81, 94] 5 0 [] [] 2000 [] = true := by decide +kernel
def mgh18434 : aw_H := [(81, mgx18431)]
def mgx18435 : aw_A := ms_o [(0, 8)] [(0, 4)] ar_t32 ar_t32 [(0, 180)] [(52, 52)] [(51, 60)] [(1, 8)] [(2, 2)]
def mgh18436 : aw_H := [(81, mgx18435)]
def mgx18437 : aw_A := ms_o [(0, 8)] [(0, 4)] ar_t32 ar_t32 [(0, 180)] [(53, 53)] [(51, 60)] [(1, 8)] [(2, 2)]
def mgh18438 : aw_H := [(81, mgx18437)]
def mgx18439 : aw_A := ms_o [(0, 8)] [(0, 4)] ar_t32 ar_t32 [(0, 180)] [(54, 54)] [(51, 60)] [(1, 8)] [(2, 2)]
def mgh18440 : aw_H := [(81, mgx18439)]
def mgx18441 : aw_A := ms_o [(0, 8)] [(0, 4)] ar_t32 ar_t32 [(0, 180)] [(55, 55)] [(51, 60)] [(1, 8)] [(2, 2)]
def mgh18442 : aw_H := [(81, mgx18441)]
def mgx18443 : aw_A := ms_o [(0, 8)] [(0, 4)] ar_t32 ar_t32 [(0, 180)] [(56, 56)] [(51, 60)] [(1, 8)] [(2, 2)]
def mgh18444 : aw_H := [(81, mgx18443)]
def mgx18445 : aw_A := ms_o [(0, 8)] [(0, 4)] ar_t32 ar_t32 [(0, 180)] [(57, 57)] [(51, 60)] [(1, 8)] [(2, 2)]
def mgh18446 : aw_H := [(81, mgx18445)]
def mgx18447 : aw_A := ms_o [(0, 8)] [(0, 4)] ar_t32 ar_t32 [(0, 180)] [(58, 58)] [(51, 60)] [(1, 8)] [(2, 2)]
def mgh18448 : aw_H := [(81, mgx18447)]
def mgx18449 : aw_A := ms_o [(0, 8)] [(0, 4)] ar_t32 ar_t32 [(0, 180)] [(59, 59)] [(51, 60)] [(1, 8)] [(2, 2)]
def mgh18450 : aw_H := [(81, mgx18449)]
def mgx18451 : aw_A := ms_o [(0, 8)] [(0, 4)] ar_t32 ar_t32 [(0, 180)] [(60, 60)] [(51, 60)] [(1, 8)] [(2, 2)]
def mgh18452 : aw_H := [(81, mgx18451)]
/-- MiceRegistersModel.skip -/
def mgh18453 : aw_H := [(81, mgx18431), (90, .inr (.inl (0, 240, [], [])))]
def mgc6279 : ak_C := (122, [.inl 81], mgh18453, [81], [([], none, mgh18434), ([], none, mgh18436), ([], none, mgh18438), ([], none, mgh18440), ([], none, mgh18442), ([], none, mgh18444), ([], none, mgh18446), ([], none, mgh18448), ([], none, mgh18450), ([], none, mgh18452)])
/-- MiceRegistersModel.readsLine -/
def mgx18454 : aw_A := ms_o [(0, 8)] [(0, 4)] ar_t32 ar_t32 [(0, 180)] [(43, 43)] [(44, 60)] [(1, 8)] [(1, 1)]
def mgh18455 : aw_H := [(81, mgx18454)]
def mgc5782 : ak_C := (124, [.inl 81], mgh18455, [], [([], some (.inr (false, [(0, 0)])), [])])
theorem mgk5782 : ai_chk [] mgc5782 (fun pc => sm_ch sm_t124 pc, sm_Kn 3 3 none, fun x => sm_lk sm_ca3 x, some .boolean) [] 3 0 [] [] 2000 [] = true := by decide +kernel
/-- MiceRegistersModel.figure -/
def mgc5783 : ak_C := (125, [.inl 81, .inr (false, [(0, 0)]), .inr (false, [(0, 7)])], mgh17322, [81], [([], some (.inr (false, [(-9, -9)])), mgh17289), ([], some (.inr (false, [(0, 7)])), mgh17827)])
/-- MiceRegistersModel.figure -/
def mgc5784 : ak_C := (125, [.inl 81, .inr (false, [(1, 1)]), .inr (false, [(9, 9)])], mgh17858, [81], [([], some (.inr (false, [(-9, -9)])), mgh17827), ([], some (.inr (false, [(1, 9)])), mgh17222)])
def mgh18456 : aw_H := [(81, mgx18454), (94, mgx4449)]
def mgx18457 : aw_A := ms_o [(0, 8)] [(0, 4)] ar_t32 ar_t32 [(0, 180)] [(46, 46)] [(46, 60)] [(1, 8)] [(2, 2)]
def mgh18458 : aw_H := [(81, mgx18457), (94, mgx6150)]
/-- MiceRegistersModel.readsMouse -/
def mgh18459 : aw_H := [(81, mgx18454), (90, .inr (.inl (0, 240, [], []))), (94, mgx4449)]
def mgc5785 : ak_C := (127, [.inl 81], mgh18459, [81, 94], [([], some (.inr (false, [(0, 0)])), mgh18456), ([], some (.inr (false, [(1, 1)])), mgh18458), ([], some (.inr (false, [(0, 0)])), mgh17425), ([], some (.inr (false, [(0, 0)])), mgh17286)])
theorem mgk5785 : ai_chk [mgc36, mgc147, mgc5783, mgc5784] mgc5785 (fun pc => sm_ch sm_t127 pc, sm_Kn 3 5 none, fun x => sm_lk sm_ca3 x, some .boolean) [81, 94] 5 0 [] [] 2000 [] = true := by decide +kernel
def mgh18460 : aw_H := [(81, mgx18457)]
def mgx18461 : aw_A := ms_o [(0, 8)] [(0, 4)] ar_t32 ar_t32 [(0, 180)] [(47, 47)] [(46, 60)] [(1, 8)] [(2, 2)]
def mgh18462 : aw_H := [(81, mgx18461)]
def mgx18463 : aw_A := ms_o [(0, 8)] [(0, 4)] ar_t32 ar_t32 [(0, 180)] [(48, 48)] [(46, 60)] [(1, 8)] [(2, 2)]
def mgh18464 : aw_H := [(81, mgx18463)]
def mgx18465 : aw_A := ms_o [(0, 8)] [(0, 4)] ar_t32 ar_t32 [(0, 180)] [(49, 49)] [(46, 60)] [(1, 8)] [(2, 2)]
def mgh18466 : aw_H := [(81, mgx18465)]
def mgx18467 : aw_A := ms_o [(0, 8)] [(0, 4)] ar_t32 ar_t32 [(0, 180)] [(50, 50)] [(46, 60)] [(1, 8)] [(2, 2)]
def mgh18468 : aw_H := [(81, mgx18467)]
def mgx18469 : aw_A := ms_o [(0, 8)] [(0, 4)] ar_t32 ar_t32 [(0, 180)] [(51, 51)] [(46, 60)] [(1, 8)] [(2, 2)]
def mgh18470 : aw_H := [(81, mgx18469)]
def mgx18471 : aw_A := ms_o [(0, 8)] [(0, 4)] ar_t32 ar_t32 [(0, 180)] [(52, 52)] [(46, 60)] [(1, 8)] [(2, 2)]
def mgh18472 : aw_H := [(81, mgx18471)]
def mgx18473 : aw_A := ms_o [(0, 8)] [(0, 4)] ar_t32 ar_t32 [(0, 180)] [(53, 53)] [(46, 60)] [(1, 8)] [(2, 2)]
def mgh18474 : aw_H := [(81, mgx18473)]
def mgx18475 : aw_A := ms_o [(0, 8)] [(0, 4)] ar_t32 ar_t32 [(0, 180)] [(54, 54)] [(46, 60)] [(1, 8)] [(2, 2)]
def mgh18476 : aw_H := [(81, mgx18475)]
def mgx18477 : aw_A := ms_o [(0, 8)] [(0, 4)] ar_t32 ar_t32 [(0, 180)] [(55, 55)] [(46, 60)] [(1, 8)] [(2, 2)]
def mgh18478 : aw_H := [(81, mgx18477)]
def mgx18479 : aw_A := ms_o [(0, 8)] [(0, 4)] ar_t32 ar_t32 [(0, 180)] [(56, 56)] [(46, 60)] [(1, 8)] [(2, 2)]
def mgh18480 : aw_H := [(81, mgx18479)]
def mgx18481 : aw_A := ms_o [(0, 8)] [(0, 4)] ar_t32 ar_t32 [(0, 180)] [(57, 57)] [(46, 60)] [(1, 8)] [(2, 2)]
def mgh18482 : aw_H := [(81, mgx18481)]
def mgx18483 : aw_A := ms_o [(0, 8)] [(0, 4)] ar_t32 ar_t32 [(0, 180)] [(58, 58)] [(46, 60)] [(1, 8)] [(2, 2)]
def mgh18484 : aw_H := [(81, mgx18483)]
def mgx18485 : aw_A := ms_o [(0, 8)] [(0, 4)] ar_t32 ar_t32 [(0, 180)] [(59, 59)] [(46, 60)] [(1, 8)] [(2, 2)]
def mgh18486 : aw_H := [(81, mgx18485)]
def mgx18487 : aw_A := ms_o [(0, 8)] [(0, 4)] ar_t32 ar_t32 [(0, 180)] [(60, 60)] [(46, 60)] [(1, 8)] [(2, 2)]
def mgh18488 : aw_H := [(81, mgx18487)]
/-- MiceRegistersModel.skip -/
def mgh18489 : aw_H := [(81, mgx18457), (90, .inr (.inl (0, 240, [], [])))]
def mgc6254 : ak_C := (122, [.inl 81], mgh18489, [81], [([], none, mgh18460), ([], none, mgh18462), ([], none, mgh18464), ([], none, mgh18466), ([], none, mgh18468), ([], none, mgh18470), ([], none, mgh18472), ([], none, mgh18474), ([], none, mgh18476), ([], none, mgh18478), ([], none, mgh18480), ([], none, mgh18482), ([], none, mgh18484), ([], none, mgh18486), ([], none, mgh18488)])
/-- MiceRegistersModel.readsLine -/
def mgx18490 : aw_A := ms_o [(0, 8)] [(0, 4)] ar_t32 ar_t32 [(0, 180)] [(44, 44)] [(45, 60)] [(1, 8)] [(1, 1)]
def mgh18491 : aw_H := [(81, mgx18490)]
def mgc5786 : ak_C := (124, [.inl 81], mgh18491, [], [([], some (.inr (false, [(0, 0)])), [])])
theorem mgk5786 : ai_chk [] mgc5786 (fun pc => sm_ch sm_t124 pc, sm_Kn 3 3 none, fun x => sm_lk sm_ca3 x, some .boolean) [] 3 0 [] [] 2000 [] = true := by decide +kernel
/-- MiceRegistersModel.figure -/
def mgc5787 : ak_C := (125, [.inl 81, .inr (false, [(0, 0)]), .inr (false, [(0, 7)])], mgh17858, [81], [([], some (.inr (false, [(-9, -9)])), mgh17827), ([], some (.inr (false, [(0, 7)])), mgh17222)])
/-- MiceRegistersModel.figure -/
def mgc5788 : ak_C := (125, [.inl 81, .inr (false, [(1, 1)]), .inr (false, [(9, 9)])], mgh17251, [81], [([], some (.inr (false, [(-9, -9)])), mgh17222), ([], some (.inr (false, [(1, 9)])), mgh17156)])
def mgh18492 : aw_H := [(81, mgx18490), (94, mgx4449)]
def mgx18493 : aw_A := ms_o [(0, 8)] [(0, 4)] ar_t32 ar_t32 [(0, 180)] [(47, 47)] [(47, 60)] [(1, 8)] [(2, 2)]
def mgh18494 : aw_H := [(81, mgx18493), (94, mgx6150)]
/-- MiceRegistersModel.readsMouse -/
def mgh18495 : aw_H := [(81, mgx18490), (90, .inr (.inl (0, 240, [], []))), (94, mgx4449)]
def mgc5789 : ak_C := (127, [.inl 81], mgh18495, [81, 94], [([], some (.inr (false, [(0, 0)])), mgh18492), ([], some (.inr (false, [(1, 1)])), mgh18494), ([], some (.inr (false, [(0, 0)])), mgh17219), ([], some (.inr (false, [(0, 0)])), mgh17425)])
theorem mgk5789 : ai_chk [mgc35, mgc147, mgc5787, mgc5788] mgc5789 (fun pc => sm_ch sm_t127 pc, sm_Kn 3 5 none, fun x => sm_lk sm_ca3 x, some .boolean) [81, 94] 5 0 [] [] 2000 [] = true := by decide +kernel
def mgh18496 : aw_H := [(81, mgx18493)]
def mgx18497 : aw_A := ms_o [(0, 8)] [(0, 4)] ar_t32 ar_t32 [(0, 180)] [(48, 48)] [(47, 60)] [(1, 8)] [(2, 2)]
def mgh18498 : aw_H := [(81, mgx18497)]
def mgx18499 : aw_A := ms_o [(0, 8)] [(0, 4)] ar_t32 ar_t32 [(0, 180)] [(49, 49)] [(47, 60)] [(1, 8)] [(2, 2)]
def mgh18500 : aw_H := [(81, mgx18499)]
def mgx18501 : aw_A := ms_o [(0, 8)] [(0, 4)] ar_t32 ar_t32 [(0, 180)] [(50, 50)] [(47, 60)] [(1, 8)] [(2, 2)]
def mgh18502 : aw_H := [(81, mgx18501)]
def mgx18503 : aw_A := ms_o [(0, 8)] [(0, 4)] ar_t32 ar_t32 [(0, 180)] [(51, 51)] [(47, 60)] [(1, 8)] [(2, 2)]
def mgh18504 : aw_H := [(81, mgx18503)]
def mgx18505 : aw_A := ms_o [(0, 8)] [(0, 4)] ar_t32 ar_t32 [(0, 180)] [(52, 52)] [(47, 60)] [(1, 8)] [(2, 2)]
def mgh18506 : aw_H := [(81, mgx18505)]
def mgx18507 : aw_A := ms_o [(0, 8)] [(0, 4)] ar_t32 ar_t32 [(0, 180)] [(53, 53)] [(47, 60)] [(1, 8)] [(2, 2)]
def mgh18508 : aw_H := [(81, mgx18507)]
def mgx18509 : aw_A := ms_o [(0, 8)] [(0, 4)] ar_t32 ar_t32 [(0, 180)] [(54, 54)] [(47, 60)] [(1, 8)] [(2, 2)]
def mgh18510 : aw_H := [(81, mgx18509)]
def mgx18511 : aw_A := ms_o [(0, 8)] [(0, 4)] ar_t32 ar_t32 [(0, 180)] [(55, 55)] [(47, 60)] [(1, 8)] [(2, 2)]
def mgh18512 : aw_H := [(81, mgx18511)]
def mgx18513 : aw_A := ms_o [(0, 8)] [(0, 4)] ar_t32 ar_t32 [(0, 180)] [(56, 56)] [(47, 60)] [(1, 8)] [(2, 2)]
def mgh18514 : aw_H := [(81, mgx18513)]
def mgx18515 : aw_A := ms_o [(0, 8)] [(0, 4)] ar_t32 ar_t32 [(0, 180)] [(57, 57)] [(47, 60)] [(1, 8)] [(2, 2)]
def mgh18516 : aw_H := [(81, mgx18515)]
def mgx18517 : aw_A := ms_o [(0, 8)] [(0, 4)] ar_t32 ar_t32 [(0, 180)] [(58, 58)] [(47, 60)] [(1, 8)] [(2, 2)]
def mgh18518 : aw_H := [(81, mgx18517)]
def mgx18519 : aw_A := ms_o [(0, 8)] [(0, 4)] ar_t32 ar_t32 [(0, 180)] [(59, 59)] [(47, 60)] [(1, 8)] [(2, 2)]
def mgh18520 : aw_H := [(81, mgx18519)]
def mgx18521 : aw_A := ms_o [(0, 8)] [(0, 4)] ar_t32 ar_t32 [(0, 180)] [(60, 60)] [(47, 60)] [(1, 8)] [(2, 2)]
def mgh18522 : aw_H := [(81, mgx18521)]
/-- MiceRegistersModel.skip -/
def mgh18523 : aw_H := [(81, mgx18493), (90, .inr (.inl (0, 240, [], [])))]
def mgc6259 : ak_C := (122, [.inl 81], mgh18523, [81], [([], none, mgh18496), ([], none, mgh18498), ([], none, mgh18500), ([], none, mgh18502), ([], none, mgh18504), ([], none, mgh18506), ([], none, mgh18508), ([], none, mgh18510), ([], none, mgh18512), ([], none, mgh18514), ([], none, mgh18516), ([], none, mgh18518), ([], none, mgh18520), ([], none, mgh18522)])
/-- MiceRegistersModel.readsLine -/
def mgx18524 : aw_A := ms_o [(0, 8)] [(0, 4)] ar_t32 ar_t32 [(0, 180)] [(45, 45)] [(46, 60)] [(1, 8)] [(1, 1)]
def mgh18525 : aw_H := [(81, mgx18524)]
def mgc5790 : ak_C := (124, [.inl 81], mgh18525, [], [([], some (.inr (false, [(0, 0)])), [])])
theorem mgk5790 : ai_chk [] mgc5790 (fun pc => sm_ch sm_t124 pc, sm_Kn 3 3 none, fun x => sm_lk sm_ca3 x, some .boolean) [] 3 0 [] [] 2000 [] = true := by decide +kernel
/-- MiceRegistersModel.figure -/
def mgc5791 : ak_C := (125, [.inl 81, .inr (false, [(0, 0)]), .inr (false, [(0, 7)])], mgh17251, [81], [([], some (.inr (false, [(-9, -9)])), mgh17222), ([], some (.inr (false, [(0, 7)])), mgh17156)])
/-- MiceRegistersModel.figure -/
def mgc5792 : ak_C := (125, [.inl 81, .inr (false, [(1, 1)]), .inr (false, [(9, 9)])], mgh17183, [81], [([], some (.inr (false, [(-9, -9)])), mgh17156), ([], some (.inr (false, [(1, 9)])), mgh17392)])
def mgh18526 : aw_H := [(81, mgx18524), (94, mgx4449)]
def mgx18527 : aw_A := ms_o [(0, 8)] [(0, 4)] ar_t32 ar_t32 [(0, 180)] [(48, 48)] [(48, 60)] [(1, 8)] [(2, 2)]
def mgh18528 : aw_H := [(81, mgx18527), (94, mgx6150)]
/-- MiceRegistersModel.readsMouse -/
def mgh18529 : aw_H := [(81, mgx18524), (90, .inr (.inl (0, 240, [], []))), (94, mgx4449)]
def mgc5793 : ak_C := (127, [.inl 81], mgh18529, [81, 94], [([], some (.inr (false, [(0, 0)])), mgh18526), ([], some (.inr (false, [(1, 1)])), mgh18528), ([], some (.inr (false, [(0, 0)])), mgh17152), ([], some (.inr (false, [(0, 0)])), mgh17219)])
theorem mgk5793 : ai_chk [mgc34, mgc147, mgc5791, mgc5792] mgc5793 (fun pc => sm_ch sm_t127 pc, sm_Kn 3 5 none, fun x => sm_lk sm_ca3 x, some .boolean) [81, 94] 5 0 [] [] 2000 [] = true := by decide +kernel
def mgh18530 : aw_H := [(81, mgx18527)]
def mgx18531 : aw_A := ms_o [(0, 8)] [(0, 4)] ar_t32 ar_t32 [(0, 180)] [(49, 49)] [(48, 60)] [(1, 8)] [(2, 2)]
def mgh18532 : aw_H := [(81, mgx18531)]
def mgx18533 : aw_A := ms_o [(0, 8)] [(0, 4)] ar_t32 ar_t32 [(0, 180)] [(50, 50)] [(48, 60)] [(1, 8)] [(2, 2)]
def mgh18534 : aw_H := [(81, mgx18533)]
def mgx18535 : aw_A := ms_o [(0, 8)] [(0, 4)] ar_t32 ar_t32 [(0, 180)] [(51, 51)] [(48, 60)] [(1, 8)] [(2, 2)]
def mgh18536 : aw_H := [(81, mgx18535)]
def mgx18537 : aw_A := ms_o [(0, 8)] [(0, 4)] ar_t32 ar_t32 [(0, 180)] [(52, 52)] [(48, 60)] [(1, 8)] [(2, 2)]
def mgh18538 : aw_H := [(81, mgx18537)]
def mgx18539 : aw_A := ms_o [(0, 8)] [(0, 4)] ar_t32 ar_t32 [(0, 180)] [(53, 53)] [(48, 60)] [(1, 8)] [(2, 2)]
def mgh18540 : aw_H := [(81, mgx18539)]
def mgx18541 : aw_A := ms_o [(0, 8)] [(0, 4)] ar_t32 ar_t32 [(0, 180)] [(54, 54)] [(48, 60)] [(1, 8)] [(2, 2)]
def mgh18542 : aw_H := [(81, mgx18541)]
def mgx18543 : aw_A := ms_o [(0, 8)] [(0, 4)] ar_t32 ar_t32 [(0, 180)] [(55, 55)] [(48, 60)] [(1, 8)] [(2, 2)]
def mgh18544 : aw_H := [(81, mgx18543)]
def mgx18545 : aw_A := ms_o [(0, 8)] [(0, 4)] ar_t32 ar_t32 [(0, 180)] [(56, 56)] [(48, 60)] [(1, 8)] [(2, 2)]
def mgh18546 : aw_H := [(81, mgx18545)]
def mgx18547 : aw_A := ms_o [(0, 8)] [(0, 4)] ar_t32 ar_t32 [(0, 180)] [(57, 57)] [(48, 60)] [(1, 8)] [(2, 2)]
def mgh18548 : aw_H := [(81, mgx18547)]
def mgx18549 : aw_A := ms_o [(0, 8)] [(0, 4)] ar_t32 ar_t32 [(0, 180)] [(58, 58)] [(48, 60)] [(1, 8)] [(2, 2)]
def mgh18550 : aw_H := [(81, mgx18549)]
def mgx18551 : aw_A := ms_o [(0, 8)] [(0, 4)] ar_t32 ar_t32 [(0, 180)] [(59, 59)] [(48, 60)] [(1, 8)] [(2, 2)]
def mgh18552 : aw_H := [(81, mgx18551)]
def mgx18553 : aw_A := ms_o [(0, 8)] [(0, 4)] ar_t32 ar_t32 [(0, 180)] [(60, 60)] [(48, 60)] [(1, 8)] [(2, 2)]
def mgh18554 : aw_H := [(81, mgx18553)]
/-- MiceRegistersModel.skip -/
def mgh18555 : aw_H := [(81, mgx18527), (90, .inr (.inl (0, 240, [], [])))]
def mgc6264 : ak_C := (122, [.inl 81], mgh18555, [81], [([], none, mgh18530), ([], none, mgh18532), ([], none, mgh18534), ([], none, mgh18536), ([], none, mgh18538), ([], none, mgh18540), ([], none, mgh18542), ([], none, mgh18544), ([], none, mgh18546), ([], none, mgh18548), ([], none, mgh18550), ([], none, mgh18552), ([], none, mgh18554)])
/-- MiceRegistersModel.readsLine -/
def mgx18556 : aw_A := ms_o [(0, 8)] [(0, 4)] ar_t32 ar_t32 [(0, 180)] [(57, 57)] [(58, 60)] [(1, 8)] [(1, 1)]
def mgh18557 : aw_H := [(81, mgx18556)]
def mgc5838 : ak_C := (124, [.inl 81], mgh18557, [], [([], some (.inr (false, [(0, 0)])), [])])
theorem mgk5838 : ai_chk [] mgc5838 (fun pc => sm_ch sm_t124 pc, sm_Kn 3 3 none, fun x => sm_lk sm_ca3 x, some .boolean) [] 3 0 [] [] 2000 [] = true := by decide +kernel
/-- MiceRegistersModel.figure -/
def mgc5839 : ak_C := (125, [.inl 81, .inr (false, [(0, 0)]), .inr (false, [(0, 7)])], mgh17959, [81], [([], some (.inr (false, [(-9, -9)])), mgh17954), ([], some (.inr (false, [(0, 7)])), mgh17928)])
/-- MiceRegistersModel.figure -/
def mgc5840 : ak_C := (125, [.inl 81, .inr (false, [(1, 1)]), .inr (false, [(9, 9)])], mgh17931, [81], [([], some (.inr (false, [(-9, -9)])), mgh17928), ([], some (.inr (false, [(1, 9)])), mgh17914)])
def mgh18558 : aw_H := [(81, mgx18556), (94, mgx4449)]
def mgx18559 : aw_A := ms_o [(0, 8)] [(0, 4)] ar_t32 ar_t32 [(0, 180)] [(60, 60)] [(60, 60)] [(1, 8)] [(2, 2)]
def mgh18560 : aw_H := [(81, mgx18559), (94, mgx6150)]
/-- MiceRegistersModel.readsMouse -/
def mgh18561 : aw_H := [(81, mgx18556), (90, .inr (.inl (0, 240, [], []))), (94, mgx4449)]
def mgc5841 : ak_C := (127, [.inl 81], mgh18561, [81, 94], [([], some (.inr (false, [(0, 0)])), mgh18558), ([], some (.inr (false, [(1, 1)])), mgh18560), ([], some (.inr (false, [(0, 0)])), mgh17925), ([], some (.inr (false, [(0, 0)])), mgh17945)])
theorem mgk5841 : ai_chk [mgc22, mgc147, mgc5839, mgc5840] mgc5841 (fun pc => sm_ch sm_t127 pc, sm_Kn 3 5 none, fun x => sm_lk sm_ca3 x, some .boolean) [81, 94] 5 0 [] [] 2000 [] = true := by decide +kernel
def mgh18562 : aw_H := [(81, mgx18559)]
/-- MiceRegistersModel.skip -/
def mgh18563 : aw_H := [(81, mgx18559), (90, .inr (.inl (0, 240, [], [])))]
def mgc6324 : ak_C := (122, [.inl 81], mgh18563, [81], [([], none, mgh18562)])
/-- MiceRegistersModel.readsLine -/
def mgx18564 : aw_A := ms_o [(0, 8)] [(0, 4)] ar_t32 ar_t32 [(0, 180)] [(52, 52)] [(53, 60)] [(1, 8)] [(1, 1)]
def mgh18565 : aw_H := [(81, mgx18564)]
def mgc5818 : ak_C := (124, [.inl 81], mgh18565, [], [([], some (.inr (false, [(0, 0)])), [])])
theorem mgk5818 : ai_chk [] mgc5818 (fun pc => sm_ch sm_t124 pc, sm_Kn 3 3 none, fun x => sm_lk sm_ca3 x, some .boolean) [] 3 0 [] [] 2000 [] = true := by decide +kernel
/-- MiceRegistersModel.figure -/
def mgc5819 : ak_C := (125, [.inl 81, .inr (false, [(0, 0)]), .inr (false, [(0, 7)])], mgh17754, [81], [([], some (.inr (false, [(-9, -9)])), mgh17739), ([], some (.inr (false, [(0, 7)])), mgh17868)])
/-- MiceRegistersModel.figure -/
def mgc5820 : ak_C := (125, [.inl 81, .inr (false, [(1, 1)]), .inr (false, [(9, 9)])], mgh17881, [81], [([], some (.inr (false, [(-9, -9)])), mgh17868), ([], some (.inr (false, [(1, 9)])), mgh17807)])
def mgh18566 : aw_H := [(81, mgx18564), (94, mgx4449)]
def mgx18567 : aw_A := ms_o [(0, 8)] [(0, 4)] ar_t32 ar_t32 [(0, 180)] [(55, 55)] [(55, 60)] [(1, 8)] [(2, 2)]
def mgh18568 : aw_H := [(81, mgx18567), (94, mgx6150)]
/-- MiceRegistersModel.readsMouse -/
def mgh18569 : aw_H := [(81, mgx18564), (90, .inr (.inl (0, 240, [], []))), (94, mgx4449)]
def mgc5821 : ak_C := (127, [.inl 81], mgh18569, [81, 94], [([], some (.inr (false, [(0, 0)])), mgh18566), ([], some (.inr (false, [(1, 1)])), mgh18568), ([], some (.inr (false, [(0, 0)])), mgh17866), ([], some (.inr (false, [(0, 0)])), mgh17736)])
theorem mgk5821 : ai_chk [mgc27, mgc147, mgc5819, mgc5820] mgc5821 (fun pc => sm_ch sm_t127 pc, sm_Kn 3 5 none, fun x => sm_lk sm_ca3 x, some .boolean) [81, 94] 5 0 [] [] 2000 [] = true := by decide +kernel
def mgh18570 : aw_H := [(81, mgx18567)]
def mgx18571 : aw_A := ms_o [(0, 8)] [(0, 4)] ar_t32 ar_t32 [(0, 180)] [(56, 56)] [(55, 60)] [(1, 8)] [(2, 2)]
def mgh18572 : aw_H := [(81, mgx18571)]
def mgx18573 : aw_A := ms_o [(0, 8)] [(0, 4)] ar_t32 ar_t32 [(0, 180)] [(57, 57)] [(55, 60)] [(1, 8)] [(2, 2)]
def mgh18574 : aw_H := [(81, mgx18573)]
def mgx18575 : aw_A := ms_o [(0, 8)] [(0, 4)] ar_t32 ar_t32 [(0, 180)] [(58, 58)] [(55, 60)] [(1, 8)] [(2, 2)]
def mgh18576 : aw_H := [(81, mgx18575)]
def mgx18577 : aw_A := ms_o [(0, 8)] [(0, 4)] ar_t32 ar_t32 [(0, 180)] [(59, 59)] [(55, 60)] [(1, 8)] [(2, 2)]
def mgh18578 : aw_H := [(81, mgx18577)]
def mgx18579 : aw_A := ms_o [(0, 8)] [(0, 4)] ar_t32 ar_t32 [(0, 180)] [(60, 60)] [(55, 60)] [(1, 8)] [(2, 2)]
def mgh18580 : aw_H := [(81, mgx18579)]
/-- MiceRegistersModel.skip -/
def mgh18581 : aw_H := [(81, mgx18567), (90, .inr (.inl (0, 240, [], [])))]
def mgc6299 : ak_C := (122, [.inl 81], mgh18581, [81], [([], none, mgh18570), ([], none, mgh18572), ([], none, mgh18574), ([], none, mgh18576), ([], none, mgh18578), ([], none, mgh18580)])
/-- MiceRegistersModel.readsLine -/
def mgx18582 : aw_A := ms_o [(0, 8)] [(0, 4)] ar_t32 ar_t32 [(0, 180)] [(56, 56)] [(57, 60)] [(1, 8)] [(1, 1)]
def mgh18583 : aw_H := [(81, mgx18582)]
def mgc5834 : ak_C := (124, [.inl 81], mgh18583, [], [([], some (.inr (false, [(0, 0)])), [])])
theorem mgk5834 : ai_chk [] mgc5834 (fun pc => sm_ch sm_t124 pc, sm_Kn 3 3 none, fun x => sm_lk sm_ca3 x, some .boolean) [] 3 0 [] [] 2000 [] = true := by decide +kernel
/-- MiceRegistersModel.figure -/
def mgc5835 : ak_C := (125, [.inl 81, .inr (false, [(0, 0)]), .inr (false, [(0, 7)])], mgh17790, [81], [([], some (.inr (false, [(-9, -9)])), mgh17783), ([], some (.inr (false, [(0, 7)])), mgh17954)])
/-- MiceRegistersModel.figure -/
def mgc5836 : ak_C := (125, [.inl 81, .inr (false, [(1, 1)]), .inr (false, [(9, 9)])], mgh17959, [81], [([], some (.inr (false, [(-9, -9)])), mgh17954), ([], some (.inr (false, [(1, 9)])), mgh17928)])
def mgh18584 : aw_H := [(81, mgx18582), (94, mgx4449)]
def mgx18585 : aw_A := ms_o [(0, 8)] [(0, 4)] ar_t32 ar_t32 [(0, 180)] [(59, 59)] [(59, 60)] [(1, 8)] [(2, 2)]
def mgh18586 : aw_H := [(81, mgx18585), (94, mgx6150)]
/-- MiceRegistersModel.readsMouse -/
def mgh18587 : aw_H := [(81, mgx18582), (90, .inr (.inl (0, 240, [], []))), (94, mgx4449)]
def mgc5837 : ak_C := (127, [.inl 81], mgh18587, [81, 94], [([], some (.inr (false, [(0, 0)])), mgh18584), ([], some (.inr (false, [(1, 1)])), mgh18586), ([], some (.inr (false, [(0, 0)])), mgh17945), ([], some (.inr (false, [(0, 0)])), mgh17780)])
theorem mgk5837 : ai_chk [mgc23, mgc147, mgc5835, mgc5836] mgc5837 (fun pc => sm_ch sm_t127 pc, sm_Kn 3 5 none, fun x => sm_lk sm_ca3 x, some .boolean) [81, 94] 5 0 [] [] 2000 [] = true := by decide +kernel
def mgh18588 : aw_H := [(81, mgx18585)]
def mgx18589 : aw_A := ms_o [(0, 8)] [(0, 4)] ar_t32 ar_t32 [(0, 180)] [(60, 60)] [(59, 60)] [(1, 8)] [(2, 2)]
def mgh18590 : aw_H := [(81, mgx18589)]
/-- MiceRegistersModel.skip -/
def mgh18591 : aw_H := [(81, mgx18585), (90, .inr (.inl (0, 240, [], [])))]
def mgc6319 : ak_C := (122, [.inl 81], mgh18591, [81], [([], none, mgh18588), ([], none, mgh18590)])
/-- MiceRegistersModel.readsLine -/
def mgx18592 : aw_A := ms_o [(0, 8)] [(0, 4)] ar_t32 ar_t32 [(0, 180)] [(55, 55)] [(56, 60)] [(1, 8)] [(1, 1)]
def mgh18593 : aw_H := [(81, mgx18592)]
def mgc5830 : ak_C := (124, [.inl 81], mgh18593, [], [([], some (.inr (false, [(0, 0)])), [])])
theorem mgk5830 : ai_chk [] mgc5830 (fun pc => sm_ch sm_t124 pc, sm_Kn 3 3 none, fun x => sm_lk sm_ca3 x, some .boolean) [] 3 0 [] [] 2000 [] = true := by decide +kernel
/-- MiceRegistersModel.figure -/
def mgc5831 : ak_C := (125, [.inl 81, .inr (false, [(0, 0)]), .inr (false, [(0, 7)])], mgh17718, [81], [([], some (.inr (false, [(-9, -9)])), mgh17709), ([], some (.inr (false, [(0, 7)])), mgh17783)])
/-- MiceRegistersModel.figure -/
def mgc5832 : ak_C := (125, [.inl 81, .inr (false, [(1, 1)]), .inr (false, [(9, 9)])], mgh17790, [81], [([], some (.inr (false, [(-9, -9)])), mgh17783), ([], some (.inr (false, [(1, 9)])), mgh17954)])
def mgh18594 : aw_H := [(81, mgx18592), (94, mgx4449)]
def mgx18595 : aw_A := ms_o [(0, 8)] [(0, 4)] ar_t32 ar_t32 [(0, 180)] [(58, 58)] [(58, 60)] [(1, 8)] [(2, 2)]
def mgh18596 : aw_H := [(81, mgx18595), (94, mgx6150)]
/-- MiceRegistersModel.readsMouse -/
def mgh18597 : aw_H := [(81, mgx18592), (90, .inr (.inl (0, 240, [], []))), (94, mgx4449)]
def mgc5833 : ak_C := (127, [.inl 81], mgh18597, [81, 94], [([], some (.inr (false, [(0, 0)])), mgh18594), ([], some (.inr (false, [(1, 1)])), mgh18596), ([], some (.inr (false, [(0, 0)])), mgh17780), ([], some (.inr (false, [(0, 0)])), mgh17705)])
theorem mgk5833 : ai_chk [mgc24, mgc147, mgc5831, mgc5832] mgc5833 (fun pc => sm_ch sm_t127 pc, sm_Kn 3 5 none, fun x => sm_lk sm_ca3 x, some .boolean) [81, 94] 5 0 [] [] 2000 [] = true := by decide +kernel
def mgh18598 : aw_H := [(81, mgx18595)]
def mgx18599 : aw_A := ms_o [(0, 8)] [(0, 4)] ar_t32 ar_t32 [(0, 180)] [(59, 59)] [(58, 60)] [(1, 8)] [(2, 2)]
def mgh18600 : aw_H := [(81, mgx18599)]
def mgx18601 : aw_A := ms_o [(0, 8)] [(0, 4)] ar_t32 ar_t32 [(0, 180)] [(60, 60)] [(58, 60)] [(1, 8)] [(2, 2)]
def mgh18602 : aw_H := [(81, mgx18601)]
/-- MiceRegistersModel.skip -/
def mgh18603 : aw_H := [(81, mgx18595), (90, .inr (.inl (0, 240, [], [])))]
def mgc6314 : ak_C := (122, [.inl 81], mgh18603, [81], [([], none, mgh18598), ([], none, mgh18600), ([], none, mgh18602)])
/-- MiceRegistersModel.readsLine -/
def mgx18604 : aw_A := ms_o [(0, 8)] [(0, 4)] ar_t32 ar_t32 [(0, 180)] [(40, 40)] [(41, 60)] [(1, 8)] [(1, 1)]
def mgh18605 : aw_H := [(81, mgx18604)]
def mgc5770 : ak_C := (124, [.inl 81], mgh18605, [], [([], some (.inr (false, [(0, 0)])), [])])
theorem mgk5770 : ai_chk [] mgc5770 (fun pc => sm_ch sm_t124 pc, sm_Kn 3 3 none, fun x => sm_lk sm_ca3 x, some .boolean) [] 3 0 [] [] 2000 [] = true := by decide +kernel
/-- MiceRegistersModel.figure -/
def mgc5771 : ak_C := (125, [.inl 81, .inr (false, [(0, 0)]), .inr (false, [(0, 7)])], mgh16909, [81], [([], some (.inr (false, [(-9, -9)])), mgh16870), ([], some (.inr (false, [(0, 7)])), mgh17049)])
/-- MiceRegistersModel.figure -/
def mgc5772 : ak_C := (125, [.inl 81, .inr (false, [(1, 1)]), .inr (false, [(9, 9)])], mgh17086, [81], [([], some (.inr (false, [(-9, -9)])), mgh17049), ([], some (.inr (false, [(1, 9)])), mgh17004)])
def mgh18606 : aw_H := [(81, mgx18604), (94, mgx4449)]
/-- MiceRegistersModel.readsMouse -/
def mgh18607 : aw_H := [(81, mgx18604), (90, .inr (.inl (0, 240, [], []))), (94, mgx4449)]
def mgc5773 : ak_C := (127, [.inl 81], mgh18607, [81, 94], [([], some (.inr (false, [(0, 0)])), mgh18606), ([], some (.inr (false, [(1, 1)])), mgh18253), ([], some (.inr (false, [(0, 0)])), mgh17047), ([], some (.inr (false, [(0, 0)])), mgh16867)])
theorem mgk5773 : ai_chk [mgc39, mgc147, mgc5771, mgc5772] mgc5773 (fun pc => sm_ch sm_t127 pc, sm_Kn 3 5 none, fun x => sm_lk sm_ca3 x, some .boolean) [81, 94] 5 0 [] [] 2000 [] = true := by decide +kernel
def mgx18608 : aw_A := ms_o [(0, 8)] [(0, 4)] ar_t32 ar_t32 [(0, 180)] [(44, 44)] [(43, 60)] [(1, 8)] [(2, 2)]
def mgh18609 : aw_H := [(81, mgx18608)]
def mgx18610 : aw_A := ms_o [(0, 8)] [(0, 4)] ar_t32 ar_t32 [(0, 180)] [(45, 45)] [(43, 60)] [(1, 8)] [(2, 2)]
def mgh18611 : aw_H := [(81, mgx18610)]
def mgx18612 : aw_A := ms_o [(0, 8)] [(0, 4)] ar_t32 ar_t32 [(0, 180)] [(46, 46)] [(43, 60)] [(1, 8)] [(2, 2)]
def mgh18613 : aw_H := [(81, mgx18612)]
def mgx18614 : aw_A := ms_o [(0, 8)] [(0, 4)] ar_t32 ar_t32 [(0, 180)] [(47, 47)] [(43, 60)] [(1, 8)] [(2, 2)]
def mgh18615 : aw_H := [(81, mgx18614)]
def mgx18616 : aw_A := ms_o [(0, 8)] [(0, 4)] ar_t32 ar_t32 [(0, 180)] [(48, 48)] [(43, 60)] [(1, 8)] [(2, 2)]
def mgh18617 : aw_H := [(81, mgx18616)]
def mgx18618 : aw_A := ms_o [(0, 8)] [(0, 4)] ar_t32 ar_t32 [(0, 180)] [(49, 49)] [(43, 60)] [(1, 8)] [(2, 2)]
def mgh18619 : aw_H := [(81, mgx18618)]
def mgx18620 : aw_A := ms_o [(0, 8)] [(0, 4)] ar_t32 ar_t32 [(0, 180)] [(50, 50)] [(43, 60)] [(1, 8)] [(2, 2)]
def mgh18621 : aw_H := [(81, mgx18620)]
def mgx18622 : aw_A := ms_o [(0, 8)] [(0, 4)] ar_t32 ar_t32 [(0, 180)] [(51, 51)] [(43, 60)] [(1, 8)] [(2, 2)]
def mgh18623 : aw_H := [(81, mgx18622)]
def mgx18624 : aw_A := ms_o [(0, 8)] [(0, 4)] ar_t32 ar_t32 [(0, 180)] [(52, 52)] [(43, 60)] [(1, 8)] [(2, 2)]
def mgh18625 : aw_H := [(81, mgx18624)]
def mgx18626 : aw_A := ms_o [(0, 8)] [(0, 4)] ar_t32 ar_t32 [(0, 180)] [(53, 53)] [(43, 60)] [(1, 8)] [(2, 2)]
def mgh18627 : aw_H := [(81, mgx18626)]
def mgx18628 : aw_A := ms_o [(0, 8)] [(0, 4)] ar_t32 ar_t32 [(0, 180)] [(54, 54)] [(43, 60)] [(1, 8)] [(2, 2)]
def mgh18629 : aw_H := [(81, mgx18628)]
def mgx18630 : aw_A := ms_o [(0, 8)] [(0, 4)] ar_t32 ar_t32 [(0, 180)] [(55, 55)] [(43, 60)] [(1, 8)] [(2, 2)]
def mgh18631 : aw_H := [(81, mgx18630)]
def mgx18632 : aw_A := ms_o [(0, 8)] [(0, 4)] ar_t32 ar_t32 [(0, 180)] [(56, 56)] [(43, 60)] [(1, 8)] [(2, 2)]
def mgh18633 : aw_H := [(81, mgx18632)]
def mgx18634 : aw_A := ms_o [(0, 8)] [(0, 4)] ar_t32 ar_t32 [(0, 180)] [(57, 57)] [(43, 60)] [(1, 8)] [(2, 2)]
def mgh18635 : aw_H := [(81, mgx18634)]
def mgx18636 : aw_A := ms_o [(0, 8)] [(0, 4)] ar_t32 ar_t32 [(0, 180)] [(58, 58)] [(43, 60)] [(1, 8)] [(2, 2)]
def mgh18637 : aw_H := [(81, mgx18636)]
def mgx18638 : aw_A := ms_o [(0, 8)] [(0, 4)] ar_t32 ar_t32 [(0, 180)] [(59, 59)] [(43, 60)] [(1, 8)] [(2, 2)]
def mgh18639 : aw_H := [(81, mgx18638)]
def mgx18640 : aw_A := ms_o [(0, 8)] [(0, 4)] ar_t32 ar_t32 [(0, 180)] [(60, 60)] [(43, 60)] [(1, 8)] [(2, 2)]
def mgh18641 : aw_H := [(81, mgx18640)]
/-- MiceRegistersModel.skip -/
def mgc6209 : ak_C := (122, [.inl 81], mgh18251, [81], [([], none, mgh18106), ([], none, mgh18609), ([], none, mgh18611), ([], none, mgh18613), ([], none, mgh18615), ([], none, mgh18617), ([], none, mgh18619), ([], none, mgh18621), ([], none, mgh18623), ([], none, mgh18625), ([], none, mgh18627), ([], none, mgh18629), ([], none, mgh18631), ([], none, mgh18633), ([], none, mgh18635), ([], none, mgh18637), ([], none, mgh18639), ([], none, mgh18641)])
/-- MiceRegistersModel.readsLine -/
def mgx18642 : aw_A := ms_o [(0, 8)] [(0, 4)] ar_t32 ar_t32 [(0, 180)] [(39, 39)] [(40, 60)] [(1, 8)] [(1, 1)]
def mgh18643 : aw_H := [(81, mgx18642)]
def mgc5766 : ak_C := (124, [.inl 81], mgh18643, [], [([], some (.inr (false, [(0, 0)])), [])])
theorem mgk5766 : ai_chk [] mgc5766 (fun pc => sm_ch sm_t124 pc, sm_Kn 3 3 none, fun x => sm_lk sm_ca3 x, some .boolean) [] 3 0 [] [] 2000 [] = true := by decide +kernel
/-- MiceRegistersModel.figure -/
def mgc5767 : ak_C := (125, [.inl 81, .inr (false, [(0, 0)]), .inr (false, [(0, 7)])], mgh13271, [81], [([], some (.inr (false, [(-9, -9)])), mgh13230), ([], some (.inr (false, [(0, 7)])), mgh16870)])
/-- MiceRegistersModel.figure -/
def mgc5768 : ak_C := (125, [.inl 81, .inr (false, [(1, 1)]), .inr (false, [(9, 9)])], mgh16909, [81], [([], some (.inr (false, [(-9, -9)])), mgh16870), ([], some (.inr (false, [(1, 9)])), mgh17049)])
def mgh18644 : aw_H := [(81, mgx18642), (94, mgx4449)]
/-- MiceRegistersModel.readsMouse -/
def mgh18645 : aw_H := [(81, mgx18642), (90, .inr (.inl (0, 240, [], []))), (94, mgx4449)]
def mgc5769 : ak_C := (127, [.inl 81], mgh18645, [81, 94], [([], some (.inr (false, [(0, 0)])), mgh18644), ([], some (.inr (false, [(1, 1)])), mgh18109), ([], some (.inr (false, [(0, 0)])), mgh16867), ([], some (.inr (false, [(0, 0)])), mgh13186)])
theorem mgk5769 : ai_chk [mgc40, mgc147, mgc5767, mgc5768] mgc5769 (fun pc => sm_ch sm_t127 pc, sm_Kn 3 5 none, fun x => sm_lk sm_ca3 x, some .boolean) [81, 94] 5 0 [] [] 2000 [] = true := by decide +kernel
def mgx18646 : aw_A := ms_o [(0, 8)] [(0, 4)] ar_t32 ar_t32 [(0, 180)] [(43, 43)] [(42, 60)] [(1, 8)] [(2, 2)]
def mgh18647 : aw_H := [(81, mgx18646)]
def mgx18648 : aw_A := ms_o [(0, 8)] [(0, 4)] ar_t32 ar_t32 [(0, 180)] [(44, 44)] [(42, 60)] [(1, 8)] [(2, 2)]
def mgh18649 : aw_H := [(81, mgx18648)]
def mgx18650 : aw_A := ms_o [(0, 8)] [(0, 4)] ar_t32 ar_t32 [(0, 180)] [(45, 45)] [(42, 60)] [(1, 8)] [(2, 2)]
def mgh18651 : aw_H := [(81, mgx18650)]
def mgx18652 : aw_A := ms_o [(0, 8)] [(0, 4)] ar_t32 ar_t32 [(0, 180)] [(46, 46)] [(42, 60)] [(1, 8)] [(2, 2)]
def mgh18653 : aw_H := [(81, mgx18652)]
def mgx18654 : aw_A := ms_o [(0, 8)] [(0, 4)] ar_t32 ar_t32 [(0, 180)] [(47, 47)] [(42, 60)] [(1, 8)] [(2, 2)]
def mgh18655 : aw_H := [(81, mgx18654)]
def mgx18656 : aw_A := ms_o [(0, 8)] [(0, 4)] ar_t32 ar_t32 [(0, 180)] [(48, 48)] [(42, 60)] [(1, 8)] [(2, 2)]
def mgh18657 : aw_H := [(81, mgx18656)]
def mgx18658 : aw_A := ms_o [(0, 8)] [(0, 4)] ar_t32 ar_t32 [(0, 180)] [(49, 49)] [(42, 60)] [(1, 8)] [(2, 2)]
def mgh18659 : aw_H := [(81, mgx18658)]
def mgx18660 : aw_A := ms_o [(0, 8)] [(0, 4)] ar_t32 ar_t32 [(0, 180)] [(50, 50)] [(42, 60)] [(1, 8)] [(2, 2)]
def mgh18661 : aw_H := [(81, mgx18660)]
def mgx18662 : aw_A := ms_o [(0, 8)] [(0, 4)] ar_t32 ar_t32 [(0, 180)] [(51, 51)] [(42, 60)] [(1, 8)] [(2, 2)]
def mgh18663 : aw_H := [(81, mgx18662)]
def mgx18664 : aw_A := ms_o [(0, 8)] [(0, 4)] ar_t32 ar_t32 [(0, 180)] [(52, 52)] [(42, 60)] [(1, 8)] [(2, 2)]
def mgh18665 : aw_H := [(81, mgx18664)]
def mgx18666 : aw_A := ms_o [(0, 8)] [(0, 4)] ar_t32 ar_t32 [(0, 180)] [(53, 53)] [(42, 60)] [(1, 8)] [(2, 2)]
def mgh18667 : aw_H := [(81, mgx18666)]
def mgx18668 : aw_A := ms_o [(0, 8)] [(0, 4)] ar_t32 ar_t32 [(0, 180)] [(54, 54)] [(42, 60)] [(1, 8)] [(2, 2)]
def mgh18669 : aw_H := [(81, mgx18668)]
def mgx18670 : aw_A := ms_o [(0, 8)] [(0, 4)] ar_t32 ar_t32 [(0, 180)] [(55, 55)] [(42, 60)] [(1, 8)] [(2, 2)]
def mgh18671 : aw_H := [(81, mgx18670)]
def mgx18672 : aw_A := ms_o [(0, 8)] [(0, 4)] ar_t32 ar_t32 [(0, 180)] [(56, 56)] [(42, 60)] [(1, 8)] [(2, 2)]
def mgh18673 : aw_H := [(81, mgx18672)]
def mgx18674 : aw_A := ms_o [(0, 8)] [(0, 4)] ar_t32 ar_t32 [(0, 180)] [(57, 57)] [(42, 60)] [(1, 8)] [(2, 2)]
def mgh18675 : aw_H := [(81, mgx18674)]
def mgx18676 : aw_A := ms_o [(0, 8)] [(0, 4)] ar_t32 ar_t32 [(0, 180)] [(58, 58)] [(42, 60)] [(1, 8)] [(2, 2)]
def mgh18677 : aw_H := [(81, mgx18676)]
def mgx18678 : aw_A := ms_o [(0, 8)] [(0, 4)] ar_t32 ar_t32 [(0, 180)] [(59, 59)] [(42, 60)] [(1, 8)] [(2, 2)]
def mgh18679 : aw_H := [(81, mgx18678)]
def mgx18680 : aw_A := ms_o [(0, 8)] [(0, 4)] ar_t32 ar_t32 [(0, 180)] [(60, 60)] [(42, 60)] [(1, 8)] [(2, 2)]
def mgh18681 : aw_H := [(81, mgx18680)]
/-- MiceRegistersModel.skip -/
def mgc6133 : ak_C := (122, [.inl 81], mgh18107, [81], [([], none, mgh16077), ([], none, mgh18647), ([], none, mgh18649), ([], none, mgh18651), ([], none, mgh18653), ([], none, mgh18655), ([], none, mgh18657), ([], none, mgh18659), ([], none, mgh18661), ([], none, mgh18663), ([], none, mgh18665), ([], none, mgh18667), ([], none, mgh18669), ([], none, mgh18671), ([], none, mgh18673), ([], none, mgh18675), ([], none, mgh18677), ([], none, mgh18679), ([], none, mgh18681)])
/-- MiceRegistersModel.readsLine -/
def mgx18682 : aw_A := ms_o [(0, 8)] [(0, 4)] ar_t32 ar_t32 [(0, 180)] [(42, 42)] [(43, 60)] [(1, 8)] [(2, 2)]
def mgh18683 : aw_H := [(81, mgx18682)]
def mgc6010 : ak_C := (124, [.inl 81], mgh18683, [], [([], some (.inr (false, [(0, 0)])), [])])
theorem mgk6010 : ai_chk [] mgc6010 (fun pc => sm_ch sm_t124 pc, sm_Kn 3 3 none, fun x => sm_lk sm_ca3 x, some .boolean) [] 3 0 [] [] 2000 [] = true := by decide +kernel
/-- MiceRegistersModel.figure -/
def mgc6011 : ak_C := (125, [.inl 81, .inr (false, [(0, 0)]), .inr (false, [(0, 7)])], mgh18251, [81], [([], some (.inr (false, [(-9, -9)])), mgh18106), ([], some (.inr (false, [(0, 7)])), mgh18250)])
def mgx18684 : aw_A := ms_o [(0, 8)] [(0, 4)] ar_t32 ar_t32 [(0, 180)] [(45, 45)] [(45, 60)] [(1, 8)] [(2, 2)]
def mgh18685 : aw_H := [(81, mgx18684)]
/-- MiceRegistersModel.figure -/
def mgc6012 : ak_C := (125, [.inl 81, .inr (false, [(1, 1)]), .inr (false, [(9, 9)])], mgh18411, [81], [([], some (.inr (false, [(-9, -9)])), mgh18250), ([], some (.inr (false, [(1, 9)])), mgh18685)])
def mgh18686 : aw_H := [(81, mgx18682), (94, mgx6150)]
/-- MiceRegistersModel.readsMouse -/
def mgh18687 : aw_H := [(81, mgx18682), (90, .inr (.inl (0, 240, [], []))), (94, mgx6150)]
def mgc6013 : ak_C := (127, [.inl 81], mgh18687, [81, 94], [([], some (.inr (false, [(0, 0)])), mgh18686), ([], some (.inr (false, [(1, 1)])), mgh18153), ([], some (.inr (false, [(0, 0)])), mgh18377), ([], some (.inr (false, [(0, 0)])), mgh18253)])
theorem mgk6013 : ai_chk [mgc37, mgc147, mgc6011, mgc6012] mgc6013 (fun pc => sm_ch sm_t127 pc, sm_Kn 3 5 none, fun x => sm_lk sm_ca3 x, some .boolean) [81, 94] 5 0 [] [] 2000 [] = true := by decide +kernel
def mgx18688 : aw_A := ms_o [(0, 8)] [(0, 4)] ar_t32 ar_t32 [(0, 180)] [(46, 46)] [(45, 60)] [(1, 8)] [(3, 3)]
def mgh18689 : aw_H := [(81, mgx18688)]
def mgx18690 : aw_A := ms_o [(0, 8)] [(0, 4)] ar_t32 ar_t32 [(0, 180)] [(47, 47)] [(45, 60)] [(1, 8)] [(3, 3)]
def mgh18691 : aw_H := [(81, mgx18690)]
def mgx18692 : aw_A := ms_o [(0, 8)] [(0, 4)] ar_t32 ar_t32 [(0, 180)] [(48, 48)] [(45, 60)] [(1, 8)] [(3, 3)]
def mgh18693 : aw_H := [(81, mgx18692)]
def mgx18694 : aw_A := ms_o [(0, 8)] [(0, 4)] ar_t32 ar_t32 [(0, 180)] [(49, 49)] [(45, 60)] [(1, 8)] [(3, 3)]
def mgh18695 : aw_H := [(81, mgx18694)]
def mgx18696 : aw_A := ms_o [(0, 8)] [(0, 4)] ar_t32 ar_t32 [(0, 180)] [(50, 50)] [(45, 60)] [(1, 8)] [(3, 3)]
def mgh18697 : aw_H := [(81, mgx18696)]
def mgx18698 : aw_A := ms_o [(0, 8)] [(0, 4)] ar_t32 ar_t32 [(0, 180)] [(51, 51)] [(45, 60)] [(1, 8)] [(3, 3)]
def mgh18699 : aw_H := [(81, mgx18698)]
def mgx18700 : aw_A := ms_o [(0, 8)] [(0, 4)] ar_t32 ar_t32 [(0, 180)] [(52, 52)] [(45, 60)] [(1, 8)] [(3, 3)]
def mgh18701 : aw_H := [(81, mgx18700)]
def mgx18702 : aw_A := ms_o [(0, 8)] [(0, 4)] ar_t32 ar_t32 [(0, 180)] [(53, 53)] [(45, 60)] [(1, 8)] [(3, 3)]
def mgh18703 : aw_H := [(81, mgx18702)]
def mgx18704 : aw_A := ms_o [(0, 8)] [(0, 4)] ar_t32 ar_t32 [(0, 180)] [(54, 54)] [(45, 60)] [(1, 8)] [(3, 3)]
def mgh18705 : aw_H := [(81, mgx18704)]
def mgx18706 : aw_A := ms_o [(0, 8)] [(0, 4)] ar_t32 ar_t32 [(0, 180)] [(55, 55)] [(45, 60)] [(1, 8)] [(3, 3)]
def mgh18707 : aw_H := [(81, mgx18706)]
def mgx18708 : aw_A := ms_o [(0, 8)] [(0, 4)] ar_t32 ar_t32 [(0, 180)] [(56, 56)] [(45, 60)] [(1, 8)] [(3, 3)]
def mgh18709 : aw_H := [(81, mgx18708)]
def mgx18710 : aw_A := ms_o [(0, 8)] [(0, 4)] ar_t32 ar_t32 [(0, 180)] [(57, 57)] [(45, 60)] [(1, 8)] [(3, 3)]
def mgh18711 : aw_H := [(81, mgx18710)]
def mgx18712 : aw_A := ms_o [(0, 8)] [(0, 4)] ar_t32 ar_t32 [(0, 180)] [(58, 58)] [(45, 60)] [(1, 8)] [(3, 3)]
def mgh18713 : aw_H := [(81, mgx18712)]
def mgx18714 : aw_A := ms_o [(0, 8)] [(0, 4)] ar_t32 ar_t32 [(0, 180)] [(59, 59)] [(45, 60)] [(1, 8)] [(3, 3)]
def mgh18715 : aw_H := [(81, mgx18714)]
def mgx18716 : aw_A := ms_o [(0, 8)] [(0, 4)] ar_t32 ar_t32 [(0, 180)] [(60, 60)] [(45, 60)] [(1, 8)] [(3, 3)]
def mgh18717 : aw_H := [(81, mgx18716)]
/-- MiceRegistersModel.skip -/
def mgc6220 : ak_C := (122, [.inl 81], mgh18149, [81], [([], none, mgh16622), ([], none, mgh18689), ([], none, mgh18691), ([], none, mgh18693), ([], none, mgh18695), ([], none, mgh18697), ([], none, mgh18699), ([], none, mgh18701), ([], none, mgh18703), ([], none, mgh18705), ([], none, mgh18707), ([], none, mgh18709), ([], none, mgh18711), ([], none, mgh18713), ([], none, mgh18715), ([], none, mgh18717)])
/-- MiceRegistersModel.readsLine -/
def mgx18718 : aw_A := ms_o [(0, 8)] [(0, 4)] ar_t32 ar_t32 [(0, 180)] [(45, 45)] [(46, 60)] [(1, 8)] [(3, 3)]
def mgh18719 : aw_H := [(81, mgx18718)]
def mgc6147 : ak_C := (124, [.inl 81], mgh18719, [], [([], some (.inr (false, [(0, 0)])), [])])
theorem mgk6147 : ai_chk [] mgc6147 (fun pc => sm_ch sm_t124 pc, sm_Kn 3 3 none, fun x => sm_lk sm_ca3 x, some .boolean) [] 3 0 [] [] 2000 [] = true := by decide +kernel
/-- MiceRegistersModel.figure -/
def mgc6148 : ak_C := (125, [.inl 81, .inr (false, [(0, 0)]), .inr (false, [(0, 7)])], mgh18291, [81], [([], some (.inr (false, [(-9, -9)])), mgh18148), ([], some (.inr (false, [(0, 7)])), mgh18290)])
def mgx18720 : aw_A := ms_o [(0, 8)] [(0, 4)] ar_t32 ar_t32 [(0, 180)] [(48, 48)] [(48, 60)] [(1, 8)] [(3, 3)]
def mgh18721 : aw_H := [(81, mgx18720)]
/-- MiceRegistersModel.figure -/
def mgh18722 : aw_H := [(81, mgx18289), (90, .inr (.inl (0, 240, [], [])))]
def mgc6149 : ak_C := (125, [.inl 81, .inr (false, [(1, 1)]), .inr (false, [(9, 9)])], mgh18722, [81], [([], some (.inr (false, [(-9, -9)])), mgh18290), ([], some (.inr (false, [(1, 9)])), mgh18721)])
def mgh18723 : aw_H := [(81, mgx18718), (94, mgx6362)]
def mgx18724 : aw_A := ms_o [(0, 8)] [(0, 4)] ar_t32 ar_t32 [(0, 180)] [(48, 48)] [(48, 60)] [(1, 8)] [(4, 4)]
def mgh18725 : aw_H := [(81, mgx18724), (94, mgx6473)]
def mgh18726 : aw_H := [(81, mgx18289), (94, mgx6362)]
/-- MiceRegistersModel.readsMouse -/
def mgh18727 : aw_H := [(81, mgx18718), (90, .inr (.inl (0, 240, [], []))), (94, mgx6362)]
def mgc6150 : ak_C := (127, [.inl 81], mgh18727, [81, 94], [([], some (.inr (false, [(0, 0)])), mgh18723), ([], some (.inr (false, [(1, 1)])), mgh18725), ([], some (.inr (false, [(0, 0)])), mgh18726), ([], some (.inr (false, [(0, 0)])), mgh18295)])
theorem mgk6150 : ai_chk [mgc34, mgc147, mgc6148, mgc6149] mgc6150 (fun pc => sm_ch sm_t127 pc, sm_Kn 3 5 none, fun x => sm_lk sm_ca3 x, some .boolean) [81, 94] 5 0 [] [] 2000 [] = true := by decide +kernel
def mgh18728 : aw_H := [(81, mgx18724)]
def mgx18729 : aw_A := ms_o [(0, 8)] [(0, 4)] ar_t32 ar_t32 [(0, 180)] [(49, 49)] [(48, 60)] [(1, 8)] [(4, 4)]
def mgh18730 : aw_H := [(81, mgx18729)]
def mgx18731 : aw_A := ms_o [(0, 8)] [(0, 4)] ar_t32 ar_t32 [(0, 180)] [(50, 50)] [(48, 60)] [(1, 8)] [(4, 4)]
def mgh18732 : aw_H := [(81, mgx18731)]
def mgx18733 : aw_A := ms_o [(0, 8)] [(0, 4)] ar_t32 ar_t32 [(0, 180)] [(51, 51)] [(48, 60)] [(1, 8)] [(4, 4)]
def mgh18734 : aw_H := [(81, mgx18733)]
def mgx18735 : aw_A := ms_o [(0, 8)] [(0, 4)] ar_t32 ar_t32 [(0, 180)] [(52, 52)] [(48, 60)] [(1, 8)] [(4, 4)]
def mgh18736 : aw_H := [(81, mgx18735)]
def mgx18737 : aw_A := ms_o [(0, 8)] [(0, 4)] ar_t32 ar_t32 [(0, 180)] [(53, 53)] [(48, 60)] [(1, 8)] [(4, 4)]
def mgh18738 : aw_H := [(81, mgx18737)]
def mgx18739 : aw_A := ms_o [(0, 8)] [(0, 4)] ar_t32 ar_t32 [(0, 180)] [(54, 54)] [(48, 60)] [(1, 8)] [(4, 4)]
def mgh18740 : aw_H := [(81, mgx18739)]
def mgx18741 : aw_A := ms_o [(0, 8)] [(0, 4)] ar_t32 ar_t32 [(0, 180)] [(55, 55)] [(48, 60)] [(1, 8)] [(4, 4)]
def mgh18742 : aw_H := [(81, mgx18741)]
def mgx18743 : aw_A := ms_o [(0, 8)] [(0, 4)] ar_t32 ar_t32 [(0, 180)] [(56, 56)] [(48, 60)] [(1, 8)] [(4, 4)]
def mgh18744 : aw_H := [(81, mgx18743)]
def mgx18745 : aw_A := ms_o [(0, 8)] [(0, 4)] ar_t32 ar_t32 [(0, 180)] [(57, 57)] [(48, 60)] [(1, 8)] [(4, 4)]
def mgh18746 : aw_H := [(81, mgx18745)]
def mgx18747 : aw_A := ms_o [(0, 8)] [(0, 4)] ar_t32 ar_t32 [(0, 180)] [(58, 58)] [(48, 60)] [(1, 8)] [(4, 4)]
def mgh18748 : aw_H := [(81, mgx18747)]
def mgx18749 : aw_A := ms_o [(0, 8)] [(0, 4)] ar_t32 ar_t32 [(0, 180)] [(59, 59)] [(48, 60)] [(1, 8)] [(4, 4)]
def mgh18750 : aw_H := [(81, mgx18749)]
def mgx18751 : aw_A := ms_o [(0, 8)] [(0, 4)] ar_t32 ar_t32 [(0, 180)] [(60, 60)] [(48, 60)] [(1, 8)] [(4, 4)]
def mgh18752 : aw_H := [(81, mgx18751)]
/-- MiceRegistersModel.skip -/
def mgh18753 : aw_H := [(81, mgx18724), (90, .inr (.inl (0, 240, [], [])))]
def mgc6266 : ak_C := (122, [.inl 81], mgh18753, [81], [([], none, mgh18728), ([], none, mgh18730), ([], none, mgh18732), ([], none, mgh18734), ([], none, mgh18736), ([], none, mgh18738), ([], none, mgh18740), ([], none, mgh18742), ([], none, mgh18744), ([], none, mgh18746), ([], none, mgh18748), ([], none, mgh18750), ([], none, mgh18752)])
/-- MiceRegistersModel.readsLine -/
def mgx18754 : aw_A := ms_o [(0, 8)] [(0, 4)] ar_t32 ar_t32 [(0, 180)] [(48, 48)] [(49, 60)] [(1, 8)] [(4, 4)]
def mgh18755 : aw_H := [(81, mgx18754)]
def mgc6228 : ak_C := (124, [.inl 81], mgh18755, [], [([], some (.inr (false, [(0, 0)])), [])])
theorem mgk6228 : ai_chk [] mgc6228 (fun pc => sm_ch sm_t124 pc, sm_Kn 3 3 none, fun x => sm_lk sm_ca3 x, some .boolean) [] 3 0 [] [] 2000 [] = true := by decide +kernel
/-- MiceRegistersModel.readsMouse -/
def mgh18756 : aw_H := [(81, mgx18754), (90, .inr (.inl (0, 240, [], [])))]
def mgc6229 : ak_C := (127, [.inl 81], mgh18756, [], [([], some (.inr (false, [(0, 0)])), [])])
theorem mgk6229 : ai_chk [mgc31, mgc147] mgc6229 (fun pc => sm_ch sm_t127 pc, sm_Kn 3 5 none, fun x => sm_lk sm_ca3 x, some .boolean) [] 5 0 [] [] 2000 [] = true := by decide +kernel
/-- MiceRegistersModel.readsLine -/
def mgx18757 : aw_A := ms_o [(0, 8)] [(0, 4)] ar_t32 ar_t32 [(0, 180)] [(43, 43)] [(44, 60)] [(1, 8)] [(2, 2)]
def mgh18758 : aw_H := [(81, mgx18757)]
def mgc6014 : ak_C := (124, [.inl 81], mgh18758, [], [([], some (.inr (false, [(0, 0)])), [])])
theorem mgk6014 : ai_chk [] mgc6014 (fun pc => sm_ch sm_t124 pc, sm_Kn 3 3 none, fun x => sm_lk sm_ca3 x, some .boolean) [] 3 0 [] [] 2000 [] = true := by decide +kernel
/-- MiceRegistersModel.figure -/
def mgc6015 : ak_C := (125, [.inl 81, .inr (false, [(0, 0)]), .inr (false, [(0, 7)])], mgh18411, [81], [([], some (.inr (false, [(-9, -9)])), mgh18250), ([], some (.inr (false, [(0, 7)])), mgh18685)])
/-- MiceRegistersModel.figure -/
def mgh18759 : aw_H := [(81, mgx18684), (90, .inr (.inl (0, 240, [], [])))]
def mgc6016 : ak_C := (125, [.inl 81, .inr (false, [(1, 1)]), .inr (false, [(9, 9)])], mgh18759, [81], [([], some (.inr (false, [(-9, -9)])), mgh18685), ([], some (.inr (false, [(1, 9)])), mgh18460)])
def mgh18760 : aw_H := [(81, mgx18757), (94, mgx6150)]
def mgh18761 : aw_H := [(81, mgx18684), (94, mgx6150)]
/-- MiceRegistersModel.readsMouse -/
def mgh18762 : aw_H := [(81, mgx18757), (90, .inr (.inl (0, 240, [], []))), (94, mgx6150)]
def mgc6017 : ak_C := (127, [.inl 81], mgh18762, [81, 94], [([], some (.inr (false, [(0, 0)])), mgh18760), ([], some (.inr (false, [(1, 1)])), mgh18295), ([], some (.inr (false, [(0, 0)])), mgh18761), ([], some (.inr (false, [(0, 0)])), mgh18377)])
theorem mgk6017 : ai_chk [mgc36, mgc147, mgc6015, mgc6016] mgc6017 (fun pc => sm_ch sm_t127 pc, sm_Kn 3 5 none, fun x => sm_lk sm_ca3 x, some .boolean) [81, 94] 5 0 [] [] 2000 [] = true := by decide +kernel
def mgx18763 : aw_A := ms_o [(0, 8)] [(0, 4)] ar_t32 ar_t32 [(0, 180)] [(47, 47)] [(46, 60)] [(1, 8)] [(3, 3)]
def mgh18764 : aw_H := [(81, mgx18763)]
def mgx18765 : aw_A := ms_o [(0, 8)] [(0, 4)] ar_t32 ar_t32 [(0, 180)] [(48, 48)] [(46, 60)] [(1, 8)] [(3, 3)]
def mgh18766 : aw_H := [(81, mgx18765)]
def mgx18767 : aw_A := ms_o [(0, 8)] [(0, 4)] ar_t32 ar_t32 [(0, 180)] [(49, 49)] [(46, 60)] [(1, 8)] [(3, 3)]
def mgh18768 : aw_H := [(81, mgx18767)]
def mgx18769 : aw_A := ms_o [(0, 8)] [(0, 4)] ar_t32 ar_t32 [(0, 180)] [(50, 50)] [(46, 60)] [(1, 8)] [(3, 3)]
def mgh18770 : aw_H := [(81, mgx18769)]
def mgx18771 : aw_A := ms_o [(0, 8)] [(0, 4)] ar_t32 ar_t32 [(0, 180)] [(51, 51)] [(46, 60)] [(1, 8)] [(3, 3)]
def mgh18772 : aw_H := [(81, mgx18771)]
def mgx18773 : aw_A := ms_o [(0, 8)] [(0, 4)] ar_t32 ar_t32 [(0, 180)] [(52, 52)] [(46, 60)] [(1, 8)] [(3, 3)]
def mgh18774 : aw_H := [(81, mgx18773)]
def mgx18775 : aw_A := ms_o [(0, 8)] [(0, 4)] ar_t32 ar_t32 [(0, 180)] [(53, 53)] [(46, 60)] [(1, 8)] [(3, 3)]
def mgh18776 : aw_H := [(81, mgx18775)]
def mgx18777 : aw_A := ms_o [(0, 8)] [(0, 4)] ar_t32 ar_t32 [(0, 180)] [(54, 54)] [(46, 60)] [(1, 8)] [(3, 3)]
def mgh18778 : aw_H := [(81, mgx18777)]
def mgx18779 : aw_A := ms_o [(0, 8)] [(0, 4)] ar_t32 ar_t32 [(0, 180)] [(55, 55)] [(46, 60)] [(1, 8)] [(3, 3)]
def mgh18780 : aw_H := [(81, mgx18779)]
def mgx18781 : aw_A := ms_o [(0, 8)] [(0, 4)] ar_t32 ar_t32 [(0, 180)] [(56, 56)] [(46, 60)] [(1, 8)] [(3, 3)]
def mgh18782 : aw_H := [(81, mgx18781)]
def mgx18783 : aw_A := ms_o [(0, 8)] [(0, 4)] ar_t32 ar_t32 [(0, 180)] [(57, 57)] [(46, 60)] [(1, 8)] [(3, 3)]
def mgh18784 : aw_H := [(81, mgx18783)]
def mgx18785 : aw_A := ms_o [(0, 8)] [(0, 4)] ar_t32 ar_t32 [(0, 180)] [(58, 58)] [(46, 60)] [(1, 8)] [(3, 3)]
def mgh18786 : aw_H := [(81, mgx18785)]
def mgx18787 : aw_A := ms_o [(0, 8)] [(0, 4)] ar_t32 ar_t32 [(0, 180)] [(59, 59)] [(46, 60)] [(1, 8)] [(3, 3)]
def mgh18788 : aw_H := [(81, mgx18787)]
def mgx18789 : aw_A := ms_o [(0, 8)] [(0, 4)] ar_t32 ar_t32 [(0, 180)] [(60, 60)] [(46, 60)] [(1, 8)] [(3, 3)]
def mgh18790 : aw_H := [(81, mgx18789)]
/-- MiceRegistersModel.skip -/
def mgc6255 : ak_C := (122, [.inl 81], mgh18291, [81], [([], none, mgh18148), ([], none, mgh18764), ([], none, mgh18766), ([], none, mgh18768), ([], none, mgh18770), ([], none, mgh18772), ([], none, mgh18774), ([], none, mgh18776), ([], none, mgh18778), ([], none, mgh18780), ([], none, mgh18782), ([], none, mgh18784), ([], none, mgh18786), ([], none, mgh18788), ([], none, mgh18790)])
/-- MiceRegistersModel.readsLine -/
def mgx18791 : aw_A := ms_o [(0, 8)] [(0, 4)] ar_t32 ar_t32 [(0, 180)] [(46, 46)] [(47, 60)] [(1, 8)] [(3, 3)]
def mgh18792 : aw_H := [(81, mgx18791)]
def mgc6151 : ak_C := (124, [.inl 81], mgh18792, [], [([], some (.inr (false, [(0, 0)])), [])])
theorem mgk6151 : ai_chk [] mgc6151 (fun pc => sm_ch sm_t124 pc, sm_Kn 3 3 none, fun x => sm_lk sm_ca3 x, some .boolean) [] 3 0 [] [] 2000 [] = true := by decide +kernel
/-- MiceRegistersModel.figure -/
def mgc6152 : ak_C := (125, [.inl 81, .inr (false, [(0, 0)]), .inr (false, [(0, 7)])], mgh18722, [81], [([], some (.inr (false, [(-9, -9)])), mgh18290), ([], some (.inr (false, [(0, 7)])), mgh18721)])
def mgx18793 : aw_A := ms_o [(0, 8)] [(0, 4)] ar_t32 ar_t32 [(0, 180)] [(49, 49)] [(49, 60)] [(1, 8)] [(3, 3)]
def mgh18794 : aw_H := [(81, mgx18793)]
/-- MiceRegistersModel.figure -/
def mgh18795 : aw_H := [(81, mgx18720), (90, .inr (.inl (0, 240, [], [])))]
def mgc6153 : ak_C := (125, [.inl 81, .inr (false, [(1, 1)]), .inr (false, [(9, 9)])], mgh18795, [81], [([], some (.inr (false, [(-9, -9)])), mgh18721), ([], some (.inr (false, [(1, 9)])), mgh18794)])
def mgh18796 : aw_H := [(81, mgx18791), (94, mgx6362)]
def mgx18797 : aw_A := ms_o [(0, 8)] [(0, 4)] ar_t32 ar_t32 [(0, 180)] [(49, 49)] [(49, 60)] [(1, 8)] [(4, 4)]
def mgh18798 : aw_H := [(81, mgx18797), (94, mgx6473)]
def mgh18799 : aw_H := [(81, mgx18720), (94, mgx6362)]
/-- MiceRegistersModel.readsMouse -/
def mgh18800 : aw_H := [(81, mgx18791), (90, .inr (.inl (0, 240, [], []))), (94, mgx6362)]
def mgc6154 : ak_C := (127, [.inl 81], mgh18800, [81, 94], [([], some (.inr (false, [(0, 0)])), mgh18796), ([], some (.inr (false, [(1, 1)])), mgh18798), ([], some (.inr (false, [(0, 0)])), mgh18799), ([], some (.inr (false, [(0, 0)])), mgh18726)])
theorem mgk6154 : ai_chk [mgc33, mgc147, mgc6152, mgc6153] mgc6154 (fun pc => sm_ch sm_t127 pc, sm_Kn 3 5 none, fun x => sm_lk sm_ca3 x, some .boolean) [81, 94] 5 0 [] [] 2000 [] = true := by decide +kernel
def mgh18801 : aw_H := [(81, mgx18797)]
def mgx18802 : aw_A := ms_o [(0, 8)] [(0, 4)] ar_t32 ar_t32 [(0, 180)] [(50, 50)] [(49, 60)] [(1, 8)] [(4, 4)]
def mgh18803 : aw_H := [(81, mgx18802)]
def mgx18804 : aw_A := ms_o [(0, 8)] [(0, 4)] ar_t32 ar_t32 [(0, 180)] [(51, 51)] [(49, 60)] [(1, 8)] [(4, 4)]
def mgh18805 : aw_H := [(81, mgx18804)]
def mgx18806 : aw_A := ms_o [(0, 8)] [(0, 4)] ar_t32 ar_t32 [(0, 180)] [(52, 52)] [(49, 60)] [(1, 8)] [(4, 4)]
def mgh18807 : aw_H := [(81, mgx18806)]
def mgx18808 : aw_A := ms_o [(0, 8)] [(0, 4)] ar_t32 ar_t32 [(0, 180)] [(53, 53)] [(49, 60)] [(1, 8)] [(4, 4)]
def mgh18809 : aw_H := [(81, mgx18808)]
def mgx18810 : aw_A := ms_o [(0, 8)] [(0, 4)] ar_t32 ar_t32 [(0, 180)] [(54, 54)] [(49, 60)] [(1, 8)] [(4, 4)]
def mgh18811 : aw_H := [(81, mgx18810)]
def mgx18812 : aw_A := ms_o [(0, 8)] [(0, 4)] ar_t32 ar_t32 [(0, 180)] [(55, 55)] [(49, 60)] [(1, 8)] [(4, 4)]
def mgh18813 : aw_H := [(81, mgx18812)]
def mgx18814 : aw_A := ms_o [(0, 8)] [(0, 4)] ar_t32 ar_t32 [(0, 180)] [(56, 56)] [(49, 60)] [(1, 8)] [(4, 4)]
def mgh18815 : aw_H := [(81, mgx18814)]
def mgx18816 : aw_A := ms_o [(0, 8)] [(0, 4)] ar_t32 ar_t32 [(0, 180)] [(57, 57)] [(49, 60)] [(1, 8)] [(4, 4)]
def mgh18817 : aw_H := [(81, mgx18816)]
def mgx18818 : aw_A := ms_o [(0, 8)] [(0, 4)] ar_t32 ar_t32 [(0, 180)] [(58, 58)] [(49, 60)] [(1, 8)] [(4, 4)]
def mgh18819 : aw_H := [(81, mgx18818)]
def mgx18820 : aw_A := ms_o [(0, 8)] [(0, 4)] ar_t32 ar_t32 [(0, 180)] [(59, 59)] [(49, 60)] [(1, 8)] [(4, 4)]
def mgh18821 : aw_H := [(81, mgx18820)]
def mgx18822 : aw_A := ms_o [(0, 8)] [(0, 4)] ar_t32 ar_t32 [(0, 180)] [(60, 60)] [(49, 60)] [(1, 8)] [(4, 4)]
def mgh18823 : aw_H := [(81, mgx18822)]
/-- MiceRegistersModel.skip -/
def mgh18824 : aw_H := [(81, mgx18797), (90, .inr (.inl (0, 240, [], [])))]
def mgc6271 : ak_C := (122, [.inl 81], mgh18824, [81], [([], none, mgh18801), ([], none, mgh18803), ([], none, mgh18805), ([], none, mgh18807), ([], none, mgh18809), ([], none, mgh18811), ([], none, mgh18813), ([], none, mgh18815), ([], none, mgh18817), ([], none, mgh18819), ([], none, mgh18821), ([], none, mgh18823)])
/-- MiceRegistersModel.readsLine -/
def mgx18825 : aw_A := ms_o [(0, 8)] [(0, 4)] ar_t32 ar_t32 [(0, 180)] [(49, 49)] [(50, 60)] [(1, 8)] [(4, 4)]
def mgh18826 : aw_H := [(81, mgx18825)]
def mgc6230 : ak_C := (124, [.inl 81], mgh18826, [], [([], some (.inr (false, [(0, 0)])), [])])
theorem mgk6230 : ai_chk [] mgc6230 (fun pc => sm_ch sm_t124 pc, sm_Kn 3 3 none, fun x => sm_lk sm_ca3 x, some .boolean) [] 3 0 [] [] 2000 [] = true := by decide +kernel
/-- MiceRegistersModel.readsMouse -/
def mgh18827 : aw_H := [(81, mgx18825), (90, .inr (.inl (0, 240, [], [])))]
def mgc6231 : ak_C := (127, [.inl 81], mgh18827, [], [([], some (.inr (false, [(0, 0)])), [])])
theorem mgk6231 : ai_chk [mgc30, mgc147] mgc6231 (fun pc => sm_ch sm_t127 pc, sm_Kn 3 5 none, fun x => sm_lk sm_ca3 x, some .boolean) [] 5 0 [] [] 2000 [] = true := by decide +kernel
/-- MiceRegistersModel.readsLine -/
def mgx18828 : aw_A := ms_o [(0, 8)] [(0, 4)] ar_t32 ar_t32 [(0, 180)] [(44, 44)] [(45, 60)] [(1, 8)] [(2, 2)]
def mgh18829 : aw_H := [(81, mgx18828)]
def mgc6018 : ak_C := (124, [.inl 81], mgh18829, [], [([], some (.inr (false, [(0, 0)])), [])])
theorem mgk6018 : ai_chk [] mgc6018 (fun pc => sm_ch sm_t124 pc, sm_Kn 3 3 none, fun x => sm_lk sm_ca3 x, some .boolean) [] 3 0 [] [] 2000 [] = true := by decide +kernel
/-- MiceRegistersModel.figure -/
def mgc6019 : ak_C := (125, [.inl 81, .inr (false, [(0, 0)]), .inr (false, [(0, 7)])], mgh18759, [81], [([], some (.inr (false, [(-9, -9)])), mgh18685), ([], some (.inr (false, [(0, 7)])), mgh18460)])
/-- MiceRegistersModel.figure -/
def mgc6020 : ak_C := (125, [.inl 81, .inr (false, [(1, 1)]), .inr (false, [(9, 9)])], mgh18489, [81], [([], some (.inr (false, [(-9, -9)])), mgh18460), ([], some (.inr (false, [(1, 9)])), mgh18496)])
def mgh18830 : aw_H := [(81, mgx18828), (94, mgx6150)]
/-- MiceRegistersModel.readsMouse -/
def mgh18831 : aw_H := [(81, mgx18828), (90, .inr (.inl (0, 240, [], []))), (94, mgx6150)]
def mgc6021 : ak_C := (127, [.inl 81], mgh18831, [81, 94], [([], some (.inr (false, [(0, 0)])), mgh18830), ([], some (.inr (false, [(1, 1)])), mgh18726), ([], some (.inr (false, [(0, 0)])), mgh18458), ([], some (.inr (false, [(0, 0)])), mgh18761)])
theorem mgk6021 : ai_chk [mgc35, mgc147, mgc6019, mgc6020] mgc6021 (fun pc => sm_ch sm_t127 pc, sm_Kn 3 5 none, fun x => sm_lk sm_ca3 x, some .boolean) [81, 94] 5 0 [] [] 2000 [] = true := by decide +kernel
def mgx18832 : aw_A := ms_o [(0, 8)] [(0, 4)] ar_t32 ar_t32 [(0, 180)] [(48, 48)] [(47, 60)] [(1, 8)] [(3, 3)]
def mgh18833 : aw_H := [(81, mgx18832)]
def mgx18834 : aw_A := ms_o [(0, 8)] [(0, 4)] ar_t32 ar_t32 [(0, 180)] [(49, 49)] [(47, 60)] [(1, 8)] [(3, 3)]
def mgh18835 : aw_H := [(81, mgx18834)]
def mgx18836 : aw_A := ms_o [(0, 8)] [(0, 4)] ar_t32 ar_t32 [(0, 180)] [(50, 50)] [(47, 60)] [(1, 8)] [(3, 3)]
def mgh18837 : aw_H := [(81, mgx18836)]
def mgx18838 : aw_A := ms_o [(0, 8)] [(0, 4)] ar_t32 ar_t32 [(0, 180)] [(51, 51)] [(47, 60)] [(1, 8)] [(3, 3)]
def mgh18839 : aw_H := [(81, mgx18838)]
def mgx18840 : aw_A := ms_o [(0, 8)] [(0, 4)] ar_t32 ar_t32 [(0, 180)] [(52, 52)] [(47, 60)] [(1, 8)] [(3, 3)]
def mgh18841 : aw_H := [(81, mgx18840)]
def mgx18842 : aw_A := ms_o [(0, 8)] [(0, 4)] ar_t32 ar_t32 [(0, 180)] [(53, 53)] [(47, 60)] [(1, 8)] [(3, 3)]
def mgh18843 : aw_H := [(81, mgx18842)]
def mgx18844 : aw_A := ms_o [(0, 8)] [(0, 4)] ar_t32 ar_t32 [(0, 180)] [(54, 54)] [(47, 60)] [(1, 8)] [(3, 3)]
def mgh18845 : aw_H := [(81, mgx18844)]
def mgx18846 : aw_A := ms_o [(0, 8)] [(0, 4)] ar_t32 ar_t32 [(0, 180)] [(55, 55)] [(47, 60)] [(1, 8)] [(3, 3)]
def mgh18847 : aw_H := [(81, mgx18846)]
def mgx18848 : aw_A := ms_o [(0, 8)] [(0, 4)] ar_t32 ar_t32 [(0, 180)] [(56, 56)] [(47, 60)] [(1, 8)] [(3, 3)]
def mgh18849 : aw_H := [(81, mgx18848)]
def mgx18850 : aw_A := ms_o [(0, 8)] [(0, 4)] ar_t32 ar_t32 [(0, 180)] [(57, 57)] [(47, 60)] [(1, 8)] [(3, 3)]
def mgh18851 : aw_H := [(81, mgx18850)]
def mgx18852 : aw_A := ms_o [(0, 8)] [(0, 4)] ar_t32 ar_t32 [(0, 180)] [(58, 58)] [(47, 60)] [(1, 8)] [(3, 3)]
def mgh18853 : aw_H := [(81, mgx18852)]
def mgx18854 : aw_A := ms_o [(0, 8)] [(0, 4)] ar_t32 ar_t32 [(0, 180)] [(59, 59)] [(47, 60)] [(1, 8)] [(3, 3)]
def mgh18855 : aw_H := [(81, mgx18854)]
def mgx18856 : aw_A := ms_o [(0, 8)] [(0, 4)] ar_t32 ar_t32 [(0, 180)] [(60, 60)] [(47, 60)] [(1, 8)] [(3, 3)]
def mgh18857 : aw_H := [(81, mgx18856)]
/-- MiceRegistersModel.skip -/
def mgc6260 : ak_C := (122, [.inl 81], mgh18722, [81], [([], none, mgh18290), ([], none, mgh18833), ([], none, mgh18835), ([], none, mgh18837), ([], none, mgh18839), ([], none, mgh18841), ([], none, mgh18843), ([], none, mgh18845), ([], none, mgh18847), ([], none, mgh18849), ([], none, mgh18851), ([], none, mgh18853), ([], none, mgh18855), ([], none, mgh18857)])
/-- MiceRegistersModel.readsLine -/
def mgx18858 : aw_A := ms_o [(0, 8)] [(0, 4)] ar_t32 ar_t32 [(0, 180)] [(47, 47)] [(48, 60)] [(1, 8)] [(3, 3)]
def mgh18859 : aw_H := [(81, mgx18858)]
def mgc6155 : ak_C := (124, [.inl 81], mgh18859, [], [([], some (.inr (false, [(0, 0)])), [])])
theorem mgk6155 : ai_chk [] mgc6155 (fun pc => sm_ch sm_t124 pc, sm_Kn 3 3 none, fun x => sm_lk sm_ca3 x, some .boolean) [] 3 0 [] [] 2000 [] = true := by decide +kernel
/-- MiceRegistersModel.figure -/
def mgc6156 : ak_C := (125, [.inl 81, .inr (false, [(0, 0)]), .inr (false, [(0, 7)])], mgh18795, [81], [([], some (.inr (false, [(-9, -9)])), mgh18721), ([], some (.inr (false, [(0, 7)])), mgh18794)])
def mgx18860 : aw_A := ms_o [(0, 8)] [(0, 4)] ar_t32 ar_t32 [(0, 180)] [(50, 50)] [(50, 60)] [(1, 8)] [(3, 3)]
def mgh18861 : aw_H := [(81, mgx18860)]
/-- MiceRegistersModel.figure -/
def mgh18862 : aw_H := [(81, mgx18793), (90, .inr (.inl (0, 240, [], [])))]
def mgc6157 : ak_C := (125, [.inl 81, .inr (false, [(1, 1)]), .inr (false, [(9, 9)])], mgh18862, [81], [([], some (.inr (false, [(-9, -9)])), mgh18794), ([], some (.inr (false, [(1, 9)])), mgh18861)])
def mgh18863 : aw_H := [(81, mgx18858), (94, mgx6362)]
def mgx18864 : aw_A := ms_o [(0, 8)] [(0, 4)] ar_t32 ar_t32 [(0, 180)] [(50, 50)] [(50, 60)] [(1, 8)] [(4, 4)]
def mgh18865 : aw_H := [(81, mgx18864), (94, mgx6473)]
def mgh18866 : aw_H := [(81, mgx18793), (94, mgx6362)]
/-- MiceRegistersModel.readsMouse -/
def mgh18867 : aw_H := [(81, mgx18858), (90, .inr (.inl (0, 240, [], []))), (94, mgx6362)]
def mgc6158 : ak_C := (127, [.inl 81], mgh18867, [81, 94], [([], some (.inr (false, [(0, 0)])), mgh18863), ([], some (.inr (false, [(1, 1)])), mgh18865), ([], some (.inr (false, [(0, 0)])), mgh18866), ([], some (.inr (false, [(0, 0)])), mgh18799)])
theorem mgk6158 : ai_chk [mgc32, mgc147, mgc6156, mgc6157] mgc6158 (fun pc => sm_ch sm_t127 pc, sm_Kn 3 5 none, fun x => sm_lk sm_ca3 x, some .boolean) [81, 94] 5 0 [] [] 2000 [] = true := by decide +kernel
def mgh18868 : aw_H := [(81, mgx18864)]
def mgx18869 : aw_A := ms_o [(0, 8)] [(0, 4)] ar_t32 ar_t32 [(0, 180)] [(51, 51)] [(50, 60)] [(1, 8)] [(4, 4)]
def mgh18870 : aw_H := [(81, mgx18869)]
def mgx18871 : aw_A := ms_o [(0, 8)] [(0, 4)] ar_t32 ar_t32 [(0, 180)] [(52, 52)] [(50, 60)] [(1, 8)] [(4, 4)]
def mgh18872 : aw_H := [(81, mgx18871)]
def mgx18873 : aw_A := ms_o [(0, 8)] [(0, 4)] ar_t32 ar_t32 [(0, 180)] [(53, 53)] [(50, 60)] [(1, 8)] [(4, 4)]
def mgh18874 : aw_H := [(81, mgx18873)]
def mgx18875 : aw_A := ms_o [(0, 8)] [(0, 4)] ar_t32 ar_t32 [(0, 180)] [(54, 54)] [(50, 60)] [(1, 8)] [(4, 4)]
def mgh18876 : aw_H := [(81, mgx18875)]
def mgx18877 : aw_A := ms_o [(0, 8)] [(0, 4)] ar_t32 ar_t32 [(0, 180)] [(55, 55)] [(50, 60)] [(1, 8)] [(4, 4)]
def mgh18878 : aw_H := [(81, mgx18877)]
def mgx18879 : aw_A := ms_o [(0, 8)] [(0, 4)] ar_t32 ar_t32 [(0, 180)] [(56, 56)] [(50, 60)] [(1, 8)] [(4, 4)]
def mgh18880 : aw_H := [(81, mgx18879)]
def mgx18881 : aw_A := ms_o [(0, 8)] [(0, 4)] ar_t32 ar_t32 [(0, 180)] [(57, 57)] [(50, 60)] [(1, 8)] [(4, 4)]
def mgh18882 : aw_H := [(81, mgx18881)]
def mgx18883 : aw_A := ms_o [(0, 8)] [(0, 4)] ar_t32 ar_t32 [(0, 180)] [(58, 58)] [(50, 60)] [(1, 8)] [(4, 4)]
def mgh18884 : aw_H := [(81, mgx18883)]
def mgx18885 : aw_A := ms_o [(0, 8)] [(0, 4)] ar_t32 ar_t32 [(0, 180)] [(59, 59)] [(50, 60)] [(1, 8)] [(4, 4)]
def mgh18886 : aw_H := [(81, mgx18885)]
def mgx18887 : aw_A := ms_o [(0, 8)] [(0, 4)] ar_t32 ar_t32 [(0, 180)] [(60, 60)] [(50, 60)] [(1, 8)] [(4, 4)]
def mgh18888 : aw_H := [(81, mgx18887)]
/-- MiceRegistersModel.skip -/
def mgh18889 : aw_H := [(81, mgx18864), (90, .inr (.inl (0, 240, [], [])))]
def mgc6276 : ak_C := (122, [.inl 81], mgh18889, [81], [([], none, mgh18868), ([], none, mgh18870), ([], none, mgh18872), ([], none, mgh18874), ([], none, mgh18876), ([], none, mgh18878), ([], none, mgh18880), ([], none, mgh18882), ([], none, mgh18884), ([], none, mgh18886), ([], none, mgh18888)])
/-- MiceRegistersModel.readsLine -/
def mgx18890 : aw_A := ms_o [(0, 8)] [(0, 4)] ar_t32 ar_t32 [(0, 180)] [(50, 50)] [(51, 60)] [(1, 8)] [(4, 4)]
def mgh18891 : aw_H := [(81, mgx18890)]
def mgc6232 : ak_C := (124, [.inl 81], mgh18891, [], [([], some (.inr (false, [(0, 0)])), [])])
theorem mgk6232 : ai_chk [] mgc6232 (fun pc => sm_ch sm_t124 pc, sm_Kn 3 3 none, fun x => sm_lk sm_ca3 x, some .boolean) [] 3 0 [] [] 2000 [] = true := by decide +kernel
/-- MiceRegistersModel.readsMouse -/
def mgh18892 : aw_H := [(81, mgx18890), (90, .inr (.inl (0, 240, [], [])))]
def mgc6233 : ak_C := (127, [.inl 81], mgh18892, [], [([], some (.inr (false, [(0, 0)])), [])])
theorem mgk6233 : ai_chk [mgc29, mgc147] mgc6233 (fun pc => sm_ch sm_t127 pc, sm_Kn 3 5 none, fun x => sm_lk sm_ca3 x, some .boolean) [] 5 0 [] [] 2000 [] = true := by decide +kernel
/-- MiceRegistersModel.readsLine -/
def mgx18893 : aw_A := ms_o [(0, 8)] [(0, 4)] ar_t32 ar_t32 [(0, 180)] [(42, 42)] [(43, 60)] [(1, 8)] [(1, 1)]
def mgh18894 : aw_H := [(81, mgx18893)]
def mgc5778 : ak_C := (124, [.inl 81], mgh18894, [], [([], some (.inr (false, [(0, 0)])), [])])
theorem mgk5778 : ai_chk [] mgc5778 (fun pc => sm_ch sm_t124 pc, sm_Kn 3 3 none, fun x => sm_lk sm_ca3 x, some .boolean) [] 3 0 [] [] 2000 [] = true := by decide +kernel
/-- MiceRegistersModel.figure -/
def mgc5779 : ak_C := (125, [.inl 81, .inr (false, [(0, 0)]), .inr (false, [(0, 7)])], mgh17039, [81], [([], some (.inr (false, [(-9, -9)])), mgh17004), ([], some (.inr (false, [(0, 7)])), mgh17289)])
/-- MiceRegistersModel.figure -/
def mgc5780 : ak_C := (125, [.inl 81, .inr (false, [(1, 1)]), .inr (false, [(9, 9)])], mgh17322, [81], [([], some (.inr (false, [(-9, -9)])), mgh17289), ([], some (.inr (false, [(1, 9)])), mgh17827)])
def mgh18895 : aw_H := [(81, mgx18893), (94, mgx4449)]
/-- MiceRegistersModel.readsMouse -/
def mgh18896 : aw_H := [(81, mgx18893), (90, .inr (.inl (0, 240, [], []))), (94, mgx4449)]
def mgc5781 : ak_C := (127, [.inl 81], mgh18896, [81, 94], [([], some (.inr (false, [(0, 0)])), mgh18895), ([], some (.inr (false, [(1, 1)])), mgh18761), ([], some (.inr (false, [(0, 0)])), mgh17286), ([], some (.inr (false, [(0, 0)])), mgh16966)])
theorem mgk5781 : ai_chk [mgc37, mgc147, mgc5779, mgc5780] mgc5781 (fun pc => sm_ch sm_t127 pc, sm_Kn 3 5 none, fun x => sm_lk sm_ca3 x, some .boolean) [81, 94] 5 0 [] [] 2000 [] = true := by decide +kernel
def mgx18897 : aw_A := ms_o [(0, 8)] [(0, 4)] ar_t32 ar_t32 [(0, 180)] [(46, 46)] [(45, 60)] [(1, 8)] [(2, 2)]
def mgh18898 : aw_H := [(81, mgx18897)]
def mgx18899 : aw_A := ms_o [(0, 8)] [(0, 4)] ar_t32 ar_t32 [(0, 180)] [(47, 47)] [(45, 60)] [(1, 8)] [(2, 2)]
def mgh18900 : aw_H := [(81, mgx18899)]
def mgx18901 : aw_A := ms_o [(0, 8)] [(0, 4)] ar_t32 ar_t32 [(0, 180)] [(48, 48)] [(45, 60)] [(1, 8)] [(2, 2)]
def mgh18902 : aw_H := [(81, mgx18901)]
def mgx18903 : aw_A := ms_o [(0, 8)] [(0, 4)] ar_t32 ar_t32 [(0, 180)] [(49, 49)] [(45, 60)] [(1, 8)] [(2, 2)]
def mgh18904 : aw_H := [(81, mgx18903)]
def mgx18905 : aw_A := ms_o [(0, 8)] [(0, 4)] ar_t32 ar_t32 [(0, 180)] [(50, 50)] [(45, 60)] [(1, 8)] [(2, 2)]
def mgh18906 : aw_H := [(81, mgx18905)]
def mgx18907 : aw_A := ms_o [(0, 8)] [(0, 4)] ar_t32 ar_t32 [(0, 180)] [(51, 51)] [(45, 60)] [(1, 8)] [(2, 2)]
def mgh18908 : aw_H := [(81, mgx18907)]
def mgx18909 : aw_A := ms_o [(0, 8)] [(0, 4)] ar_t32 ar_t32 [(0, 180)] [(52, 52)] [(45, 60)] [(1, 8)] [(2, 2)]
def mgh18910 : aw_H := [(81, mgx18909)]
def mgx18911 : aw_A := ms_o [(0, 8)] [(0, 4)] ar_t32 ar_t32 [(0, 180)] [(53, 53)] [(45, 60)] [(1, 8)] [(2, 2)]
def mgh18912 : aw_H := [(81, mgx18911)]
def mgx18913 : aw_A := ms_o [(0, 8)] [(0, 4)] ar_t32 ar_t32 [(0, 180)] [(54, 54)] [(45, 60)] [(1, 8)] [(2, 2)]
def mgh18914 : aw_H := [(81, mgx18913)]
def mgx18915 : aw_A := ms_o [(0, 8)] [(0, 4)] ar_t32 ar_t32 [(0, 180)] [(55, 55)] [(45, 60)] [(1, 8)] [(2, 2)]
def mgh18916 : aw_H := [(81, mgx18915)]
def mgx18917 : aw_A := ms_o [(0, 8)] [(0, 4)] ar_t32 ar_t32 [(0, 180)] [(56, 56)] [(45, 60)] [(1, 8)] [(2, 2)]
def mgh18918 : aw_H := [(81, mgx18917)]
def mgx18919 : aw_A := ms_o [(0, 8)] [(0, 4)] ar_t32 ar_t32 [(0, 180)] [(57, 57)] [(45, 60)] [(1, 8)] [(2, 2)]
def mgh18920 : aw_H := [(81, mgx18919)]
def mgx18921 : aw_A := ms_o [(0, 8)] [(0, 4)] ar_t32 ar_t32 [(0, 180)] [(58, 58)] [(45, 60)] [(1, 8)] [(2, 2)]
def mgh18922 : aw_H := [(81, mgx18921)]
def mgx18923 : aw_A := ms_o [(0, 8)] [(0, 4)] ar_t32 ar_t32 [(0, 180)] [(59, 59)] [(45, 60)] [(1, 8)] [(2, 2)]
def mgh18924 : aw_H := [(81, mgx18923)]
def mgx18925 : aw_A := ms_o [(0, 8)] [(0, 4)] ar_t32 ar_t32 [(0, 180)] [(60, 60)] [(45, 60)] [(1, 8)] [(2, 2)]
def mgh18926 : aw_H := [(81, mgx18925)]
/-- MiceRegistersModel.skip -/
def mgc6219 : ak_C := (122, [.inl 81], mgh18759, [81], [([], none, mgh18685), ([], none, mgh18898), ([], none, mgh18900), ([], none, mgh18902), ([], none, mgh18904), ([], none, mgh18906), ([], none, mgh18908), ([], none, mgh18910), ([], none, mgh18912), ([], none, mgh18914), ([], none, mgh18916), ([], none, mgh18918), ([], none, mgh18920), ([], none, mgh18922), ([], none, mgh18924), ([], none, mgh18926)])
/-- MiceRegistersModel.readsLine -/
def mgx18927 : aw_A := ms_o [(0, 8)] [(0, 4)] ar_t32 ar_t32 [(0, 180)] [(47, 47)] [(48, 60)] [(1, 8)] [(2, 2)]
def mgh18928 : aw_H := [(81, mgx18927)]
def mgc6030 : ak_C := (124, [.inl 81], mgh18928, [], [([], some (.inr (false, [(0, 0)])), [])])
theorem mgk6030 : ai_chk [] mgc6030 (fun pc => sm_ch sm_t124 pc, sm_Kn 3 3 none, fun x => sm_lk sm_ca3 x, some .boolean) [] 3 0 [] [] 2000 [] = true := by decide +kernel
/-- MiceRegistersModel.figure -/
def mgc6031 : ak_C := (125, [.inl 81, .inr (false, [(0, 0)]), .inr (false, [(0, 7)])], mgh18555, [81], [([], some (.inr (false, [(-9, -9)])), mgh18530), ([], some (.inr (false, [(0, 7)])), mgh18012)])
def mgx18929 : aw_A := ms_o [(0, 8)] [(0, 4)] ar_t32 ar_t32 [(0, 180)] [(50, 50)] [(50, 60)] [(1, 8)] [(2, 2)]
def mgh18930 : aw_H := [(81, mgx18929)]
/-- MiceRegistersModel.figure -/
def mgc6032 : ak_C := (125, [.inl 81, .inr (false, [(1, 1)]), .inr (false, [(9, 9)])], mgh18035, [81], [([], some (.inr (false, [(-9, -9)])), mgh18012), ([], some (.inr (false, [(1, 9)])), mgh18930)])
def mgh18931 : aw_H := [(81, mgx18927), (94, mgx6150)]
def mgh18932 : aw_H := [(81, mgx18860), (94, mgx6362)]
/-- MiceRegistersModel.readsMouse -/
def mgh18933 : aw_H := [(81, mgx18927), (90, .inr (.inl (0, 240, [], []))), (94, mgx6150)]
def mgc6033 : ak_C := (127, [.inl 81], mgh18933, [81, 94], [([], some (.inr (false, [(0, 0)])), mgh18931), ([], some (.inr (false, [(1, 1)])), mgh18932), ([], some (.inr (false, [(0, 0)])), mgh18010), ([], some (.inr (false, [(0, 0)])), mgh18528)])
theorem mgk6033 : ai_chk [mgc32, mgc147, mgc6031, mgc6032] mgc6033 (fun pc => sm_ch sm_t127 pc, sm_Kn 3 5 none, fun x => sm_lk sm_ca3 x, some .boolean) [81, 94] 5 0 [] [] 2000 [] = true := by decide +kernel
def mgx18934 : aw_A := ms_o [(0, 8)] [(0, 4)] ar_t32 ar_t32 [(0, 180)] [(51, 51)] [(50, 60)] [(1, 8)] [(3, 3)]
def mgh18935 : aw_H := [(81, mgx18934)]
def mgx18936 : aw_A := ms_o [(0, 8)] [(0, 4)] ar_t32 ar_t32 [(0, 180)] [(52, 52)] [(50, 60)] [(1, 8)] [(3, 3)]
def mgh18937 : aw_H := [(81, mgx18936)]
def mgx18938 : aw_A := ms_o [(0, 8)] [(0, 4)] ar_t32 ar_t32 [(0, 180)] [(53, 53)] [(50, 60)] [(1, 8)] [(3, 3)]
def mgh18939 : aw_H := [(81, mgx18938)]
def mgx18940 : aw_A := ms_o [(0, 8)] [(0, 4)] ar_t32 ar_t32 [(0, 180)] [(54, 54)] [(50, 60)] [(1, 8)] [(3, 3)]
def mgh18941 : aw_H := [(81, mgx18940)]
def mgx18942 : aw_A := ms_o [(0, 8)] [(0, 4)] ar_t32 ar_t32 [(0, 180)] [(55, 55)] [(50, 60)] [(1, 8)] [(3, 3)]
def mgh18943 : aw_H := [(81, mgx18942)]
def mgx18944 : aw_A := ms_o [(0, 8)] [(0, 4)] ar_t32 ar_t32 [(0, 180)] [(56, 56)] [(50, 60)] [(1, 8)] [(3, 3)]
def mgh18945 : aw_H := [(81, mgx18944)]
def mgx18946 : aw_A := ms_o [(0, 8)] [(0, 4)] ar_t32 ar_t32 [(0, 180)] [(57, 57)] [(50, 60)] [(1, 8)] [(3, 3)]
def mgh18947 : aw_H := [(81, mgx18946)]
def mgx18948 : aw_A := ms_o [(0, 8)] [(0, 4)] ar_t32 ar_t32 [(0, 180)] [(58, 58)] [(50, 60)] [(1, 8)] [(3, 3)]
def mgh18949 : aw_H := [(81, mgx18948)]
def mgx18950 : aw_A := ms_o [(0, 8)] [(0, 4)] ar_t32 ar_t32 [(0, 180)] [(59, 59)] [(50, 60)] [(1, 8)] [(3, 3)]
def mgh18951 : aw_H := [(81, mgx18950)]
def mgx18952 : aw_A := ms_o [(0, 8)] [(0, 4)] ar_t32 ar_t32 [(0, 180)] [(60, 60)] [(50, 60)] [(1, 8)] [(3, 3)]
def mgh18953 : aw_H := [(81, mgx18952)]
/-- MiceRegistersModel.skip -/
def mgh18954 : aw_H := [(81, mgx18860), (90, .inr (.inl (0, 240, [], [])))]
def mgc6275 : ak_C := (122, [.inl 81], mgh18954, [81], [([], none, mgh18861), ([], none, mgh18935), ([], none, mgh18937), ([], none, mgh18939), ([], none, mgh18941), ([], none, mgh18943), ([], none, mgh18945), ([], none, mgh18947), ([], none, mgh18949), ([], none, mgh18951), ([], none, mgh18953)])
/-- MiceRegistersModel.readsLine -/
def mgx18955 : aw_A := ms_o [(0, 8)] [(0, 4)] ar_t32 ar_t32 [(0, 180)] [(46, 46)] [(47, 60)] [(1, 8)] [(2, 2)]
def mgh18956 : aw_H := [(81, mgx18955)]
def mgc6026 : ak_C := (124, [.inl 81], mgh18956, [], [([], some (.inr (false, [(0, 0)])), [])])
theorem mgk6026 : ai_chk [] mgc6026 (fun pc => sm_ch sm_t124 pc, sm_Kn 3 3 none, fun x => sm_lk sm_ca3 x, some .boolean) [] 3 0 [] [] 2000 [] = true := by decide +kernel
/-- MiceRegistersModel.figure -/
def mgc6027 : ak_C := (125, [.inl 81, .inr (false, [(0, 0)]), .inr (false, [(0, 7)])], mgh18523, [81], [([], some (.inr (false, [(-9, -9)])), mgh18496), ([], some (.inr (false, [(0, 7)])), mgh18530)])
/-- MiceRegistersModel.figure -/
def mgc6028 : ak_C := (125, [.inl 81, .inr (false, [(1, 1)]), .inr (false, [(9, 9)])], mgh18555, [81], [([], some (.inr (false, [(-9, -9)])), mgh18530), ([], some (.inr (false, [(1, 9)])), mgh18012)])
def mgh18957 : aw_H := [(81, mgx18955), (94, mgx6150)]
/-- MiceRegistersModel.readsMouse -/
def mgh18958 : aw_H := [(81, mgx18955), (90, .inr (.inl (0, 240, [], []))), (94, mgx6150)]
def mgc6029 : ak_C := (127, [.inl 81], mgh18958, [81, 94], [([], some (.inr (false, [(0, 0)])), mgh18957), ([], some (.inr (false, [(1, 1)])), mgh18866), ([], some (.inr (false, [(0, 0)])), mgh18528), ([], some (.inr (false, [(0, 0)])), mgh18494)])
theorem mgk6029 : ai_chk [mgc33, mgc147, mgc6027, mgc6028] mgc6029 (fun pc => sm_ch sm_t127 pc, sm_Kn 3 5 none, fun x => sm_lk sm_ca3 x, some .boolean) [81, 94] 5 0 [] [] 2000 [] = true := by decide +kernel
def mgx18959 : aw_A := ms_o [(0, 8)] [(0, 4)] ar_t32 ar_t32 [(0, 180)] [(50, 50)] [(49, 60)] [(1, 8)] [(3, 3)]
def mgh18960 : aw_H := [(81, mgx18959)]
def mgx18961 : aw_A := ms_o [(0, 8)] [(0, 4)] ar_t32 ar_t32 [(0, 180)] [(51, 51)] [(49, 60)] [(1, 8)] [(3, 3)]
def mgh18962 : aw_H := [(81, mgx18961)]
def mgx18963 : aw_A := ms_o [(0, 8)] [(0, 4)] ar_t32 ar_t32 [(0, 180)] [(52, 52)] [(49, 60)] [(1, 8)] [(3, 3)]
def mgh18964 : aw_H := [(81, mgx18963)]
def mgx18965 : aw_A := ms_o [(0, 8)] [(0, 4)] ar_t32 ar_t32 [(0, 180)] [(53, 53)] [(49, 60)] [(1, 8)] [(3, 3)]
def mgh18966 : aw_H := [(81, mgx18965)]
def mgx18967 : aw_A := ms_o [(0, 8)] [(0, 4)] ar_t32 ar_t32 [(0, 180)] [(54, 54)] [(49, 60)] [(1, 8)] [(3, 3)]
def mgh18968 : aw_H := [(81, mgx18967)]
def mgx18969 : aw_A := ms_o [(0, 8)] [(0, 4)] ar_t32 ar_t32 [(0, 180)] [(55, 55)] [(49, 60)] [(1, 8)] [(3, 3)]
def mgh18970 : aw_H := [(81, mgx18969)]
def mgx18971 : aw_A := ms_o [(0, 8)] [(0, 4)] ar_t32 ar_t32 [(0, 180)] [(56, 56)] [(49, 60)] [(1, 8)] [(3, 3)]
def mgh18972 : aw_H := [(81, mgx18971)]
def mgx18973 : aw_A := ms_o [(0, 8)] [(0, 4)] ar_t32 ar_t32 [(0, 180)] [(57, 57)] [(49, 60)] [(1, 8)] [(3, 3)]
def mgh18974 : aw_H := [(81, mgx18973)]
def mgx18975 : aw_A := ms_o [(0, 8)] [(0, 4)] ar_t32 ar_t32 [(0, 180)] [(58, 58)] [(49, 60)] [(1, 8)] [(3, 3)]
def mgh18976 : aw_H := [(81, mgx18975)]
def mgx18977 : aw_A := ms_o [(0, 8)] [(0, 4)] ar_t32 ar_t32 [(0, 180)] [(59, 59)] [(49, 60)] [(1, 8)] [(3, 3)]
def mgh18978 : aw_H := [(81, mgx18977)]
def mgx18979 : aw_A := ms_o [(0, 8)] [(0, 4)] ar_t32 ar_t32 [(0, 180)] [(60, 60)] [(49, 60)] [(1, 8)] [(3, 3)]
def mgh18980 : aw_H := [(81, mgx18979)]
/-- MiceRegistersModel.skip -/
def mgc6270 : ak_C := (122, [.inl 81], mgh18862, [81], [([], none, mgh18794), ([], none, mgh18960), ([], none, mgh18962), ([], none, mgh18964), ([], none, mgh18966), ([], none, mgh18968), ([], none, mgh18970), ([], none, mgh18972), ([], none, mgh18974), ([], none, mgh18976), ([], none, mgh18978), ([], none, mgh18980)])
/-- MiceRegistersModel.readsLine -/
def mgx18981 : aw_A := ms_o [(0, 8)] [(0, 4)] ar_t32 ar_t32 [(0, 180)] [(49, 49)] [(50, 60)] [(1, 8)] [(2, 2)]
def mgh18982 : aw_H := [(81, mgx18981)]
def mgc6038 : ak_C := (124, [.inl 81], mgh18982, [], [([], some (.inr (false, [(0, 0)])), [])])
theorem mgk6038 : ai_chk [] mgc6038 (fun pc => sm_ch sm_t124 pc, sm_Kn 3 3 none, fun x => sm_lk sm_ca3 x, some .boolean) [] 3 0 [] [] 2000 [] = true := by decide +kernel
/-- MiceRegistersModel.figure -/
def mgh18983 : aw_H := [(81, mgx18929), (90, .inr (.inl (0, 240, [], [])))]
def mgc6039 : ak_C := (125, [.inl 81, .inr (false, [(0, 0)]), .inr (false, [(0, 7)])], mgh18983, [81], [([], some (.inr (false, [(-9, -9)])), mgh18930), ([], some (.inr (false, [(0, 7)])), mgh18434)])
/-- MiceRegistersModel.figure -/
def mgc6040 : ak_C := (125, [.inl 81, .inr (false, [(1, 1)]), .inr (false, [(9, 9)])], mgh18453, [81], [([], some (.inr (false, [(-9, -9)])), mgh18434), ([], some (.inr (false, [(1, 9)])), mgh18356)])
def mgh18984 : aw_H := [(81, mgx18981), (94, mgx6150)]
def mgx18985 : aw_A := ms_o [(0, 8)] [(0, 4)] ar_t32 ar_t32 [(0, 180)] [(52, 52)] [(52, 60)] [(1, 8)] [(3, 3)]
def mgh18986 : aw_H := [(81, mgx18985), (94, mgx6362)]
def mgh18987 : aw_H := [(81, mgx18929), (94, mgx6150)]
/-- MiceRegistersModel.readsMouse -/
def mgh18988 : aw_H := [(81, mgx18981), (90, .inr (.inl (0, 240, [], []))), (94, mgx6150)]
def mgc6041 : ak_C := (127, [.inl 81], mgh18988, [81, 94], [([], some (.inr (false, [(0, 0)])), mgh18984), ([], some (.inr (false, [(1, 1)])), mgh18986), ([], some (.inr (false, [(0, 0)])), mgh18432), ([], some (.inr (false, [(0, 0)])), mgh18987)])
theorem mgk6041 : ai_chk [mgc30, mgc147, mgc6039, mgc6040] mgc6041 (fun pc => sm_ch sm_t127 pc, sm_Kn 3 5 none, fun x => sm_lk sm_ca3 x, some .boolean) [81, 94] 5 0 [] [] 2000 [] = true := by decide +kernel
def mgh18989 : aw_H := [(81, mgx18985)]
def mgx18990 : aw_A := ms_o [(0, 8)] [(0, 4)] ar_t32 ar_t32 [(0, 180)] [(53, 53)] [(52, 60)] [(1, 8)] [(3, 3)]
def mgh18991 : aw_H := [(81, mgx18990)]
def mgx18992 : aw_A := ms_o [(0, 8)] [(0, 4)] ar_t32 ar_t32 [(0, 180)] [(54, 54)] [(52, 60)] [(1, 8)] [(3, 3)]
def mgh18993 : aw_H := [(81, mgx18992)]
def mgx18994 : aw_A := ms_o [(0, 8)] [(0, 4)] ar_t32 ar_t32 [(0, 180)] [(55, 55)] [(52, 60)] [(1, 8)] [(3, 3)]
def mgh18995 : aw_H := [(81, mgx18994)]
def mgx18996 : aw_A := ms_o [(0, 8)] [(0, 4)] ar_t32 ar_t32 [(0, 180)] [(56, 56)] [(52, 60)] [(1, 8)] [(3, 3)]
def mgh18997 : aw_H := [(81, mgx18996)]
def mgx18998 : aw_A := ms_o [(0, 8)] [(0, 4)] ar_t32 ar_t32 [(0, 180)] [(57, 57)] [(52, 60)] [(1, 8)] [(3, 3)]
def mgh18999 : aw_H := [(81, mgx18998)]
def mgx19000 : aw_A := ms_o [(0, 8)] [(0, 4)] ar_t32 ar_t32 [(0, 180)] [(58, 58)] [(52, 60)] [(1, 8)] [(3, 3)]
def mgh19001 : aw_H := [(81, mgx19000)]
def mgx19002 : aw_A := ms_o [(0, 8)] [(0, 4)] ar_t32 ar_t32 [(0, 180)] [(59, 59)] [(52, 60)] [(1, 8)] [(3, 3)]
def mgh19003 : aw_H := [(81, mgx19002)]
def mgx19004 : aw_A := ms_o [(0, 8)] [(0, 4)] ar_t32 ar_t32 [(0, 180)] [(60, 60)] [(52, 60)] [(1, 8)] [(3, 3)]
def mgh19005 : aw_H := [(81, mgx19004)]
/-- MiceRegistersModel.skip -/
def mgh19006 : aw_H := [(81, mgx18985), (90, .inr (.inl (0, 240, [], [])))]
def mgc6285 : ak_C := (122, [.inl 81], mgh19006, [81], [([], none, mgh18989), ([], none, mgh18991), ([], none, mgh18993), ([], none, mgh18995), ([], none, mgh18997), ([], none, mgh18999), ([], none, mgh19001), ([], none, mgh19003), ([], none, mgh19005)])
/-- MiceRegistersModel.readsLine -/
def mgx19007 : aw_A := ms_o [(0, 8)] [(0, 4)] ar_t32 ar_t32 [(0, 180)] [(48, 48)] [(49, 60)] [(1, 8)] [(2, 2)]
def mgh19008 : aw_H := [(81, mgx19007)]
def mgc6034 : ak_C := (124, [.inl 81], mgh19008, [], [([], some (.inr (false, [(0, 0)])), [])])
theorem mgk6034 : ai_chk [] mgc6034 (fun pc => sm_ch sm_t124 pc, sm_Kn 3 3 none, fun x => sm_lk sm_ca3 x, some .boolean) [] 3 0 [] [] 2000 [] = true := by decide +kernel
/-- MiceRegistersModel.figure -/
def mgc6035 : ak_C := (125, [.inl 81, .inr (false, [(0, 0)]), .inr (false, [(0, 7)])], mgh18035, [81], [([], some (.inr (false, [(-9, -9)])), mgh18012), ([], some (.inr (false, [(0, 7)])), mgh18930)])
/-- MiceRegistersModel.figure -/
def mgc6036 : ak_C := (125, [.inl 81, .inr (false, [(1, 1)]), .inr (false, [(9, 9)])], mgh18983, [81], [([], some (.inr (false, [(-9, -9)])), mgh18930), ([], some (.inr (false, [(1, 9)])), mgh18434)])
def mgh19009 : aw_H := [(81, mgx19007), (94, mgx6150)]
def mgx19010 : aw_A := ms_o [(0, 8)] [(0, 4)] ar_t32 ar_t32 [(0, 180)] [(51, 51)] [(51, 60)] [(1, 8)] [(3, 3)]
def mgh19011 : aw_H := [(81, mgx19010), (94, mgx6362)]
/-- MiceRegistersModel.readsMouse -/
def mgh19012 : aw_H := [(81, mgx19007), (90, .inr (.inl (0, 240, [], []))), (94, mgx6150)]
def mgc6037 : ak_C := (127, [.inl 81], mgh19012, [81, 94], [([], some (.inr (false, [(0, 0)])), mgh19009), ([], some (.inr (false, [(1, 1)])), mgh19011), ([], some (.inr (false, [(0, 0)])), mgh18987), ([], some (.inr (false, [(0, 0)])), mgh18010)])
theorem mgk6037 : ai_chk [mgc31, mgc147, mgc6035, mgc6036] mgc6037 (fun pc => sm_ch sm_t127 pc, sm_Kn 3 5 none, fun x => sm_lk sm_ca3 x, some .boolean) [81, 94] 5 0 [] [] 2000 [] = true := by decide +kernel
def mgh19013 : aw_H := [(81, mgx19010)]
def mgx19014 : aw_A := ms_o [(0, 8)] [(0, 4)] ar_t32 ar_t32 [(0, 180)] [(52, 52)] [(51, 60)] [(1, 8)] [(3, 3)]
def mgh19015 : aw_H := [(81, mgx19014)]
def mgx19016 : aw_A := ms_o [(0, 8)] [(0, 4)] ar_t32 ar_t32 [(0, 180)] [(53, 53)] [(51, 60)] [(1, 8)] [(3, 3)]
def mgh19017 : aw_H := [(81, mgx19016)]
def mgx19018 : aw_A := ms_o [(0, 8)] [(0, 4)] ar_t32 ar_t32 [(0, 180)] [(54, 54)] [(51, 60)] [(1, 8)] [(3, 3)]
def mgh19019 : aw_H := [(81, mgx19018)]
def mgx19020 : aw_A := ms_o [(0, 8)] [(0, 4)] ar_t32 ar_t32 [(0, 180)] [(55, 55)] [(51, 60)] [(1, 8)] [(3, 3)]
def mgh19021 : aw_H := [(81, mgx19020)]
def mgx19022 : aw_A := ms_o [(0, 8)] [(0, 4)] ar_t32 ar_t32 [(0, 180)] [(56, 56)] [(51, 60)] [(1, 8)] [(3, 3)]
def mgh19023 : aw_H := [(81, mgx19022)]
def mgx19024 : aw_A := ms_o [(0, 8)] [(0, 4)] ar_t32 ar_t32 [(0, 180)] [(57, 57)] [(51, 60)] [(1, 8)] [(3, 3)]
def mgh19025 : aw_H := [(81, mgx19024)]
def mgx19026 : aw_A := ms_o [(0, 8)] [(0, 4)] ar_t32 ar_t32 [(0, 180)] [(58, 58)] [(51, 60)] [(1, 8)] [(3, 3)]
def mgh19027 : aw_H := [(81, mgx19026)]
def mgx19028 : aw_A := ms_o [(0, 8)] [(0, 4)] ar_t32 ar_t32 [(0, 180)] [(59, 59)] [(51, 60)] [(1, 8)] [(3, 3)]
def mgh19029 : aw_H := [(81, mgx19028)]
def mgx19030 : aw_A := ms_o [(0, 8)] [(0, 4)] ar_t32 ar_t32 [(0, 180)] [(60, 60)] [(51, 60)] [(1, 8)] [(3, 3)]
def mgh19031 : aw_H := [(81, mgx19030)]
/-- MiceRegistersModel.skip -/
def mgh19032 : aw_H := [(81, mgx19010), (90, .inr (.inl (0, 240, [], [])))]
def mgc6280 : ak_C := (122, [.inl 81], mgh19032, [81], [([], none, mgh19013), ([], none, mgh19015), ([], none, mgh19017), ([], none, mgh19019), ([], none, mgh19021), ([], none, mgh19023), ([], none, mgh19025), ([], none, mgh19027), ([], none, mgh19029), ([], none, mgh19031)])
/-- MiceRegistersModel.readsLine -/
def mgx19033 : aw_A := ms_o [(0, 8)] [(0, 4)] ar_t32 ar_t32 [(0, 180)] [(45, 45)] [(46, 60)] [(1, 8)] [(2, 2)]
def mgh19034 : aw_H := [(81, mgx19033)]
def mgc6022 : ak_C := (124, [.inl 81], mgh19034, [], [([], some (.inr (false, [(0, 0)])), [])])
theorem mgk6022 : ai_chk [] mgc6022 (fun pc => sm_ch sm_t124 pc, sm_Kn 3 3 none, fun x => sm_lk sm_ca3 x, some .boolean) [] 3 0 [] [] 2000 [] = true := by decide +kernel
/-- MiceRegistersModel.figure -/
def mgc6023 : ak_C := (125, [.inl 81, .inr (false, [(0, 0)]), .inr (false, [(0, 7)])], mgh18489, [81], [([], some (.inr (false, [(-9, -9)])), mgh18460), ([], some (.inr (false, [(0, 7)])), mgh18496)])
/-- MiceRegistersModel.figure -/
def mgc6024 : ak_C := (125, [.inl 81, .inr (false, [(1, 1)]), .inr (false, [(9, 9)])], mgh18523, [81], [([], some (.inr (false, [(-9, -9)])), mgh18496), ([], some (.inr (false, [(1, 9)])), mgh18530)])
def mgh19035 : aw_H := [(81, mgx19033), (94, mgx6150)]
/-- MiceRegistersModel.readsMouse -/
def mgh19036 : aw_H := [(81, mgx19033), (90, .inr (.inl (0, 240, [], []))), (94, mgx6150)]
def mgc6025 : ak_C := (127, [.inl 81], mgh19036, [81, 94], [([], some (.inr (false, [(0, 0)])), mgh19035), ([], some (.inr (false, [(1, 1)])), mgh18799), ([], some (.inr (false, [(0, 0)])), mgh18494), ([], some (.inr (false, [(0, 0)])), mgh18458)])
theorem mgk6025 : ai_chk [mgc34, mgc147, mgc6023, mgc6024] mgc6025 (fun pc => sm_ch sm_t127 pc, sm_Kn 3 5 none, fun x => sm_lk sm_ca3 x, some .boolean) [81, 94] 5 0 [] [] 2000 [] = true := by decide +kernel
def mgx19037 : aw_A := ms_o [(0, 8)] [(0, 4)] ar_t32 ar_t32 [(0, 180)] [(49, 49)] [(48, 60)] [(1, 8)] [(3, 3)]
def mgh19038 : aw_H := [(81, mgx19037)]
def mgx19039 : aw_A := ms_o [(0, 8)] [(0, 4)] ar_t32 ar_t32 [(0, 180)] [(50, 50)] [(48, 60)] [(1, 8)] [(3, 3)]
def mgh19040 : aw_H := [(81, mgx19039)]
def mgx19041 : aw_A := ms_o [(0, 8)] [(0, 4)] ar_t32 ar_t32 [(0, 180)] [(51, 51)] [(48, 60)] [(1, 8)] [(3, 3)]
def mgh19042 : aw_H := [(81, mgx19041)]
def mgx19043 : aw_A := ms_o [(0, 8)] [(0, 4)] ar_t32 ar_t32 [(0, 180)] [(52, 52)] [(48, 60)] [(1, 8)] [(3, 3)]
def mgh19044 : aw_H := [(81, mgx19043)]
def mgx19045 : aw_A := ms_o [(0, 8)] [(0, 4)] ar_t32 ar_t32 [(0, 180)] [(53, 53)] [(48, 60)] [(1, 8)] [(3, 3)]
def mgh19046 : aw_H := [(81, mgx19045)]
def mgx19047 : aw_A := ms_o [(0, 8)] [(0, 4)] ar_t32 ar_t32 [(0, 180)] [(54, 54)] [(48, 60)] [(1, 8)] [(3, 3)]
def mgh19048 : aw_H := [(81, mgx19047)]
def mgx19049 : aw_A := ms_o [(0, 8)] [(0, 4)] ar_t32 ar_t32 [(0, 180)] [(55, 55)] [(48, 60)] [(1, 8)] [(3, 3)]
def mgh19050 : aw_H := [(81, mgx19049)]
def mgx19051 : aw_A := ms_o [(0, 8)] [(0, 4)] ar_t32 ar_t32 [(0, 180)] [(56, 56)] [(48, 60)] [(1, 8)] [(3, 3)]
def mgh19052 : aw_H := [(81, mgx19051)]
def mgx19053 : aw_A := ms_o [(0, 8)] [(0, 4)] ar_t32 ar_t32 [(0, 180)] [(57, 57)] [(48, 60)] [(1, 8)] [(3, 3)]
def mgh19054 : aw_H := [(81, mgx19053)]
def mgx19055 : aw_A := ms_o [(0, 8)] [(0, 4)] ar_t32 ar_t32 [(0, 180)] [(58, 58)] [(48, 60)] [(1, 8)] [(3, 3)]
def mgh19056 : aw_H := [(81, mgx19055)]
def mgx19057 : aw_A := ms_o [(0, 8)] [(0, 4)] ar_t32 ar_t32 [(0, 180)] [(59, 59)] [(48, 60)] [(1, 8)] [(3, 3)]
def mgh19058 : aw_H := [(81, mgx19057)]
def mgx19059 : aw_A := ms_o [(0, 8)] [(0, 4)] ar_t32 ar_t32 [(0, 180)] [(60, 60)] [(48, 60)] [(1, 8)] [(3, 3)]
def mgh19060 : aw_H := [(81, mgx19059)]
/-- MiceRegistersModel.skip -/
def mgc6265 : ak_C := (122, [.inl 81], mgh18795, [81], [([], none, mgh18721), ([], none, mgh19038), ([], none, mgh19040), ([], none, mgh19042), ([], none, mgh19044), ([], none, mgh19046), ([], none, mgh19048), ([], none, mgh19050), ([], none, mgh19052), ([], none, mgh19054), ([], none, mgh19056), ([], none, mgh19058), ([], none, mgh19060)])
/-- MiceRegistersModel.readsLine -/
def mgx19061 : aw_A := ms_o [(0, 8)] [(0, 4)] ar_t32 ar_t32 [(0, 180)] [(50, 50)] [(51, 60)] [(1, 8)] [(3, 3)]
def mgh19062 : aw_H := [(81, mgx19061)]
def mgc6167 : ak_C := (124, [.inl 81], mgh19062, [], [([], some (.inr (false, [(0, 0)])), [])])
theorem mgk6167 : ai_chk [] mgc6167 (fun pc => sm_ch sm_t124 pc, sm_Kn 3 3 none, fun x => sm_lk sm_ca3 x, some .boolean) [] 3 0 [] [] 2000 [] = true := by decide +kernel
/-- MiceRegistersModel.figure -/
def mgc6168 : ak_C := (125, [.inl 81, .inr (false, [(0, 0)]), .inr (false, [(0, 7)])], mgh19032, [81], [([], some (.inr (false, [(-9, -9)])), mgh19013), ([], some (.inr (false, [(0, 7)])), mgh18989)])
def mgx19063 : aw_A := ms_o [(0, 8)] [(0, 4)] ar_t32 ar_t32 [(0, 180)] [(53, 53)] [(53, 60)] [(1, 8)] [(3, 3)]
def mgh19064 : aw_H := [(81, mgx19063)]
/-- MiceRegistersModel.figure -/
def mgc6169 : ak_C := (125, [.inl 81, .inr (false, [(1, 1)]), .inr (false, [(9, 9)])], mgh19006, [81], [([], some (.inr (false, [(-9, -9)])), mgh18989), ([], some (.inr (false, [(1, 9)])), mgh19064)])
def mgh19065 : aw_H := [(81, mgx19061), (94, mgx6362)]
def mgx19066 : aw_A := ms_o [(0, 8)] [(0, 4)] ar_t32 ar_t32 [(0, 180)] [(53, 53)] [(53, 60)] [(1, 8)] [(4, 4)]
def mgh19067 : aw_H := [(81, mgx19066), (94, mgx6473)]
/-- MiceRegistersModel.readsMouse -/
def mgh19068 : aw_H := [(81, mgx19061), (90, .inr (.inl (0, 240, [], []))), (94, mgx6362)]
def mgc6170 : ak_C := (127, [.inl 81], mgh19068, [81, 94], [([], some (.inr (false, [(0, 0)])), mgh19065), ([], some (.inr (false, [(1, 1)])), mgh19067), ([], some (.inr (false, [(0, 0)])), mgh18986), ([], some (.inr (false, [(0, 0)])), mgh19011)])
theorem mgk6170 : ai_chk [mgc29, mgc147, mgc6168, mgc6169] mgc6170 (fun pc => sm_ch sm_t127 pc, sm_Kn 3 5 none, fun x => sm_lk sm_ca3 x, some .boolean) [81, 94] 5 0 [] [] 2000 [] = true := by decide +kernel
def mgh19069 : aw_H := [(81, mgx19066)]
def mgx19070 : aw_A := ms_o [(0, 8)] [(0, 4)] ar_t32 ar_t32 [(0, 180)] [(54, 54)] [(53, 60)] [(1, 8)] [(4, 4)]
def mgh19071 : aw_H := [(81, mgx19070)]
def mgx19072 : aw_A := ms_o [(0, 8)] [(0, 4)] ar_t32 ar_t32 [(0, 180)] [(55, 55)] [(53, 60)] [(1, 8)] [(4, 4)]
def mgh19073 : aw_H := [(81, mgx19072)]
def mgx19074 : aw_A := ms_o [(0, 8)] [(0, 4)] ar_t32 ar_t32 [(0, 180)] [(56, 56)] [(53, 60)] [(1, 8)] [(4, 4)]
def mgh19075 : aw_H := [(81, mgx19074)]
def mgx19076 : aw_A := ms_o [(0, 8)] [(0, 4)] ar_t32 ar_t32 [(0, 180)] [(57, 57)] [(53, 60)] [(1, 8)] [(4, 4)]
def mgh19077 : aw_H := [(81, mgx19076)]
def mgx19078 : aw_A := ms_o [(0, 8)] [(0, 4)] ar_t32 ar_t32 [(0, 180)] [(58, 58)] [(53, 60)] [(1, 8)] [(4, 4)]
def mgh19079 : aw_H := [(81, mgx19078)]
def mgx19080 : aw_A := ms_o [(0, 8)] [(0, 4)] ar_t32 ar_t32 [(0, 180)] [(59, 59)] [(53, 60)] [(1, 8)] [(4, 4)]
def mgh19081 : aw_H := [(81, mgx19080)]
def mgx19082 : aw_A := ms_o [(0, 8)] [(0, 4)] ar_t32 ar_t32 [(0, 180)] [(60, 60)] [(53, 60)] [(1, 8)] [(4, 4)]
def mgh19083 : aw_H := [(81, mgx19082)]
/-- MiceRegistersModel.skip -/
def mgh19084 : aw_H := [(81, mgx19066), (90, .inr (.inl (0, 240, [], [])))]
def mgc6291 : ak_C := (122, [.inl 81], mgh19084, [81], [([], none, mgh19069), ([], none, mgh19071), ([], none, mgh19073), ([], none, mgh19075), ([], none, mgh19077), ([], none, mgh19079), ([], none, mgh19081), ([], none, mgh19083)])
/-- MiceRegistersModel.readsLine -/
def mgx19085 : aw_A := ms_o [(0, 8)] [(0, 4)] ar_t32 ar_t32 [(0, 180)] [(52, 52)] [(53, 60)] [(1, 8)] [(3, 3)]
def mgh19086 : aw_H := [(81, mgx19085)]
def mgc6175 : ak_C := (124, [.inl 81], mgh19086, [], [([], some (.inr (false, [(0, 0)])), [])])
theorem mgk6175 : ai_chk [] mgc6175 (fun pc => sm_ch sm_t124 pc, sm_Kn 3 3 none, fun x => sm_lk sm_ca3 x, some .boolean) [] 3 0 [] [] 2000 [] = true := by decide +kernel
def mgx19087 : aw_A := ms_o [(0, 8)] [(0, 4)] ar_t32 ar_t32 [(0, 180)] [(54, 54)] [(54, 60)] [(1, 8)] [(3, 3)]
def mgh19088 : aw_H := [(81, mgx19087)]
/-- MiceRegistersModel.figure -/
def mgh19089 : aw_H := [(81, mgx19063), (90, .inr (.inl (0, 240, [], [])))]
def mgc6176 : ak_C := (125, [.inl 81, .inr (false, [(0, 0)]), .inr (false, [(0, 7)])], mgh19089, [81], [([], some (.inr (false, [(-9, -9)])), mgh19064), ([], some (.inr (false, [(0, 7)])), mgh19088)])
def mgx19090 : aw_A := ms_o [(0, 8)] [(0, 4)] ar_t32 ar_t32 [(0, 180)] [(55, 55)] [(55, 60)] [(1, 8)] [(3, 3)]
def mgh19091 : aw_H := [(81, mgx19090)]
/-- MiceRegistersModel.figure -/
def mgh19092 : aw_H := [(81, mgx19087), (90, .inr (.inl (0, 240, [], [])))]
def mgc6177 : ak_C := (125, [.inl 81, .inr (false, [(1, 1)]), .inr (false, [(9, 9)])], mgh19092, [81], [([], some (.inr (false, [(-9, -9)])), mgh19088), ([], some (.inr (false, [(1, 9)])), mgh19091)])
def mgh19093 : aw_H := [(81, mgx19085), (94, mgx6362)]
def mgx19094 : aw_A := ms_o [(0, 8)] [(0, 4)] ar_t32 ar_t32 [(0, 180)] [(55, 55)] [(55, 60)] [(1, 8)] [(4, 4)]
def mgh19095 : aw_H := [(81, mgx19094), (94, mgx6473)]
def mgh19096 : aw_H := [(81, mgx19087), (94, mgx6362)]
def mgh19097 : aw_H := [(81, mgx19063), (94, mgx6362)]
/-- MiceRegistersModel.readsMouse -/
def mgh19098 : aw_H := [(81, mgx19085), (90, .inr (.inl (0, 240, [], []))), (94, mgx6362)]
def mgc6178 : ak_C := (127, [.inl 81], mgh19098, [81, 94], [([], some (.inr (false, [(0, 0)])), mgh19093), ([], some (.inr (false, [(1, 1)])), mgh19095), ([], some (.inr (false, [(0, 0)])), mgh19096), ([], some (.inr (false, [(0, 0)])), mgh19097)])
theorem mgk6178 : ai_chk [mgc27, mgc147, mgc6176, mgc6177] mgc6178 (fun pc => sm_ch sm_t127 pc, sm_Kn 3 5 none, fun x => sm_lk sm_ca3 x, some .boolean) [81, 94] 5 0 [] [] 2000 [] = true := by decide +kernel
def mgh19099 : aw_H := [(81, mgx19094)]
def mgx19100 : aw_A := ms_o [(0, 8)] [(0, 4)] ar_t32 ar_t32 [(0, 180)] [(56, 56)] [(55, 60)] [(1, 8)] [(4, 4)]
def mgh19101 : aw_H := [(81, mgx19100)]
def mgx19102 : aw_A := ms_o [(0, 8)] [(0, 4)] ar_t32 ar_t32 [(0, 180)] [(57, 57)] [(55, 60)] [(1, 8)] [(4, 4)]
def mgh19103 : aw_H := [(81, mgx19102)]
def mgx19104 : aw_A := ms_o [(0, 8)] [(0, 4)] ar_t32 ar_t32 [(0, 180)] [(58, 58)] [(55, 60)] [(1, 8)] [(4, 4)]
def mgh19105 : aw_H := [(81, mgx19104)]
def mgx19106 : aw_A := ms_o [(0, 8)] [(0, 4)] ar_t32 ar_t32 [(0, 180)] [(59, 59)] [(55, 60)] [(1, 8)] [(4, 4)]
def mgh19107 : aw_H := [(81, mgx19106)]
def mgx19108 : aw_A := ms_o [(0, 8)] [(0, 4)] ar_t32 ar_t32 [(0, 180)] [(60, 60)] [(55, 60)] [(1, 8)] [(4, 4)]
def mgh19109 : aw_H := [(81, mgx19108)]
/-- MiceRegistersModel.skip -/
def mgh19110 : aw_H := [(81, mgx19094), (90, .inr (.inl (0, 240, [], [])))]
def mgc6301 : ak_C := (122, [.inl 81], mgh19110, [81], [([], none, mgh19099), ([], none, mgh19101), ([], none, mgh19103), ([], none, mgh19105), ([], none, mgh19107), ([], none, mgh19109)])
/-- MiceRegistersModel.readsLine -/
def mgx19111 : aw_A := ms_o [(0, 8)] [(0, 4)] ar_t32 ar_t32 [(0, 180)] [(51, 51)] [(52, 60)] [(1, 8)] [(3, 3)]
def mgh19112 : aw_H := [(81, mgx19111)]
def mgc6171 : ak_C := (124, [.inl 81], mgh19112, [], [([], some (.inr (false, [(0, 0)])), [])])
theorem mgk6171 : ai_chk [] mgc6171 (fun pc => sm_ch sm_t124 pc, sm_Kn 3 3 none, fun x => sm_lk sm_ca3 x, some .boolean) [] 3 0 [] [] 2000 [] = true := by decide +kernel
/-- MiceRegistersModel.figure -/
def mgc6172 : ak_C := (125, [.inl 81, .inr (false, [(0, 0)]), .inr (false, [(0, 7)])], mgh19006, [81], [([], some (.inr (false, [(-9, -9)])), mgh18989), ([], some (.inr (false, [(0, 7)])), mgh19064)])
/-- MiceRegistersModel.figure -/
def mgc6173 : ak_C := (125, [.inl 81, .inr (false, [(1, 1)]), .inr (false, [(9, 9)])], mgh19089, [81], [([], some (.inr (false, [(-9, -9)])), mgh19064), ([], some (.inr (false, [(1, 9)])), mgh19088)])
def mgh19113 : aw_H := [(81, mgx19111), (94, mgx6362)]
def mgx19114 : aw_A := ms_o [(0, 8)] [(0, 4)] ar_t32 ar_t32 [(0, 180)] [(54, 54)] [(54, 60)] [(1, 8)] [(4, 4)]
def mgh19115 : aw_H := [(81, mgx19114), (94, mgx6473)]
/-- MiceRegistersModel.readsMouse -/
def mgh19116 : aw_H := [(81, mgx19111), (90, .inr (.inl (0, 240, [], []))), (94, mgx6362)]
def mgc6174 : ak_C := (127, [.inl 81], mgh19116, [81, 94], [([], some (.inr (false, [(0, 0)])), mgh19113), ([], some (.inr (false, [(1, 1)])), mgh19115), ([], some (.inr (false, [(0, 0)])), mgh19097), ([], some (.inr (false, [(0, 0)])), mgh18986)])
theorem mgk6174 : ai_chk [mgc28, mgc147, mgc6172, mgc6173] mgc6174 (fun pc => sm_ch sm_t127 pc, sm_Kn 3 5 none, fun x => sm_lk sm_ca3 x, some .boolean) [81, 94] 5 0 [] [] 2000 [] = true := by decide +kernel
def mgh19117 : aw_H := [(81, mgx19114)]
def mgx19118 : aw_A := ms_o [(0, 8)] [(0, 4)] ar_t32 ar_t32 [(0, 180)] [(55, 55)] [(54, 60)] [(1, 8)] [(4, 4)]
def mgh19119 : aw_H := [(81, mgx19118)]
def mgx19120 : aw_A := ms_o [(0, 8)] [(0, 4)] ar_t32 ar_t32 [(0, 180)] [(56, 56)] [(54, 60)] [(1, 8)] [(4, 4)]
def mgh19121 : aw_H := [(81, mgx19120)]
def mgx19122 : aw_A := ms_o [(0, 8)] [(0, 4)] ar_t32 ar_t32 [(0, 180)] [(57, 57)] [(54, 60)] [(1, 8)] [(4, 4)]
def mgh19123 : aw_H := [(81, mgx19122)]
def mgx19124 : aw_A := ms_o [(0, 8)] [(0, 4)] ar_t32 ar_t32 [(0, 180)] [(58, 58)] [(54, 60)] [(1, 8)] [(4, 4)]
def mgh19125 : aw_H := [(81, mgx19124)]
def mgx19126 : aw_A := ms_o [(0, 8)] [(0, 4)] ar_t32 ar_t32 [(0, 180)] [(59, 59)] [(54, 60)] [(1, 8)] [(4, 4)]
def mgh19127 : aw_H := [(81, mgx19126)]
def mgx19128 : aw_A := ms_o [(0, 8)] [(0, 4)] ar_t32 ar_t32 [(0, 180)] [(60, 60)] [(54, 60)] [(1, 8)] [(4, 4)]
def mgh19129 : aw_H := [(81, mgx19128)]
/-- MiceRegistersModel.skip -/
def mgh19130 : aw_H := [(81, mgx19114), (90, .inr (.inl (0, 240, [], [])))]
def mgc6296 : ak_C := (122, [.inl 81], mgh19130, [81], [([], none, mgh19117), ([], none, mgh19119), ([], none, mgh19121), ([], none, mgh19123), ([], none, mgh19125), ([], none, mgh19127), ([], none, mgh19129)])
/-- MiceRegistersModel.readsLine -/
def mgx19131 : aw_A := ms_o [(0, 8)] [(0, 4)] ar_t32 ar_t32 [(0, 180)] [(49, 49)] [(50, 60)] [(1, 8)] [(3, 3)]
def mgh19132 : aw_H := [(81, mgx19131)]
def mgc6163 : ak_C := (124, [.inl 81], mgh19132, [], [([], some (.inr (false, [(0, 0)])), [])])
theorem mgk6163 : ai_chk [] mgc6163 (fun pc => sm_ch sm_t124 pc, sm_Kn 3 3 none, fun x => sm_lk sm_ca3 x, some .boolean) [] 3 0 [] [] 2000 [] = true := by decide +kernel
/-- MiceRegistersModel.figure -/
def mgc6164 : ak_C := (125, [.inl 81, .inr (false, [(0, 0)]), .inr (false, [(0, 7)])], mgh18954, [81], [([], some (.inr (false, [(-9, -9)])), mgh18861), ([], some (.inr (false, [(0, 7)])), mgh19013)])
/-- MiceRegistersModel.figure -/
def mgc6165 : ak_C := (125, [.inl 81, .inr (false, [(1, 1)]), .inr (false, [(9, 9)])], mgh19032, [81], [([], some (.inr (false, [(-9, -9)])), mgh19013), ([], some (.inr (false, [(1, 9)])), mgh18989)])
def mgh19133 : aw_H := [(81, mgx19131), (94, mgx6362)]
def mgx19134 : aw_A := ms_o [(0, 8)] [(0, 4)] ar_t32 ar_t32 [(0, 180)] [(52, 52)] [(52, 60)] [(1, 8)] [(4, 4)]
def mgh19135 : aw_H := [(81, mgx19134), (94, mgx6473)]
/-- MiceRegistersModel.readsMouse -/
def mgh19136 : aw_H := [(81, mgx19131), (90, .inr (.inl (0, 240, [], []))), (94, mgx6362)]
def mgc6166 : ak_C := (127, [.inl 81], mgh19136, [81, 94], [([], some (.inr (false, [(0, 0)])), mgh19133), ([], some (.inr (false, [(1, 1)])), mgh19135), ([], some (.inr (false, [(0, 0)])), mgh19011), ([], some (.inr (false, [(0, 0)])), mgh18932)])
theorem mgk6166 : ai_chk [mgc30, mgc147, mgc6164, mgc6165] mgc6166 (fun pc => sm_ch sm_t127 pc, sm_Kn 3 5 none, fun x => sm_lk sm_ca3 x, some .boolean) [81, 94] 5 0 [] [] 2000 [] = true := by decide +kernel
def mgh19137 : aw_H := [(81, mgx19134)]
def mgx19138 : aw_A := ms_o [(0, 8)] [(0, 4)] ar_t32 ar_t32 [(0, 180)] [(53, 53)] [(52, 60)] [(1, 8)] [(4, 4)]
def mgh19139 : aw_H := [(81, mgx19138)]
def mgx19140 : aw_A := ms_o [(0, 8)] [(0, 4)] ar_t32 ar_t32 [(0, 180)] [(54, 54)] [(52, 60)] [(1, 8)] [(4, 4)]
def mgh19141 : aw_H := [(81, mgx19140)]
def mgx19142 : aw_A := ms_o [(0, 8)] [(0, 4)] ar_t32 ar_t32 [(0, 180)] [(55, 55)] [(52, 60)] [(1, 8)] [(4, 4)]
def mgh19143 : aw_H := [(81, mgx19142)]
def mgx19144 : aw_A := ms_o [(0, 8)] [(0, 4)] ar_t32 ar_t32 [(0, 180)] [(56, 56)] [(52, 60)] [(1, 8)] [(4, 4)]
def mgh19145 : aw_H := [(81, mgx19144)]
def mgx19146 : aw_A := ms_o [(0, 8)] [(0, 4)] ar_t32 ar_t32 [(0, 180)] [(57, 57)] [(52, 60)] [(1, 8)] [(4, 4)]
def mgh19147 : aw_H := [(81, mgx19146)]
def mgx19148 : aw_A := ms_o [(0, 8)] [(0, 4)] ar_t32 ar_t32 [(0, 180)] [(58, 58)] [(52, 60)] [(1, 8)] [(4, 4)]
def mgh19149 : aw_H := [(81, mgx19148)]
def mgx19150 : aw_A := ms_o [(0, 8)] [(0, 4)] ar_t32 ar_t32 [(0, 180)] [(59, 59)] [(52, 60)] [(1, 8)] [(4, 4)]
def mgh19151 : aw_H := [(81, mgx19150)]
def mgx19152 : aw_A := ms_o [(0, 8)] [(0, 4)] ar_t32 ar_t32 [(0, 180)] [(60, 60)] [(52, 60)] [(1, 8)] [(4, 4)]
def mgh19153 : aw_H := [(81, mgx19152)]
/-- MiceRegistersModel.skip -/
def mgh19154 : aw_H := [(81, mgx19134), (90, .inr (.inl (0, 240, [], [])))]
def mgc6286 : ak_C := (122, [.inl 81], mgh19154, [81], [([], none, mgh19137), ([], none, mgh19139), ([], none, mgh19141), ([], none, mgh19143), ([], none, mgh19145), ([], none, mgh19147), ([], none, mgh19149), ([], none, mgh19151), ([], none, mgh19153)])
/-- MiceRegistersModel.readsLine -/
def mgx19155 : aw_A := ms_o [(0, 8)] [(0, 4)] ar_t32 ar_t32 [(0, 180)] [(48, 48)] [(49, 60)] [(1, 8)] [(3, 3)]
def mgh19156 : aw_H := [(81, mgx19155)]
def mgc6159 : ak_C := (124, [.inl 81], mgh19156, [], [([], some (.inr (false, [(0, 0)])), [])])
theorem mgk6159 : ai_chk [] mgc6159 (fun pc => sm_ch sm_t124 pc, sm_Kn 3 3 none, fun x => sm_lk sm_ca3 x, some .boolean) [] 3 0 [] [] 2000 [] = true := by decide +kernel
/-- MiceRegistersModel.figure -/
def mgc6160 : ak_C := (125, [.inl 81, .inr (false, [(0, 0)]), .inr (false, [(0, 7)])], mgh18862, [81], [([], some (.inr (false, [(-9, -9)])), mgh18794), ([], some (.inr (false, [(0, 7)])), mgh18861)])
/-- MiceRegistersModel.figure -/
def mgc6161 : ak_C := (125, [.inl 81, .inr (false, [(1, 1)]), .inr (false, [(9, 9)])], mgh18954, [81], [([], some (.inr (false, [(-9, -9)])), mgh18861), ([], some (.inr (false, [(1, 9)])), mgh19013)])
def mgh19157 : aw_H := [(81, mgx19155), (94, mgx6362)]
def mgx19158 : aw_A := ms_o [(0, 8)] [(0, 4)] ar_t32 ar_t32 [(0, 180)] [(51, 51)] [(51, 60)] [(1, 8)] [(4, 4)]
def mgh19159 : aw_H := [(81, mgx19158), (94, mgx6473)]
/-- MiceRegistersModel.readsMouse -/
def mgh19160 : aw_H := [(81, mgx19155), (90, .inr (.inl (0, 240, [], []))), (94, mgx6362)]
def mgc6162 : ak_C := (127, [.inl 81], mgh19160, [81, 94], [([], some (.inr (false, [(0, 0)])), mgh19157), ([], some (.inr (false, [(1, 1)])), mgh19159), ([], some (.inr (false, [(0, 0)])), mgh18932), ([], some (.inr (false, [(0, 0)])), mgh18866)])
theorem mgk6162 : ai_chk [mgc31, mgc147, mgc6160, mgc6161] mgc6162 (fun pc => sm_ch sm_t127 pc, sm_Kn 3 5 none, fun x => sm_lk sm_ca3 x, some .boolean) [81, 94] 5 0 [] [] 2000 [] = true := by decide +kernel
def mgh19161 : aw_H := [(81, mgx19158)]
def mgx19162 : aw_A := ms_o [(0, 8)] [(0, 4)] ar_t32 ar_t32 [(0, 180)] [(52, 52)] [(51, 60)] [(1, 8)] [(4, 4)]
def mgh19163 : aw_H := [(81, mgx19162)]
def mgx19164 : aw_A := ms_o [(0, 8)] [(0, 4)] ar_t32 ar_t32 [(0, 180)] [(53, 53)] [(51, 60)] [(1, 8)] [(4, 4)]
def mgh19165 : aw_H := [(81, mgx19164)]
def mgx19166 : aw_A := ms_o [(0, 8)] [(0, 4)] ar_t32 ar_t32 [(0, 180)] [(54, 54)] [(51, 60)] [(1, 8)] [(4, 4)]
def mgh19167 : aw_H := [(81, mgx19166)]
def mgx19168 : aw_A := ms_o [(0, 8)] [(0, 4)] ar_t32 ar_t32 [(0, 180)] [(55, 55)] [(51, 60)] [(1, 8)] [(4, 4)]
def mgh19169 : aw_H := [(81, mgx19168)]
def mgx19170 : aw_A := ms_o [(0, 8)] [(0, 4)] ar_t32 ar_t32 [(0, 180)] [(56, 56)] [(51, 60)] [(1, 8)] [(4, 4)]
def mgh19171 : aw_H := [(81, mgx19170)]
def mgx19172 : aw_A := ms_o [(0, 8)] [(0, 4)] ar_t32 ar_t32 [(0, 180)] [(57, 57)] [(51, 60)] [(1, 8)] [(4, 4)]
def mgh19173 : aw_H := [(81, mgx19172)]
def mgx19174 : aw_A := ms_o [(0, 8)] [(0, 4)] ar_t32 ar_t32 [(0, 180)] [(58, 58)] [(51, 60)] [(1, 8)] [(4, 4)]
def mgh19175 : aw_H := [(81, mgx19174)]
def mgx19176 : aw_A := ms_o [(0, 8)] [(0, 4)] ar_t32 ar_t32 [(0, 180)] [(59, 59)] [(51, 60)] [(1, 8)] [(4, 4)]
def mgh19177 : aw_H := [(81, mgx19176)]
def mgx19178 : aw_A := ms_o [(0, 8)] [(0, 4)] ar_t32 ar_t32 [(0, 180)] [(60, 60)] [(51, 60)] [(1, 8)] [(4, 4)]
def mgh19179 : aw_H := [(81, mgx19178)]
/-- MiceRegistersModel.skip -/
def mgh19180 : aw_H := [(81, mgx19158), (90, .inr (.inl (0, 240, [], [])))]
def mgc6281 : ak_C := (122, [.inl 81], mgh19180, [81], [([], none, mgh19161), ([], none, mgh19163), ([], none, mgh19165), ([], none, mgh19167), ([], none, mgh19169), ([], none, mgh19171), ([], none, mgh19173), ([], none, mgh19175), ([], none, mgh19177), ([], none, mgh19179)])
/-- MiceRegistersModel.readsLine -/
def mgx19181 : aw_A := ms_o [(0, 8)] [(0, 4)] ar_t32 ar_t32 [(0, 180)] [(51, 51)] [(52, 60)] [(1, 8)] [(4, 4)]
def mgh19182 : aw_H := [(81, mgx19181)]
def mgc6234 : ak_C := (124, [.inl 81], mgh19182, [], [([], some (.inr (false, [(0, 0)])), [])])
theorem mgk6234 : ai_chk [] mgc6234 (fun pc => sm_ch sm_t124 pc, sm_Kn 3 3 none, fun x => sm_lk sm_ca3 x, some .boolean) [] 3 0 [] [] 2000 [] = true := by decide +kernel
/-- MiceRegistersModel.readsMouse -/
def mgh19183 : aw_H := [(81, mgx19181), (90, .inr (.inl (0, 240, [], [])))]
def mgc6235 : ak_C := (127, [.inl 81], mgh19183, [], [([], some (.inr (false, [(0, 0)])), [])])
theorem mgk6235 : ai_chk [mgc28, mgc147] mgc6235 (fun pc => sm_ch sm_t127 pc, sm_Kn 3 5 none, fun x => sm_lk sm_ca3 x, some .boolean) [] 5 0 [] [] 2000 [] = true := by decide +kernel
/-- MiceRegistersModel.readsLine -/
def mgx19184 : aw_A := ms_o [(0, 8)] [(0, 4)] ar_t32 ar_t32 [(0, 180)] [(55, 55)] [(56, 60)] [(1, 8)] [(4, 4)]
def mgh19185 : aw_H := [(81, mgx19184)]
def mgc6242 : ak_C := (124, [.inl 81], mgh19185, [], [([], some (.inr (false, [(0, 0)])), [])])
theorem mgk6242 : ai_chk [] mgc6242 (fun pc => sm_ch sm_t124 pc, sm_Kn 3 3 none, fun x => sm_lk sm_ca3 x, some .boolean) [] 3 0 [] [] 2000 [] = true := by decide +kernel
/-- MiceRegistersModel.readsMouse -/
def mgh19186 : aw_H := [(81, mgx19184), (90, .inr (.inl (0, 240, [], [])))]
def mgc6243 : ak_C := (127, [.inl 81], mgh19186, [], [([], some (.inr (false, [(0, 0)])), [])])
theorem mgk6243 : ai_chk [mgc24, mgc147] mgc6243 (fun pc => sm_ch sm_t127 pc, sm_Kn 3 5 none, fun x => sm_lk sm_ca3 x, some .boolean) [] 5 0 [] [] 2000 [] = true := by decide +kernel
/-- MiceRegistersModel.readsLine -/
def mgx19187 : aw_A := ms_o [(0, 8)] [(0, 4)] ar_t32 ar_t32 [(0, 180)] [(52, 52)] [(53, 60)] [(1, 8)] [(4, 4)]
def mgh19188 : aw_H := [(81, mgx19187)]
def mgc6236 : ak_C := (124, [.inl 81], mgh19188, [], [([], some (.inr (false, [(0, 0)])), [])])
theorem mgk6236 : ai_chk [] mgc6236 (fun pc => sm_ch sm_t124 pc, sm_Kn 3 3 none, fun x => sm_lk sm_ca3 x, some .boolean) [] 3 0 [] [] 2000 [] = true := by decide +kernel
/-- MiceRegistersModel.readsMouse -/
def mgh19189 : aw_H := [(81, mgx19187), (90, .inr (.inl (0, 240, [], [])))]
def mgc6237 : ak_C := (127, [.inl 81], mgh19189, [], [([], some (.inr (false, [(0, 0)])), [])])
theorem mgk6237 : ai_chk [mgc27, mgc147] mgc6237 (fun pc => sm_ch sm_t127 pc, sm_Kn 3 5 none, fun x => sm_lk sm_ca3 x, some .boolean) [] 5 0 [] [] 2000 [] = true := by decide +kernel
/-- MiceRegistersModel.readsLine -/
def mgx19190 : aw_A := ms_o [(0, 8)] [(0, 4)] ar_t32 ar_t32 [(0, 180)] [(53, 53)] [(54, 60)] [(1, 8)] [(4, 4)]
def mgh19191 : aw_H := [(81, mgx19190)]
def mgc6238 : ak_C := (124, [.inl 81], mgh19191, [], [([], some (.inr (false, [(0, 0)])), [])])
theorem mgk6238 : ai_chk [] mgc6238 (fun pc => sm_ch sm_t124 pc, sm_Kn 3 3 none, fun x => sm_lk sm_ca3 x, some .boolean) [] 3 0 [] [] 2000 [] = true := by decide +kernel
/-- MiceRegistersModel.readsMouse -/
def mgh19192 : aw_H := [(81, mgx19190), (90, .inr (.inl (0, 240, [], [])))]
def mgc6239 : ak_C := (127, [.inl 81], mgh19192, [], [([], some (.inr (false, [(0, 0)])), [])])
theorem mgk6239 : ai_chk [mgc26, mgc147] mgc6239 (fun pc => sm_ch sm_t127 pc, sm_Kn 3 5 none, fun x => sm_lk sm_ca3 x, some .boolean) [] 5 0 [] [] 2000 [] = true := by decide +kernel
/-- MiceRegistersModel.readsLine -/
def mgx19193 : aw_A := ms_o [(0, 8)] [(0, 4)] ar_t32 ar_t32 [(0, 180)] [(54, 54)] [(55, 60)] [(1, 8)] [(4, 4)]
def mgh19194 : aw_H := [(81, mgx19193)]
def mgc6240 : ak_C := (124, [.inl 81], mgh19194, [], [([], some (.inr (false, [(0, 0)])), [])])
theorem mgk6240 : ai_chk [] mgc6240 (fun pc => sm_ch sm_t124 pc, sm_Kn 3 3 none, fun x => sm_lk sm_ca3 x, some .boolean) [] 3 0 [] [] 2000 [] = true := by decide +kernel
/-- MiceRegistersModel.readsMouse -/
def mgh19195 : aw_H := [(81, mgx19193), (90, .inr (.inl (0, 240, [], [])))]
def mgc6241 : ak_C := (127, [.inl 81], mgh19195, [], [([], some (.inr (false, [(0, 0)])), [])])
theorem mgk6241 : ai_chk [mgc25, mgc147] mgc6241 (fun pc => sm_ch sm_t127 pc, sm_Kn 3 5 none, fun x => sm_lk sm_ca3 x, some .boolean) [] 5 0 [] [] 2000 [] = true := by decide +kernel
/-- MiceRegistersModel.readsLine -/
def mgx19196 : aw_A := ms_o [(0, 8)] [(0, 4)] ar_t32 ar_t32 [(0, 180)] [(47, 47)] [(48, 60)] [(1, 8)] [(1, 1)]
def mgh19197 : aw_H := [(81, mgx19196)]
def mgc5798 : ak_C := (124, [.inl 81], mgh19197, [], [([], some (.inr (false, [(0, 0)])), [])])
theorem mgk5798 : ai_chk [] mgc5798 (fun pc => sm_ch sm_t124 pc, sm_Kn 3 3 none, fun x => sm_lk sm_ca3 x, some .boolean) [] 3 0 [] [] 2000 [] = true := by decide +kernel
/-- MiceRegistersModel.figure -/
def mgc5799 : ak_C := (125, [.inl 81, .inr (false, [(0, 0)]), .inr (false, [(0, 7)])], mgh17417, [81], [([], some (.inr (false, [(-9, -9)])), mgh17392), ([], some (.inr (false, [(0, 7)])), mgh17631)])
/-- MiceRegistersModel.figure -/
def mgc5800 : ak_C := (125, [.inl 81, .inr (false, [(1, 1)]), .inr (false, [(9, 9)])], mgh17654, [81], [([], some (.inr (false, [(-9, -9)])), mgh17631), ([], some (.inr (false, [(1, 9)])), mgh17554)])
def mgh19198 : aw_H := [(81, mgx19196), (94, mgx4449)]
/-- MiceRegistersModel.readsMouse -/
def mgh19199 : aw_H := [(81, mgx19196), (90, .inr (.inl (0, 240, [], []))), (94, mgx4449)]
def mgc5801 : ak_C := (127, [.inl 81], mgh19199, [81, 94], [([], some (.inr (false, [(0, 0)])), mgh19198), ([], some (.inr (false, [(1, 1)])), mgh18987), ([], some (.inr (false, [(0, 0)])), mgh17629), ([], some (.inr (false, [(0, 0)])), mgh17365)])
theorem mgk5801 : ai_chk [mgc32, mgc147, mgc5799, mgc5800] mgc5801 (fun pc => sm_ch sm_t127 pc, sm_Kn 3 5 none, fun x => sm_lk sm_ca3 x, some .boolean) [81, 94] 5 0 [] [] 2000 [] = true := by decide +kernel
def mgx19200 : aw_A := ms_o [(0, 8)] [(0, 4)] ar_t32 ar_t32 [(0, 180)] [(51, 51)] [(50, 60)] [(1, 8)] [(2, 2)]
def mgh19201 : aw_H := [(81, mgx19200)]
def mgx19202 : aw_A := ms_o [(0, 8)] [(0, 4)] ar_t32 ar_t32 [(0, 180)] [(52, 52)] [(50, 60)] [(1, 8)] [(2, 2)]
def mgh19203 : aw_H := [(81, mgx19202)]
def mgx19204 : aw_A := ms_o [(0, 8)] [(0, 4)] ar_t32 ar_t32 [(0, 180)] [(53, 53)] [(50, 60)] [(1, 8)] [(2, 2)]
def mgh19205 : aw_H := [(81, mgx19204)]
def mgx19206 : aw_A := ms_o [(0, 8)] [(0, 4)] ar_t32 ar_t32 [(0, 180)] [(54, 54)] [(50, 60)] [(1, 8)] [(2, 2)]
def mgh19207 : aw_H := [(81, mgx19206)]
def mgx19208 : aw_A := ms_o [(0, 8)] [(0, 4)] ar_t32 ar_t32 [(0, 180)] [(55, 55)] [(50, 60)] [(1, 8)] [(2, 2)]
def mgh19209 : aw_H := [(81, mgx19208)]
def mgx19210 : aw_A := ms_o [(0, 8)] [(0, 4)] ar_t32 ar_t32 [(0, 180)] [(56, 56)] [(50, 60)] [(1, 8)] [(2, 2)]
def mgh19211 : aw_H := [(81, mgx19210)]
def mgx19212 : aw_A := ms_o [(0, 8)] [(0, 4)] ar_t32 ar_t32 [(0, 180)] [(57, 57)] [(50, 60)] [(1, 8)] [(2, 2)]
def mgh19213 : aw_H := [(81, mgx19212)]
def mgx19214 : aw_A := ms_o [(0, 8)] [(0, 4)] ar_t32 ar_t32 [(0, 180)] [(58, 58)] [(50, 60)] [(1, 8)] [(2, 2)]
def mgh19215 : aw_H := [(81, mgx19214)]
def mgx19216 : aw_A := ms_o [(0, 8)] [(0, 4)] ar_t32 ar_t32 [(0, 180)] [(59, 59)] [(50, 60)] [(1, 8)] [(2, 2)]
def mgh19217 : aw_H := [(81, mgx19216)]
def mgx19218 : aw_A := ms_o [(0, 8)] [(0, 4)] ar_t32 ar_t32 [(0, 180)] [(60, 60)] [(50, 60)] [(1, 8)] [(2, 2)]
def mgh19219 : aw_H := [(81, mgx19218)]
/-- MiceRegistersModel.skip -/
def mgc6274 : ak_C := (122, [.inl 81], mgh18983, [81], [([], none, mgh18930), ([], none, mgh19201), ([], none, mgh19203), ([], none, mgh19205), ([], none, mgh19207), ([], none, mgh19209), ([], none, mgh19211), ([], none, mgh19213), ([], none, mgh19215), ([], none, mgh19217), ([], none, mgh19219)])
/-- MiceRegistersModel.readsLine -/
def mgx19220 : aw_A := ms_o [(0, 8)] [(0, 4)] ar_t32 ar_t32 [(0, 180)] [(56, 56)] [(57, 60)] [(1, 8)] [(2, 2)]
def mgh19221 : aw_H := [(81, mgx19220)]
def mgc6066 : ak_C := (124, [.inl 81], mgh19221, [], [([], some (.inr (false, [(0, 0)])), [])])
theorem mgk6066 : ai_chk [] mgc6066 (fun pc => sm_ch sm_t124 pc, sm_Kn 3 3 none, fun x => sm_lk sm_ca3 x, some .boolean) [] 3 0 [] [] 2000 [] = true := by decide +kernel
/-- MiceRegistersModel.figure -/
def mgc6067 : ak_C := (125, [.inl 81, .inr (false, [(0, 0)]), .inr (false, [(0, 7)])], mgh18201, [81], [([], some (.inr (false, [(-9, -9)])), mgh18194), ([], some (.inr (false, [(0, 7)])), mgh18598)])
/-- MiceRegistersModel.figure -/
def mgc6068 : ak_C := (125, [.inl 81, .inr (false, [(1, 1)]), .inr (false, [(9, 9)])], mgh18603, [81], [([], some (.inr (false, [(-9, -9)])), mgh18598), ([], some (.inr (false, [(1, 9)])), mgh18588)])
def mgh19222 : aw_H := [(81, mgx19220), (94, mgx6150)]
def mgx19223 : aw_A := ms_o [(0, 8)] [(0, 4)] ar_t32 ar_t32 [(0, 180)] [(59, 59)] [(59, 60)] [(1, 8)] [(3, 3)]
def mgh19224 : aw_H := [(81, mgx19223), (94, mgx6362)]
/-- MiceRegistersModel.readsMouse -/
def mgh19225 : aw_H := [(81, mgx19220), (90, .inr (.inl (0, 240, [], []))), (94, mgx6150)]
def mgc6069 : ak_C := (127, [.inl 81], mgh19225, [81, 94], [([], some (.inr (false, [(0, 0)])), mgh19222), ([], some (.inr (false, [(1, 1)])), mgh19224), ([], some (.inr (false, [(0, 0)])), mgh18596), ([], some (.inr (false, [(0, 0)])), mgh18192)])
theorem mgk6069 : ai_chk [mgc23, mgc147, mgc6067, mgc6068] mgc6069 (fun pc => sm_ch sm_t127 pc, sm_Kn 3 5 none, fun x => sm_lk sm_ca3 x, some .boolean) [81, 94] 5 0 [] [] 2000 [] = true := by decide +kernel
def mgh19226 : aw_H := [(81, mgx19223)]
def mgx19227 : aw_A := ms_o [(0, 8)] [(0, 4)] ar_t32 ar_t32 [(0, 180)] [(60, 60)] [(59, 60)] [(1, 8)] [(3, 3)]
def mgh19228 : aw_H := [(81, mgx19227)]
/-- MiceRegistersModel.skip -/
def mgh19229 : aw_H := [(81, mgx19223), (90, .inr (.inl (0, 240, [], [])))]
def mgc6320 : ak_C := (122, [.inl 81], mgh19229, [81], [([], none, mgh19226), ([], none, mgh19228)])
/-- MiceRegistersModel.readsLine -/
def mgx19230 : aw_A := ms_o [(0, 8)] [(0, 4)] ar_t32 ar_t32 [(0, 180)] [(58, 58)] [(59, 60)] [(1, 8)] [(2, 2)]
def mgh19231 : aw_H := [(81, mgx19230)]
def mgc6074 : ak_C := (124, [.inl 81], mgh19231, [], [([], some (.inr (false, [(0, 0)])), [])])
theorem mgk6074 : ai_chk [] mgc6074 (fun pc => sm_ch sm_t124 pc, sm_Kn 3 3 none, fun x => sm_lk sm_ca3 x, some .boolean) [] 3 0 [] [] 2000 [] = true := by decide +kernel
/-- MiceRegistersModel.figure -/
def mgc6075 : ak_C := (125, [.inl 81, .inr (false, [(0, 0)]), .inr (false, [(0, 7)])], mgh18591, [81], [([], some (.inr (false, [(-9, -9)])), mgh18588), ([], some (.inr (false, [(0, 7)])), mgh18562)])
/-- MiceRegistersModel.figure -/
def mgc6076 : ak_C := (125, [.inl 81, .inr (false, [(1, 1)]), .inr (false, [(9, 9)])], mgh18563, [81], [([], some (.inr (false, [(-9, -9)])), mgh18562)])
/-- MiceRegistersModel.readsMouse -/
def mgh19232 : aw_H := [(81, mgx19230), (90, .inr (.inl (0, 240, [], [])))]
def mgc6077 : ak_C := (127, [.inl 81], mgh19232, [81], [([], some (.inr (false, [(0, 0)])), mgh19231), ([], some (.inr (false, [(0, 0)])), mgh18562), ([], some (.inr (false, [(0, 0)])), mgh18588)])
theorem mgk6077 : ai_chk [mgc21, mgc147, mgc6075, mgc6076] mgc6077 (fun pc => sm_ch sm_t127 pc, sm_Kn 3 5 none, fun x => sm_lk sm_ca3 x, some .boolean) [81] 5 0 [] [] 2000 [] = true := by decide +kernel
/-- MiceRegistersModel.readsLine -/
def mgx19233 : aw_A := ms_o [(0, 8)] [(0, 4)] ar_t32 ar_t32 [(0, 180)] [(54, 54)] [(55, 60)] [(1, 8)] [(2, 2)]
def mgh19234 : aw_H := [(81, mgx19233)]
def mgc6058 : ak_C := (124, [.inl 81], mgh19234, [], [([], some (.inr (false, [(0, 0)])), [])])
theorem mgk6058 : ai_chk [] mgc6058 (fun pc => sm_ch sm_t124 pc, sm_Kn 3 3 none, fun x => sm_lk sm_ca3 x, some .boolean) [] 3 0 [] [] 2000 [] = true := by decide +kernel
/-- MiceRegistersModel.figure -/
def mgc6059 : ak_C := (125, [.inl 81, .inr (false, [(0, 0)]), .inr (false, [(0, 7)])], mgh18581, [81], [([], some (.inr (false, [(-9, -9)])), mgh18570), ([], some (.inr (false, [(0, 7)])), mgh18418)])
/-- MiceRegistersModel.figure -/
def mgc6060 : ak_C := (125, [.inl 81, .inr (false, [(1, 1)]), .inr (false, [(9, 9)])], mgh18427, [81], [([], some (.inr (false, [(-9, -9)])), mgh18418), ([], some (.inr (false, [(1, 9)])), mgh18194)])
def mgh19235 : aw_H := [(81, mgx19233), (94, mgx6150)]
def mgx19236 : aw_A := ms_o [(0, 8)] [(0, 4)] ar_t32 ar_t32 [(0, 180)] [(57, 57)] [(57, 60)] [(1, 8)] [(3, 3)]
def mgh19237 : aw_H := [(81, mgx19236), (94, mgx6362)]
/-- MiceRegistersModel.readsMouse -/
def mgh19238 : aw_H := [(81, mgx19233), (90, .inr (.inl (0, 240, [], []))), (94, mgx6150)]
def mgc6061 : ak_C := (127, [.inl 81], mgh19238, [81, 94], [([], some (.inr (false, [(0, 0)])), mgh19235), ([], some (.inr (false, [(1, 1)])), mgh19237), ([], some (.inr (false, [(0, 0)])), mgh18416), ([], some (.inr (false, [(0, 0)])), mgh18568)])
theorem mgk6061 : ai_chk [mgc25, mgc147, mgc6059, mgc6060] mgc6061 (fun pc => sm_ch sm_t127 pc, sm_Kn 3 5 none, fun x => sm_lk sm_ca3 x, some .boolean) [81, 94] 5 0 [] [] 2000 [] = true := by decide +kernel
def mgh19239 : aw_H := [(81, mgx19236)]
def mgx19240 : aw_A := ms_o [(0, 8)] [(0, 4)] ar_t32 ar_t32 [(0, 180)] [(58, 58)] [(57, 60)] [(1, 8)] [(3, 3)]
def mgh19241 : aw_H := [(81, mgx19240)]
def mgx19242 : aw_A := ms_o [(0, 8)] [(0, 4)] ar_t32 ar_t32 [(0, 180)] [(59, 59)] [(57, 60)] [(1, 8)] [(3, 3)]
def mgh19243 : aw_H := [(81, mgx19242)]
def mgx19244 : aw_A := ms_o [(0, 8)] [(0, 4)] ar_t32 ar_t32 [(0, 180)] [(60, 60)] [(57, 60)] [(1, 8)] [(3, 3)]
def mgh19245 : aw_H := [(81, mgx19244)]
/-- MiceRegistersModel.skip -/
def mgh19246 : aw_H := [(81, mgx19236), (90, .inr (.inl (0, 240, [], [])))]
def mgc6310 : ak_C := (122, [.inl 81], mgh19246, [81], [([], none, mgh19239), ([], none, mgh19241), ([], none, mgh19243), ([], none, mgh19245)])
/-- MiceRegistersModel.readsLine -/
def mgx19247 : aw_A := ms_o [(0, 8)] [(0, 4)] ar_t32 ar_t32 [(0, 180)] [(55, 55)] [(56, 60)] [(1, 8)] [(2, 2)]
def mgh19248 : aw_H := [(81, mgx19247)]
def mgc6062 : ak_C := (124, [.inl 81], mgh19248, [], [([], some (.inr (false, [(0, 0)])), [])])
theorem mgk6062 : ai_chk [] mgc6062 (fun pc => sm_ch sm_t124 pc, sm_Kn 3 3 none, fun x => sm_lk sm_ca3 x, some .boolean) [] 3 0 [] [] 2000 [] = true := by decide +kernel
/-- MiceRegistersModel.figure -/
def mgc6063 : ak_C := (125, [.inl 81, .inr (false, [(0, 0)]), .inr (false, [(0, 7)])], mgh18427, [81], [([], some (.inr (false, [(-9, -9)])), mgh18418), ([], some (.inr (false, [(0, 7)])), mgh18194)])
/-- MiceRegistersModel.figure -/
def mgc6064 : ak_C := (125, [.inl 81, .inr (false, [(1, 1)]), .inr (false, [(9, 9)])], mgh18201, [81], [([], some (.inr (false, [(-9, -9)])), mgh18194), ([], some (.inr (false, [(1, 9)])), mgh18598)])
def mgh19249 : aw_H := [(81, mgx19247), (94, mgx6150)]
def mgx19250 : aw_A := ms_o [(0, 8)] [(0, 4)] ar_t32 ar_t32 [(0, 180)] [(58, 58)] [(58, 60)] [(1, 8)] [(3, 3)]
def mgh19251 : aw_H := [(81, mgx19250), (94, mgx6362)]
/-- MiceRegistersModel.readsMouse -/
def mgh19252 : aw_H := [(81, mgx19247), (90, .inr (.inl (0, 240, [], []))), (94, mgx6150)]
def mgc6065 : ak_C := (127, [.inl 81], mgh19252, [81, 94], [([], some (.inr (false, [(0, 0)])), mgh19249), ([], some (.inr (false, [(1, 1)])), mgh19251), ([], some (.inr (false, [(0, 0)])), mgh18192), ([], some (.inr (false, [(0, 0)])), mgh18416)])
theorem mgk6065 : ai_chk [mgc24, mgc147, mgc6063, mgc6064] mgc6065 (fun pc => sm_ch sm_t127 pc, sm_Kn 3 5 none, fun x => sm_lk sm_ca3 x, some .boolean) [81, 94] 5 0 [] [] 2000 [] = true := by decide +kernel
def mgh19253 : aw_H := [(81, mgx19250)]
def mgx19254 : aw_A := ms_o [(0, 8)] [(0, 4)] ar_t32 ar_t32 [(0, 180)] [(59, 59)] [(58, 60)] [(1, 8)] [(3, 3)]
def mgh19255 : aw_H := [(81, mgx19254)]
def mgx19256 : aw_A := ms_o [(0, 8)] [(0, 4)] ar_t32 ar_t32 [(0, 180)] [(60, 60)] [(58, 60)] [(1, 8)] [(3, 3)]
def mgh19257 : aw_H := [(81, mgx19256)]
/-- MiceRegistersModel.skip -/
def mgh19258 : aw_H := [(81, mgx19250), (90, .inr (.inl (0, 240, [], [])))]
def mgc6315 : ak_C := (122, [.inl 81], mgh19258, [81], [([], none, mgh19253), ([], none, mgh19255), ([], none, mgh19257)])
/-- MiceRegistersModel.readsLine -/
def mgx19259 : aw_A := ms_o [(0, 8)] [(0, 4)] ar_t32 ar_t32 [(0, 180)] [(50, 50)] [(51, 60)] [(1, 8)] [(2, 2)]
def mgh19260 : aw_H := [(81, mgx19259)]
def mgc6042 : ak_C := (124, [.inl 81], mgh19260, [], [([], some (.inr (false, [(0, 0)])), [])])
theorem mgk6042 : ai_chk [] mgc6042 (fun pc => sm_ch sm_t124 pc, sm_Kn 3 3 none, fun x => sm_lk sm_ca3 x, some .boolean) [] 3 0 [] [] 2000 [] = true := by decide +kernel
/-- MiceRegistersModel.figure -/
def mgc6043 : ak_C := (125, [.inl 81, .inr (false, [(0, 0)]), .inr (false, [(0, 7)])], mgh18453, [81], [([], some (.inr (false, [(-9, -9)])), mgh18434), ([], some (.inr (false, [(0, 7)])), mgh18356)])
/-- MiceRegistersModel.figure -/
def mgc6044 : ak_C := (125, [.inl 81, .inr (false, [(1, 1)]), .inr (false, [(9, 9)])], mgh18373, [81], [([], some (.inr (false, [(-9, -9)])), mgh18356), ([], some (.inr (false, [(1, 9)])), mgh18334)])
def mgh19261 : aw_H := [(81, mgx19259), (94, mgx6150)]
/-- MiceRegistersModel.readsMouse -/
def mgh19262 : aw_H := [(81, mgx19259), (90, .inr (.inl (0, 240, [], []))), (94, mgx6150)]
def mgc6045 : ak_C := (127, [.inl 81], mgh19262, [81, 94], [([], some (.inr (false, [(0, 0)])), mgh19261), ([], some (.inr (false, [(1, 1)])), mgh19097), ([], some (.inr (false, [(0, 0)])), mgh18354), ([], some (.inr (false, [(0, 0)])), mgh18432)])
theorem mgk6045 : ai_chk [mgc29, mgc147, mgc6043, mgc6044] mgc6045 (fun pc => sm_ch sm_t127 pc, sm_Kn 3 5 none, fun x => sm_lk sm_ca3 x, some .boolean) [81, 94] 5 0 [] [] 2000 [] = true := by decide +kernel
def mgx19263 : aw_A := ms_o [(0, 8)] [(0, 4)] ar_t32 ar_t32 [(0, 180)] [(54, 54)] [(53, 60)] [(1, 8)] [(3, 3)]
def mgh19264 : aw_H := [(81, mgx19263)]
def mgx19265 : aw_A := ms_o [(0, 8)] [(0, 4)] ar_t32 ar_t32 [(0, 180)] [(55, 55)] [(53, 60)] [(1, 8)] [(3, 3)]
def mgh19266 : aw_H := [(81, mgx19265)]
def mgx19267 : aw_A := ms_o [(0, 8)] [(0, 4)] ar_t32 ar_t32 [(0, 180)] [(56, 56)] [(53, 60)] [(1, 8)] [(3, 3)]
def mgh19268 : aw_H := [(81, mgx19267)]
def mgx19269 : aw_A := ms_o [(0, 8)] [(0, 4)] ar_t32 ar_t32 [(0, 180)] [(57, 57)] [(53, 60)] [(1, 8)] [(3, 3)]
def mgh19270 : aw_H := [(81, mgx19269)]
def mgx19271 : aw_A := ms_o [(0, 8)] [(0, 4)] ar_t32 ar_t32 [(0, 180)] [(58, 58)] [(53, 60)] [(1, 8)] [(3, 3)]
def mgh19272 : aw_H := [(81, mgx19271)]
def mgx19273 : aw_A := ms_o [(0, 8)] [(0, 4)] ar_t32 ar_t32 [(0, 180)] [(59, 59)] [(53, 60)] [(1, 8)] [(3, 3)]
def mgh19274 : aw_H := [(81, mgx19273)]
def mgx19275 : aw_A := ms_o [(0, 8)] [(0, 4)] ar_t32 ar_t32 [(0, 180)] [(60, 60)] [(53, 60)] [(1, 8)] [(3, 3)]
def mgh19276 : aw_H := [(81, mgx19275)]
/-- MiceRegistersModel.skip -/
def mgc6290 : ak_C := (122, [.inl 81], mgh19089, [81], [([], none, mgh19064), ([], none, mgh19264), ([], none, mgh19266), ([], none, mgh19268), ([], none, mgh19270), ([], none, mgh19272), ([], none, mgh19274), ([], none, mgh19276)])
/-- MiceRegistersModel.readsLine -/
def mgx19277 : aw_A := ms_o [(0, 8)] [(0, 4)] ar_t32 ar_t32 [(0, 180)] [(53, 53)] [(54, 60)] [(1, 8)] [(3, 3)]
def mgh19278 : aw_H := [(81, mgx19277)]
def mgc6179 : ak_C := (124, [.inl 81], mgh19278, [], [([], some (.inr (false, [(0, 0)])), [])])
theorem mgk6179 : ai_chk [] mgc6179 (fun pc => sm_ch sm_t124 pc, sm_Kn 3 3 none, fun x => sm_lk sm_ca3 x, some .boolean) [] 3 0 [] [] 2000 [] = true := by decide +kernel
/-- MiceRegistersModel.figure -/
def mgc6180 : ak_C := (125, [.inl 81, .inr (false, [(0, 0)]), .inr (false, [(0, 7)])], mgh19092, [81], [([], some (.inr (false, [(-9, -9)])), mgh19088), ([], some (.inr (false, [(0, 7)])), mgh19091)])
def mgx19279 : aw_A := ms_o [(0, 8)] [(0, 4)] ar_t32 ar_t32 [(0, 180)] [(56, 56)] [(56, 60)] [(1, 8)] [(3, 3)]
def mgh19280 : aw_H := [(81, mgx19279)]
/-- MiceRegistersModel.figure -/
def mgh19281 : aw_H := [(81, mgx19090), (90, .inr (.inl (0, 240, [], [])))]
def mgc6181 : ak_C := (125, [.inl 81, .inr (false, [(1, 1)]), .inr (false, [(9, 9)])], mgh19281, [81], [([], some (.inr (false, [(-9, -9)])), mgh19091), ([], some (.inr (false, [(1, 9)])), mgh19280)])
def mgh19282 : aw_H := [(81, mgx19277), (94, mgx6362)]
def mgx19283 : aw_A := ms_o [(0, 8)] [(0, 4)] ar_t32 ar_t32 [(0, 180)] [(56, 56)] [(56, 60)] [(1, 8)] [(4, 4)]
def mgh19284 : aw_H := [(81, mgx19283), (94, mgx6473)]
def mgh19285 : aw_H := [(81, mgx19090), (94, mgx6362)]
/-- MiceRegistersModel.readsMouse -/
def mgh19286 : aw_H := [(81, mgx19277), (90, .inr (.inl (0, 240, [], []))), (94, mgx6362)]
def mgc6182 : ak_C := (127, [.inl 81], mgh19286, [81, 94], [([], some (.inr (false, [(0, 0)])), mgh19282), ([], some (.inr (false, [(1, 1)])), mgh19284), ([], some (.inr (false, [(0, 0)])), mgh19285), ([], some (.inr (false, [(0, 0)])), mgh19096)])
theorem mgk6182 : ai_chk [mgc26, mgc147, mgc6180, mgc6181] mgc6182 (fun pc => sm_ch sm_t127 pc, sm_Kn 3 5 none, fun x => sm_lk sm_ca3 x, some .boolean) [81, 94] 5 0 [] [] 2000 [] = true := by decide +kernel
def mgh19287 : aw_H := [(81, mgx19283)]
def mgx19288 : aw_A := ms_o [(0, 8)] [(0, 4)] ar_t32 ar_t32 [(0, 180)] [(57, 57)] [(56, 60)] [(1, 8)] [(4, 4)]
def mgh19289 : aw_H := [(81, mgx19288)]
def mgx19290 : aw_A := ms_o [(0, 8)] [(0, 4)] ar_t32 ar_t32 [(0, 180)] [(58, 58)] [(56, 60)] [(1, 8)] [(4, 4)]
def mgh19291 : aw_H := [(81, mgx19290)]
def mgx19292 : aw_A := ms_o [(0, 8)] [(0, 4)] ar_t32 ar_t32 [(0, 180)] [(59, 59)] [(56, 60)] [(1, 8)] [(4, 4)]
def mgh19293 : aw_H := [(81, mgx19292)]
def mgx19294 : aw_A := ms_o [(0, 8)] [(0, 4)] ar_t32 ar_t32 [(0, 180)] [(60, 60)] [(56, 60)] [(1, 8)] [(4, 4)]
def mgh19295 : aw_H := [(81, mgx19294)]
/-- MiceRegistersModel.skip -/
def mgh19296 : aw_H := [(81, mgx19283), (90, .inr (.inl (0, 240, [], [])))]
def mgc6306 : ak_C := (122, [.inl 81], mgh19296, [81], [([], none, mgh19287), ([], none, mgh19289), ([], none, mgh19291), ([], none, mgh19293), ([], none, mgh19295)])
/-- MiceRegistersModel.readsLine -/
def mgx19297 : aw_A := ms_o [(0, 8)] [(0, 4)] ar_t32 ar_t32 [(0, 180)] [(56, 56)] [(57, 60)] [(1, 8)] [(4, 4)]
def mgh19298 : aw_H := [(81, mgx19297)]
def mgc6244 : ak_C := (124, [.inl 81], mgh19298, [], [([], some (.inr (false, [(0, 0)])), [])])
theorem mgk6244 : ai_chk [] mgc6244 (fun pc => sm_ch sm_t124 pc, sm_Kn 3 3 none, fun x => sm_lk sm_ca3 x, some .boolean) [] 3 0 [] [] 2000 [] = true := by decide +kernel
/-- MiceRegistersModel.readsMouse -/
def mgh19299 : aw_H := [(81, mgx19297), (90, .inr (.inl (0, 240, [], [])))]
def mgc6245 : ak_C := (127, [.inl 81], mgh19299, [], [([], some (.inr (false, [(0, 0)])), [])])
theorem mgk6245 : ai_chk [mgc23, mgc147] mgc6245 (fun pc => sm_ch sm_t127 pc, sm_Kn 3 5 none, fun x => sm_lk sm_ca3 x, some .boolean) [] 5 0 [] [] 2000 [] = true := by decide +kernel
/-- MiceRegistersModel.readsLine -/
def mgx19300 : aw_A := ms_o [(0, 8)] [(0, 4)] ar_t32 ar_t32 [(0, 180)] [(51, 51)] [(52, 60)] [(1, 8)] [(2, 2)]
def mgh19301 : aw_H := [(81, mgx19300)]
def mgc6046 : ak_C := (124, [.inl 81], mgh19301, [], [([], some (.inr (false, [(0, 0)])), [])])
theorem mgk6046 : ai_chk [] mgc6046 (fun pc => sm_ch sm_t124 pc, sm_Kn 3 3 none, fun x => sm_lk sm_ca3 x, some .boolean) [] 3 0 [] [] 2000 [] = true := by decide +kernel
/-- MiceRegistersModel.figure -/
def mgc6047 : ak_C := (125, [.inl 81, .inr (false, [(0, 0)]), .inr (false, [(0, 7)])], mgh18373, [81], [([], some (.inr (false, [(-9, -9)])), mgh18356), ([], some (.inr (false, [(0, 7)])), mgh18334)])
/-- MiceRegistersModel.figure -/
def mgc6048 : ak_C := (125, [.inl 81, .inr (false, [(1, 1)]), .inr (false, [(9, 9)])], mgh18349, [81], [([], some (.inr (false, [(-9, -9)])), mgh18334), ([], some (.inr (false, [(1, 9)])), mgh18045)])
def mgh19302 : aw_H := [(81, mgx19300), (94, mgx6150)]
/-- MiceRegistersModel.readsMouse -/
def mgh19303 : aw_H := [(81, mgx19300), (90, .inr (.inl (0, 240, [], []))), (94, mgx6150)]
def mgc6049 : ak_C := (127, [.inl 81], mgh19303, [81, 94], [([], some (.inr (false, [(0, 0)])), mgh19302), ([], some (.inr (false, [(1, 1)])), mgh19096), ([], some (.inr (false, [(0, 0)])), mgh18332), ([], some (.inr (false, [(0, 0)])), mgh18354)])
theorem mgk6049 : ai_chk [mgc28, mgc147, mgc6047, mgc6048] mgc6049 (fun pc => sm_ch sm_t127 pc, sm_Kn 3 5 none, fun x => sm_lk sm_ca3 x, some .boolean) [81, 94] 5 0 [] [] 2000 [] = true := by decide +kernel
def mgx19304 : aw_A := ms_o [(0, 8)] [(0, 4)] ar_t32 ar_t32 [(0, 180)] [(55, 55)] [(54, 60)] [(1, 8)] [(3, 3)]
def mgh19305 : aw_H := [(81, mgx19304)]
def mgx19306 : aw_A := ms_o [(0, 8)] [(0, 4)] ar_t32 ar_t32 [(0, 180)] [(56, 56)] [(54, 60)] [(1, 8)] [(3, 3)]
def mgh19307 : aw_H := [(81, mgx19306)]
def mgx19308 : aw_A := ms_o [(0, 8)] [(0, 4)] ar_t32 ar_t32 [(0, 180)] [(57, 57)] [(54, 60)] [(1, 8)] [(3, 3)]
def mgh19309 : aw_H := [(81, mgx19308)]
def mgx19310 : aw_A := ms_o [(0, 8)] [(0, 4)] ar_t32 ar_t32 [(0, 180)] [(58, 58)] [(54, 60)] [(1, 8)] [(3, 3)]
def mgh19311 : aw_H := [(81, mgx19310)]
def mgx19312 : aw_A := ms_o [(0, 8)] [(0, 4)] ar_t32 ar_t32 [(0, 180)] [(59, 59)] [(54, 60)] [(1, 8)] [(3, 3)]
def mgh19313 : aw_H := [(81, mgx19312)]
def mgx19314 : aw_A := ms_o [(0, 8)] [(0, 4)] ar_t32 ar_t32 [(0, 180)] [(60, 60)] [(54, 60)] [(1, 8)] [(3, 3)]
def mgh19315 : aw_H := [(81, mgx19314)]
/-- MiceRegistersModel.skip -/
def mgc6295 : ak_C := (122, [.inl 81], mgh19092, [81], [([], none, mgh19088), ([], none, mgh19305), ([], none, mgh19307), ([], none, mgh19309), ([], none, mgh19311), ([], none, mgh19313), ([], none, mgh19315)])
/-- MiceRegistersModel.readsLine -/
def mgx19316 : aw_A := ms_o [(0, 8)] [(0, 4)] ar_t32 ar_t32 [(0, 180)] [(54, 54)] [(55, 60)] [(1, 8)] [(3, 3)]
def mgh19317 : aw_H := [(81, mgx19316)]
def mgc6183 : ak_C := (124, [.inl 81], mgh19317, [], [([], some (.inr (false, [(0, 0)])), [])])
theorem mgk6183 : ai_chk [] mgc6183 (fun pc => sm_ch sm_t124 pc, sm_Kn 3 3 none, fun x => sm_lk sm_ca3 x, some .boolean) [] 3 0 [] [] 2000 [] = true := by decide +kernel
/-- MiceRegistersModel.figure -/
def mgc6184 : ak_C := (125, [.inl 81, .inr (false, [(0, 0)]), .inr (false, [(0, 7)])], mgh19281, [81], [([], some (.inr (false, [(-9, -9)])), mgh19091), ([], some (.inr (false, [(0, 7)])), mgh19280)])
/-- MiceRegistersModel.figure -/
def mgh19318 : aw_H := [(81, mgx19279), (90, .inr (.inl (0, 240, [], [])))]
def mgc6185 : ak_C := (125, [.inl 81, .inr (false, [(1, 1)]), .inr (false, [(9, 9)])], mgh19318, [81], [([], some (.inr (false, [(-9, -9)])), mgh19280), ([], some (.inr (false, [(1, 9)])), mgh19239)])
def mgh19319 : aw_H := [(81, mgx19316), (94, mgx6362)]
def mgx19320 : aw_A := ms_o [(0, 8)] [(0, 4)] ar_t32 ar_t32 [(0, 180)] [(57, 57)] [(57, 60)] [(1, 8)] [(4, 4)]
def mgh19321 : aw_H := [(81, mgx19320), (94, mgx6473)]
def mgh19322 : aw_H := [(81, mgx19279), (94, mgx6362)]
/-- MiceRegistersModel.readsMouse -/
def mgh19323 : aw_H := [(81, mgx19316), (90, .inr (.inl (0, 240, [], []))), (94, mgx6362)]
def mgc6186 : ak_C := (127, [.inl 81], mgh19323, [81, 94], [([], some (.inr (false, [(0, 0)])), mgh19319), ([], some (.inr (false, [(1, 1)])), mgh19321), ([], some (.inr (false, [(0, 0)])), mgh19322), ([], some (.inr (false, [(0, 0)])), mgh19285)])
theorem mgk6186 : ai_chk [mgc25, mgc147, mgc6184, mgc6185] mgc6186 (fun pc => sm_ch sm_t127 pc, sm_Kn 3 5 none, fun x => sm_lk sm_ca3 x, some .boolean) [81, 94] 5 0 [] [] 2000 [] = true := by decide +kernel
def mgh19324 : aw_H := [(81, mgx19320)]
def mgx19325 : aw_A := ms_o [(0, 8)] [(0, 4)] ar_t32 ar_t32 [(0, 180)] [(58, 58)] [(57, 60)] [(1, 8)] [(4, 4)]
def mgh19326 : aw_H := [(81, mgx19325)]
def mgx19327 : aw_A := ms_o [(0, 8)] [(0, 4)] ar_t32 ar_t32 [(0, 180)] [(59, 59)] [(57, 60)] [(1, 8)] [(4, 4)]
def mgh19328 : aw_H := [(81, mgx19327)]
def mgx19329 : aw_A := ms_o [(0, 8)] [(0, 4)] ar_t32 ar_t32 [(0, 180)] [(60, 60)] [(57, 60)] [(1, 8)] [(4, 4)]
def mgh19330 : aw_H := [(81, mgx19329)]
/-- MiceRegistersModel.skip -/
def mgh19331 : aw_H := [(81, mgx19320), (90, .inr (.inl (0, 240, [], [])))]
def mgc6311 : ak_C := (122, [.inl 81], mgh19331, [81], [([], none, mgh19324), ([], none, mgh19326), ([], none, mgh19328), ([], none, mgh19330)])
/-- MiceRegistersModel.readsLine -/
def mgx19332 : aw_A := ms_o [(0, 8)] [(0, 4)] ar_t32 ar_t32 [(0, 180)] [(57, 57)] [(58, 60)] [(1, 8)] [(4, 4)]
def mgh19333 : aw_H := [(81, mgx19332)]
def mgc6246 : ak_C := (124, [.inl 81], mgh19333, [], [([], some (.inr (false, [(0, 0)])), [])])
theorem mgk6246 : ai_chk [] mgc6246 (fun pc => sm_ch sm_t124 pc, sm_Kn 3 3 none, fun x => sm_lk sm_ca3 x, some .boolean) [] 3 0 [] [] 2000 [] = true := by decide +kernel
/-- MiceRegistersModel.readsMouse -/
def mgh19334 : aw_H := [(81, mgx19332), (90, .inr (.inl (0, 240, [], [])))]
def mgc6247 : ak_C := (127, [.inl 81], mgh19334, [], [([], some (.inr (false, [(0, 0)])), [])])
theorem mgk6247 : ai_chk [mgc22, mgc147] mgc6247 (fun pc => sm_ch sm_t127 pc, sm_Kn 3 5 none, fun x => sm_lk sm_ca3 x, some .boolean) [] 5 0 [] [] 2000 [] = true := by decide +kernel
/-- MiceRegistersModel.readsLine -/
def mgx19335 : aw_A := ms_o [(0, 8)] [(0, 4)] ar_t32 ar_t32 [(0, 180)] [(59, 59)] [(60, 60)] [(1, 8)] [(2, 2)]
def mgh19336 : aw_H := [(81, mgx19335)]
def mgc6078 : ak_C := (124, [.inl 81], mgh19336, [], [([], some (.inr (false, [(0, 0)])), [])])
theorem mgk6078 : ai_chk [] mgc6078 (fun pc => sm_ch sm_t124 pc, sm_Kn 3 3 none, fun x => sm_lk sm_ca3 x, some .boolean) [] 3 0 [] [] 2000 [] = true := by decide +kernel
/-- MiceRegistersModel.figure -/
def mgc6079 : ak_C := (125, [.inl 81, .inr (false, [(0, 0)]), .inr (false, [(0, 7)])], mgh18563, [81], [([], some (.inr (false, [(-9, -9)])), mgh18562)])
/-- MiceRegistersModel.readsMouse -/
def mgh19337 : aw_H := [(81, mgx19335), (90, .inr (.inl (0, 240, [], [])))]
def mgc6080 : ak_C := (127, [.inl 81], mgh19337, [81], [([], some (.inr (false, [(0, 0)])), mgh19336), ([], some (.inr (false, [(0, 0)])), mgh18562)])
theorem mgk6080 : ai_chk [mgc20, mgc147, mgc6079] mgc6080 (fun pc => sm_ch sm_t127 pc, sm_Kn 3 5 none, fun x => sm_lk sm_ca3 x, some .boolean) [81] 5 0 [] [] 2000 [] = true := by decide +kernel
/-- MiceRegistersModel.readsLine -/
def mgx19338 : aw_A := ms_o [(0, 8)] [(0, 4)] ar_t32 ar_t32 [(0, 180)] [(57, 57)] [(58, 60)] [(1, 8)] [(2, 2)]
def mgh19339 : aw_H := [(81, mgx19338)]
def mgc6070 : ak_C := (124, [.inl 81], mgh19339, [], [([], some (.inr (false, [(0, 0)])), [])])
theorem mgk6070 : ai_chk [] mgc6070 (fun pc => sm_ch sm_t124 pc, sm_Kn 3 3 none, fun x => sm_lk sm_ca3 x, some .boolean) [] 3 0 [] [] 2000 [] = true := by decide +kernel
/-- MiceRegistersModel.figure -/
def mgc6071 : ak_C := (125, [.inl 81, .inr (false, [(0, 0)]), .inr (false, [(0, 7)])], mgh18603, [81], [([], some (.inr (false, [(-9, -9)])), mgh18598), ([], some (.inr (false, [(0, 7)])), mgh18588)])
/-- MiceRegistersModel.figure -/
def mgc6072 : ak_C := (125, [.inl 81, .inr (false, [(1, 1)]), .inr (false, [(9, 9)])], mgh18591, [81], [([], some (.inr (false, [(-9, -9)])), mgh18588), ([], some (.inr (false, [(1, 9)])), mgh18562)])
def mgh19340 : aw_H := [(81, mgx19338), (94, mgx6150)]
def mgx19341 : aw_A := ms_o [(0, 8)] [(0, 4)] ar_t32 ar_t32 [(0, 180)] [(60, 60)] [(60, 60)] [(1, 8)] [(3, 3)]
def mgh19342 : aw_H := [(81, mgx19341), (94, mgx6362)]
/-- MiceRegistersModel.readsMouse -/
def mgh19343 : aw_H := [(81, mgx19338), (90, .inr (.inl (0, 240, [], []))), (94, mgx6150)]
def mgc6073 : ak_C := (127, [.inl 81], mgh19343, [81, 94], [([], some (.inr (false, [(0, 0)])), mgh19340), ([], some (.inr (false, [(1, 1)])), mgh19342), ([], some (.inr (false, [(0, 0)])), mgh18586), ([], some (.inr (false, [(0, 0)])), mgh18596)])
theorem mgk6073 : ai_chk [mgc22, mgc147, mgc6071, mgc6072] mgc6073 (fun pc => sm_ch sm_t127 pc, sm_Kn 3 5 none, fun x => sm_lk sm_ca3 x, some .boolean) [81, 94] 5 0 [] [] 2000 [] = true := by decide +kernel
def mgh19344 : aw_H := [(81, mgx19341)]
/-- MiceRegistersModel.skip -/
def mgh19345 : aw_H := [(81, mgx19341), (90, .inr (.inl (0, 240, [], [])))]
def mgc6325 : ak_C := (122, [.inl 81], mgh19345, [81], [([], none, mgh19344)])
/-- MiceRegistersModel.readsLine -/
def mgx19346 : aw_A := ms_o [(0, 8)] [(0, 4)] ar_t32 ar_t32 [(0, 180)] [(52, 52)] [(53, 60)] [(1, 8)] [(2, 2)]
def mgh19347 : aw_H := [(81, mgx19346)]
def mgc6050 : ak_C := (124, [.inl 81], mgh19347, [], [([], some (.inr (false, [(0, 0)])), [])])
theorem mgk6050 : ai_chk [] mgc6050 (fun pc => sm_ch sm_t124 pc, sm_Kn 3 3 none, fun x => sm_lk sm_ca3 x, some .boolean) [] 3 0 [] [] 2000 [] = true := by decide +kernel
/-- MiceRegistersModel.figure -/
def mgc6051 : ak_C := (125, [.inl 81, .inr (false, [(0, 0)]), .inr (false, [(0, 7)])], mgh18349, [81], [([], some (.inr (false, [(-9, -9)])), mgh18334), ([], some (.inr (false, [(0, 7)])), mgh18045)])
/-- MiceRegistersModel.figure -/
def mgc6052 : ak_C := (125, [.inl 81, .inr (false, [(1, 1)]), .inr (false, [(9, 9)])], mgh18058, [81], [([], some (.inr (false, [(-9, -9)])), mgh18045), ([], some (.inr (false, [(1, 9)])), mgh18570)])
def mgh19348 : aw_H := [(81, mgx19346), (94, mgx6150)]
/-- MiceRegistersModel.readsMouse -/
def mgh19349 : aw_H := [(81, mgx19346), (90, .inr (.inl (0, 240, [], []))), (94, mgx6150)]
def mgc6053 : ak_C := (127, [.inl 81], mgh19349, [81, 94], [([], some (.inr (false, [(0, 0)])), mgh19348), ([], some (.inr (false, [(1, 1)])), mgh19285), ([], some (.inr (false, [(0, 0)])), mgh18043), ([], some (.inr (false, [(0, 0)])), mgh18332)])
theorem mgk6053 : ai_chk [mgc27, mgc147, mgc6051, mgc6052] mgc6053 (fun pc => sm_ch sm_t127 pc, sm_Kn 3 5 none, fun x => sm_lk sm_ca3 x, some .boolean) [81, 94] 5 0 [] [] 2000 [] = true := by decide +kernel
def mgx19350 : aw_A := ms_o [(0, 8)] [(0, 4)] ar_t32 ar_t32 [(0, 180)] [(56, 56)] [(55, 60)] [(1, 8)] [(3, 3)]
def mgh19351 : aw_H := [(81, mgx19350)]
def mgx19352 : aw_A := ms_o [(0, 8)] [(0, 4)] ar_t32 ar_t32 [(0, 180)] [(57, 57)] [(55, 60)] [(1, 8)] [(3, 3)]
def mgh19353 : aw_H := [(81, mgx19352)]
def mgx19354 : aw_A := ms_o [(0, 8)] [(0, 4)] ar_t32 ar_t32 [(0, 180)] [(58, 58)] [(55, 60)] [(1, 8)] [(3, 3)]
def mgh19355 : aw_H := [(81, mgx19354)]
def mgx19356 : aw_A := ms_o [(0, 8)] [(0, 4)] ar_t32 ar_t32 [(0, 180)] [(59, 59)] [(55, 60)] [(1, 8)] [(3, 3)]
def mgh19357 : aw_H := [(81, mgx19356)]
def mgx19358 : aw_A := ms_o [(0, 8)] [(0, 4)] ar_t32 ar_t32 [(0, 180)] [(60, 60)] [(55, 60)] [(1, 8)] [(3, 3)]
def mgh19359 : aw_H := [(81, mgx19358)]
/-- MiceRegistersModel.skip -/
def mgc6300 : ak_C := (122, [.inl 81], mgh19281, [81], [([], none, mgh19091), ([], none, mgh19351), ([], none, mgh19353), ([], none, mgh19355), ([], none, mgh19357), ([], none, mgh19359)])
/-- MiceRegistersModel.readsLine -/
def mgx19360 : aw_A := ms_o [(0, 8)] [(0, 4)] ar_t32 ar_t32 [(0, 180)] [(55, 55)] [(56, 60)] [(1, 8)] [(3, 3)]
def mgh19361 : aw_H := [(81, mgx19360)]
def mgc6187 : ak_C := (124, [.inl 81], mgh19361, [], [([], some (.inr (false, [(0, 0)])), [])])
theorem mgk6187 : ai_chk [] mgc6187 (fun pc => sm_ch sm_t124 pc, sm_Kn 3 3 none, fun x => sm_lk sm_ca3 x, some .boolean) [] 3 0 [] [] 2000 [] = true := by decide +kernel
/-- MiceRegistersModel.figure -/
def mgc6188 : ak_C := (125, [.inl 81, .inr (false, [(0, 0)]), .inr (false, [(0, 7)])], mgh19318, [81], [([], some (.inr (false, [(-9, -9)])), mgh19280), ([], some (.inr (false, [(0, 7)])), mgh19239)])
/-- MiceRegistersModel.figure -/
def mgc6189 : ak_C := (125, [.inl 81, .inr (false, [(1, 1)]), .inr (false, [(9, 9)])], mgh19246, [81], [([], some (.inr (false, [(-9, -9)])), mgh19239), ([], some (.inr (false, [(1, 9)])), mgh19253)])
def mgh19362 : aw_H := [(81, mgx19360), (94, mgx6362)]
def mgx19363 : aw_A := ms_o [(0, 8)] [(0, 4)] ar_t32 ar_t32 [(0, 180)] [(58, 58)] [(58, 60)] [(1, 8)] [(4, 4)]
def mgh19364 : aw_H := [(81, mgx19363), (94, mgx6473)]
/-- MiceRegistersModel.readsMouse -/
def mgh19365 : aw_H := [(81, mgx19360), (90, .inr (.inl (0, 240, [], []))), (94, mgx6362)]
def mgc6190 : ak_C := (127, [.inl 81], mgh19365, [81, 94], [([], some (.inr (false, [(0, 0)])), mgh19362), ([], some (.inr (false, [(1, 1)])), mgh19364), ([], some (.inr (false, [(0, 0)])), mgh19237), ([], some (.inr (false, [(0, 0)])), mgh19322)])
theorem mgk6190 : ai_chk [mgc24, mgc147, mgc6188, mgc6189] mgc6190 (fun pc => sm_ch sm_t127 pc, sm_Kn 3 5 none, fun x => sm_lk sm_ca3 x, some .boolean) [81, 94] 5 0 [] [] 2000 [] = true := by decide +kernel
def mgh19366 : aw_H := [(81, mgx19363)]
def mgx19367 : aw_A := ms_o [(0, 8)] [(0, 4)] ar_t32 ar_t32 [(0, 180)] [(59, 59)] [(58, 60)] [(1, 8)] [(4, 4)]
def mgh19368 : aw_H := [(81, mgx19367)]
def mgx19369 : aw_A := ms_o [(0, 8)] [(0, 4)] ar_t32 ar_t32 [(0, 180)] [(60, 60)] [(58, 60)] [(1, 8)] [(4, 4)]
def mgh19370 : aw_H := [(81, mgx19369)]
/-- MiceRegistersModel.skip -/
def mgh19371 : aw_H := [(81, mgx19363), (90, .inr (.inl (0, 240, [], [])))]
def mgc6316 : ak_C := (122, [.inl 81], mgh19371, [81], [([], none, mgh19366), ([], none, mgh19368), ([], none, mgh19370)])
/-- MiceRegistersModel.readsLine -/
def mgx19372 : aw_A := ms_o [(0, 8)] [(0, 4)] ar_t32 ar_t32 [(0, 180)] [(58, 58)] [(59, 60)] [(1, 8)] [(4, 4)]
def mgh19373 : aw_H := [(81, mgx19372)]
def mgc6248 : ak_C := (124, [.inl 81], mgh19373, [], [([], some (.inr (false, [(0, 0)])), [])])
theorem mgk6248 : ai_chk [] mgc6248 (fun pc => sm_ch sm_t124 pc, sm_Kn 3 3 none, fun x => sm_lk sm_ca3 x, some .boolean) [] 3 0 [] [] 2000 [] = true := by decide +kernel
/-- MiceRegistersModel.readsMouse -/
def mgh19374 : aw_H := [(81, mgx19372), (90, .inr (.inl (0, 240, [], [])))]
def mgc6249 : ak_C := (127, [.inl 81], mgh19374, [], [([], some (.inr (false, [(0, 0)])), [])])
theorem mgk6249 : ai_chk [mgc21, mgc147] mgc6249 (fun pc => sm_ch sm_t127 pc, sm_Kn 3 5 none, fun x => sm_lk sm_ca3 x, some .boolean) [] 5 0 [] [] 2000 [] = true := by decide +kernel
/-- MiceRegistersModel.readsLine -/
def mgx19375 : aw_A := ms_o [(0, 8)] [(0, 4)] ar_t32 ar_t32 [(0, 180)] [(53, 53)] [(54, 60)] [(1, 8)] [(2, 2)]
def mgh19376 : aw_H := [(81, mgx19375)]
def mgc6054 : ak_C := (124, [.inl 81], mgh19376, [], [([], some (.inr (false, [(0, 0)])), [])])
theorem mgk6054 : ai_chk [] mgc6054 (fun pc => sm_ch sm_t124 pc, sm_Kn 3 3 none, fun x => sm_lk sm_ca3 x, some .boolean) [] 3 0 [] [] 2000 [] = true := by decide +kernel
/-- MiceRegistersModel.figure -/
def mgc6055 : ak_C := (125, [.inl 81, .inr (false, [(0, 0)]), .inr (false, [(0, 7)])], mgh18058, [81], [([], some (.inr (false, [(-9, -9)])), mgh18045), ([], some (.inr (false, [(0, 7)])), mgh18570)])
/-- MiceRegistersModel.figure -/
def mgc6056 : ak_C := (125, [.inl 81, .inr (false, [(1, 1)]), .inr (false, [(9, 9)])], mgh18581, [81], [([], some (.inr (false, [(-9, -9)])), mgh18570), ([], some (.inr (false, [(1, 9)])), mgh18418)])
def mgh19377 : aw_H := [(81, mgx19375), (94, mgx6150)]
/-- MiceRegistersModel.readsMouse -/
def mgh19378 : aw_H := [(81, mgx19375), (90, .inr (.inl (0, 240, [], []))), (94, mgx6150)]
def mgc6057 : ak_C := (127, [.inl 81], mgh19378, [81, 94], [([], some (.inr (false, [(0, 0)])), mgh19377), ([], some (.inr (false, [(1, 1)])), mgh19322), ([], some (.inr (false, [(0, 0)])), mgh18568), ([], some (.inr (false, [(0, 0)])), mgh18043)])
theorem mgk6057 : ai_chk [mgc26, mgc147, mgc6055, mgc6056] mgc6057 (fun pc => sm_ch sm_t127 pc, sm_Kn 3 5 none, fun x => sm_lk sm_ca3 x, some .boolean) [81, 94] 5 0 [] [] 2000 [] = true := by decide +kernel
def mgx19379 : aw_A := ms_o [(0, 8)] [(0, 4)] ar_t32 ar_t32 [(0, 180)] [(57, 57)] [(56, 60)] [(1, 8)] [(3, 3)]
def mgh19380 : aw_H := [(81, mgx19379)]
def mgx19381 : aw_A := ms_o [(0, 8)] [(0, 4)] ar_t32 ar_t32 [(0, 180)] [(58, 58)] [(56, 60)] [(1, 8)] [(3, 3)]
def mgh19382 : aw_H := [(81, mgx19381)]
def mgx19383 : aw_A := ms_o [(0, 8)] [(0, 4)] ar_t32 ar_t32 [(0, 180)] [(59, 59)] [(56, 60)] [(1, 8)] [(3, 3)]
def mgh19384 : aw_H := [(81, mgx19383)]
def mgx19385 : aw_A := ms_o [(0, 8)] [(0, 4)] ar_t32 ar_t32 [(0, 180)] [(60, 60)] [(56, 60)] [(1, 8)] [(3, 3)]
def mgh19386 : aw_H := [(81, mgx19385)]
/-- MiceRegistersModel.skip -/
def mgc6305 : ak_C := (122, [.inl 81], mgh19318, [81], [([], none, mgh19280), ([], none, mgh19380), ([], none, mgh19382), ([], none, mgh19384), ([], none, mgh19386)])
/-- MiceRegistersModel.readsLine -/
def mgx19387 : aw_A := ms_o [(0, 8)] [(0, 4)] ar_t32 ar_t32 [(0, 180)] [(57, 57)] [(58, 60)] [(1, 8)] [(3, 3)]
def mgh19388 : aw_H := [(81, mgx19387)]
def mgc6195 : ak_C := (124, [.inl 81], mgh19388, [], [([], some (.inr (false, [(0, 0)])), [])])
theorem mgk6195 : ai_chk [] mgc6195 (fun pc => sm_ch sm_t124 pc, sm_Kn 3 3 none, fun x => sm_lk sm_ca3 x, some .boolean) [] 3 0 [] [] 2000 [] = true := by decide +kernel
/-- MiceRegistersModel.figure -/
def mgc6196 : ak_C := (125, [.inl 81, .inr (false, [(0, 0)]), .inr (false, [(0, 7)])], mgh19258, [81], [([], some (.inr (false, [(-9, -9)])), mgh19253), ([], some (.inr (false, [(0, 7)])), mgh19226)])
/-- MiceRegistersModel.figure -/
def mgc6197 : ak_C := (125, [.inl 81, .inr (false, [(1, 1)]), .inr (false, [(9, 9)])], mgh19229, [81], [([], some (.inr (false, [(-9, -9)])), mgh19226), ([], some (.inr (false, [(1, 9)])), mgh19344)])
def mgh19389 : aw_H := [(81, mgx19387), (94, mgx6362)]
def mgx19390 : aw_A := ms_o [(0, 8)] [(0, 4)] ar_t32 ar_t32 [(0, 180)] [(60, 60)] [(60, 60)] [(1, 8)] [(4, 4)]
def mgh19391 : aw_H := [(81, mgx19390), (94, mgx6473)]
/-- MiceRegistersModel.readsMouse -/
def mgh19392 : aw_H := [(81, mgx19387), (90, .inr (.inl (0, 240, [], []))), (94, mgx6362)]
def mgc6198 : ak_C := (127, [.inl 81], mgh19392, [81, 94], [([], some (.inr (false, [(0, 0)])), mgh19389), ([], some (.inr (false, [(1, 1)])), mgh19391), ([], some (.inr (false, [(0, 0)])), mgh19224), ([], some (.inr (false, [(0, 0)])), mgh19251)])
theorem mgk6198 : ai_chk [mgc22, mgc147, mgc6196, mgc6197] mgc6198 (fun pc => sm_ch sm_t127 pc, sm_Kn 3 5 none, fun x => sm_lk sm_ca3 x, some .boolean) [81, 94] 5 0 [] [] 2000 [] = true := by decide +kernel
def mgh19393 : aw_H := [(81, mgx19390)]
/-- MiceRegistersModel.skip -/
def mgh19394 : aw_H := [(81, mgx19390), (90, .inr (.inl (0, 240, [], [])))]
def mgc6326 : ak_C := (122, [.inl 81], mgh19394, [81], [([], none, mgh19393)])
/-- MiceRegistersModel.readsLine -/
def mgx19395 : aw_A := ms_o [(0, 8)] [(0, 4)] ar_t32 ar_t32 [(0, 180)] [(56, 56)] [(57, 60)] [(1, 8)] [(3, 3)]
def mgh19396 : aw_H := [(81, mgx19395)]
def mgc6191 : ak_C := (124, [.inl 81], mgh19396, [], [([], some (.inr (false, [(0, 0)])), [])])
theorem mgk6191 : ai_chk [] mgc6191 (fun pc => sm_ch sm_t124 pc, sm_Kn 3 3 none, fun x => sm_lk sm_ca3 x, some .boolean) [] 3 0 [] [] 2000 [] = true := by decide +kernel
/-- MiceRegistersModel.figure -/
def mgc6192 : ak_C := (125, [.inl 81, .inr (false, [(0, 0)]), .inr (false, [(0, 7)])], mgh19246, [81], [([], some (.inr (false, [(-9, -9)])), mgh19239), ([], some (.inr (false, [(0, 7)])), mgh19253)])
/-- MiceRegistersModel.figure -/
def mgc6193 : ak_C := (125, [.inl 81, .inr (false, [(1, 1)]), .inr (false, [(9, 9)])], mgh19258, [81], [([], some (.inr (false, [(-9, -9)])), mgh19253), ([], some (.inr (false, [(1, 9)])), mgh19226)])
def mgh19397 : aw_H := [(81, mgx19395), (94, mgx6362)]
def mgx19398 : aw_A := ms_o [(0, 8)] [(0, 4)] ar_t32 ar_t32 [(0, 180)] [(59, 59)] [(59, 60)] [(1, 8)] [(4, 4)]
def mgh19399 : aw_H := [(81, mgx19398), (94, mgx6473)]
/-- MiceRegistersModel.readsMouse -/
def mgh19400 : aw_H := [(81, mgx19395), (90, .inr (.inl (0, 240, [], []))), (94, mgx6362)]
def mgc6194 : ak_C := (127, [.inl 81], mgh19400, [81, 94], [([], some (.inr (false, [(0, 0)])), mgh19397), ([], some (.inr (false, [(1, 1)])), mgh19399), ([], some (.inr (false, [(0, 0)])), mgh19251), ([], some (.inr (false, [(0, 0)])), mgh19237)])
theorem mgk6194 : ai_chk [mgc23, mgc147, mgc6192, mgc6193] mgc6194 (fun pc => sm_ch sm_t127 pc, sm_Kn 3 5 none, fun x => sm_lk sm_ca3 x, some .boolean) [81, 94] 5 0 [] [] 2000 [] = true := by decide +kernel
def mgh19401 : aw_H := [(81, mgx19398)]
def mgx19402 : aw_A := ms_o [(0, 8)] [(0, 4)] ar_t32 ar_t32 [(0, 180)] [(60, 60)] [(59, 60)] [(1, 8)] [(4, 4)]
def mgh19403 : aw_H := [(81, mgx19402)]
/-- MiceRegistersModel.skip -/
def mgh19404 : aw_H := [(81, mgx19398), (90, .inr (.inl (0, 240, [], [])))]
def mgc6321 : ak_C := (122, [.inl 81], mgh19404, [81], [([], none, mgh19401), ([], none, mgh19403)])
/-- MiceRegistersModel.readsLine -/
def mgx19405 : aw_A := ms_o [(0, 8)] [(0, 4)] ar_t32 ar_t32 [(0, 180)] [(59, 59)] [(60, 60)] [(1, 8)] [(4, 4)]
def mgh19406 : aw_H := [(81, mgx19405)]
def mgc6250 : ak_C := (124, [.inl 81], mgh19406, [], [([], some (.inr (false, [(0, 0)])), [])])
theorem mgk6250 : ai_chk [] mgc6250 (fun pc => sm_ch sm_t124 pc, sm_Kn 3 3 none, fun x => sm_lk sm_ca3 x, some .boolean) [] 3 0 [] [] 2000 [] = true := by decide +kernel
/-- MiceRegistersModel.readsMouse -/
def mgh19407 : aw_H := [(81, mgx19405), (90, .inr (.inl (0, 240, [], [])))]
def mgc6251 : ak_C := (127, [.inl 81], mgh19407, [], [([], some (.inr (false, [(0, 0)])), [])])
theorem mgk6251 : ai_chk [mgc20, mgc147] mgc6251 (fun pc => sm_ch sm_t127 pc, sm_Kn 3 5 none, fun x => sm_lk sm_ca3 x, some .boolean) [] 5 0 [] [] 2000 [] = true := by decide +kernel
/-- MiceRegistersModel.readsLine -/
def mgx19408 : aw_A := ms_o [(0, 8)] [(0, 4)] ar_t32 ar_t32 [(0, 180)] [(59, 59)] [(60, 60)] [(1, 8)] [(3, 3)]
def mgh19409 : aw_H := [(81, mgx19408)]
def mgc6203 : ak_C := (124, [.inl 81], mgh19409, [], [([], some (.inr (false, [(0, 0)])), [])])
theorem mgk6203 : ai_chk [] mgc6203 (fun pc => sm_ch sm_t124 pc, sm_Kn 3 3 none, fun x => sm_lk sm_ca3 x, some .boolean) [] 3 0 [] [] 2000 [] = true := by decide +kernel
/-- MiceRegistersModel.figure -/
def mgc6204 : ak_C := (125, [.inl 81, .inr (false, [(0, 0)]), .inr (false, [(0, 7)])], mgh19345, [81], [([], some (.inr (false, [(-9, -9)])), mgh19344)])
/-- MiceRegistersModel.readsMouse -/
def mgh19410 : aw_H := [(81, mgx19408), (90, .inr (.inl (0, 240, [], [])))]
def mgc6205 : ak_C := (127, [.inl 81], mgh19410, [81], [([], some (.inr (false, [(0, 0)])), mgh19409), ([], some (.inr (false, [(0, 0)])), mgh19344)])
theorem mgk6205 : ai_chk [mgc20, mgc147, mgc6204] mgc6205 (fun pc => sm_ch sm_t127 pc, sm_Kn 3 5 none, fun x => sm_lk sm_ca3 x, some .boolean) [81] 5 0 [] [] 2000 [] = true := by decide +kernel
/-- MiceRegistersModel.readsLine -/
def mgx19411 : aw_A := ms_o [(0, 8)] [(0, 4)] ar_t32 ar_t32 [(0, 180)] [(58, 58)] [(59, 60)] [(1, 8)] [(3, 3)]
def mgh19412 : aw_H := [(81, mgx19411)]
def mgc6199 : ak_C := (124, [.inl 81], mgh19412, [], [([], some (.inr (false, [(0, 0)])), [])])
theorem mgk6199 : ai_chk [] mgc6199 (fun pc => sm_ch sm_t124 pc, sm_Kn 3 3 none, fun x => sm_lk sm_ca3 x, some .boolean) [] 3 0 [] [] 2000 [] = true := by decide +kernel
/-- MiceRegistersModel.figure -/
def mgc6200 : ak_C := (125, [.inl 81, .inr (false, [(0, 0)]), .inr (false, [(0, 7)])], mgh19229, [81], [([], some (.inr (false, [(-9, -9)])), mgh19226), ([], some (.inr (false, [(0, 7)])), mgh19344)])
/-- MiceRegistersModel.figure -/
def mgc6201 : ak_C := (125, [.inl 81, .inr (false, [(1, 1)]), .inr (false, [(9, 9)])], mgh19345, [81], [([], some (.inr (false, [(-9, -9)])), mgh19344)])
/-- MiceRegistersModel.readsMouse -/
def mgh19413 : aw_H := [(81, mgx19411), (90, .inr (.inl (0, 240, [], [])))]
def mgc6202 : ak_C := (127, [.inl 81], mgh19413, [81], [([], some (.inr (false, [(0, 0)])), mgh19412), ([], some (.inr (false, [(0, 0)])), mgh19344), ([], some (.inr (false, [(0, 0)])), mgh19226)])
theorem mgk6202 : ai_chk [mgc21, mgc147, mgc6200, mgc6201] mgc6202 (fun pc => sm_ch sm_t127 pc, sm_Kn 3 5 none, fun x => sm_lk sm_ca3 x, some .boolean) [81] 5 0 [] [] 2000 [] = true := by decide +kernel
def mgh19414 : aw_H := [(81, mgx499), (92, .inr (.inl (0, 8, [], []))), (93, .inr (.inl (0, 8, [], []))), (94, mgx4446)]
def mgx19415 : aw_A := ms_o [(0, 8)] [(0, 4)] ar_t32 ar_t32 [(0, 180)] [(1, 60)] [(-1, 60)] [(0, 8)] [(0, 4)]
def mgh19416 : aw_H := [(81, mgx19415), (92, .inr (.inl (0, 8, [], []))), (93, .inr (.inl (0, 8, [], []))), (94, mgx4446)]
def mgx19417 : aw_A := ms_o [(0, 8)] [(0, 4)] ar_t32 ar_t32 [(0, 180)] [(8, 60)] [(8, 60)] [(1, 8)] [(1, 1)]
def mgh19418 : aw_H := [(81, mgx19417), (92, .inr (.inl (0, 8, [], []))), (93, .inr (.inl (0, 8, [], []))), (94, mgx4449)]
def mgx19419 : aw_A := ms_o [(0, 8)] [(0, 4)] ar_t32 ar_t32 [(0, 180)] [(11, 60)] [(11, 60)] [(1, 8)] [(2, 2)]
def mgh19420 : aw_H := [(81, mgx19419), (92, .inr (.inl (0, 8, [], []))), (93, .inr (.inl (0, 8, [], []))), (94, mgx6150)]
def mgx19421 : aw_A := ms_o [(0, 8)] [(0, 4)] ar_t32 ar_t32 [(0, 180)] [(14, 60)] [(14, 60)] [(1, 8)] [(3, 3)]
def mgh19422 : aw_H := [(81, mgx19421), (92, .inr (.inl (0, 8, [], []))), (93, .inr (.inl (0, 8, [], []))), (94, mgx6362)]
def mgx19423 : aw_A := ms_o [(0, 8)] [(0, 4)] ar_t32 ar_t32 [(0, 180)] [(17, 60)] [(17, 60)] [(1, 8)] [(4, 4)]
def mgh19424 : aw_H := [(81, mgx19423), (92, .inr (.inl (0, 8, [], []))), (93, .inr (.inl (0, 8, [], []))), (94, mgx6473)]
/-- MiceRegistersModel.faultOf -/
def mgh19425 : aw_H := [(81, mgx2), (89, mgx494), (90, .inr (.inl (0, 240, [], []))), (92, .inr (.inl (0, 8, [], []))), (93, .inr (.inl (0, 8, [], []))), (94, mgx4446)]
def mgc6327 : ak_C := (120, [.inl 81, .inr (false, [(0, 3)])], mgh19425, [81, 92, 93, 94], [([], some (.inr (false, [(0, 0)])), mgh19414), ([], some (.inr (false, [(1, 60)])), mgh19416), ([], some (.inr (false, [(-9, -9)])), mgh19418), ([], some (.inr (false, [(-9, -9)])), mgh19420), ([], some (.inr (false, [(-9, -9)])), mgh19422), ([], some (.inr (false, [(-9, -9)])), mgh19424)])
def mgb6327 : sm_P := (fun pc => sm_ch sm_t120 pc, sm_Kn 3 3 none, fun x => sm_lk sm_ca3 x, some .int)
def mgn6327_0 : Nat × aw_S := (0, ai_lv mgc6327.2.1 0, [], mgc6327.2.2.1)
def mgh19426 : aw_H := [(81, mgx808), (89, mgx494), (90, .inr (.inl (0, 240, [], []))), (92, .inr (.inl (0, 8, [], []))), (93, .inr (.inl (0, 8, [], []))), (94, mgx4446)]
def mgn6327_1 : Nat × aw_S := (42, [(0, .inl 81), (1, .inr (false, [(0, 3)])), (2, .inr (false, [(1, 1)]))], [], mgh19426)
def mgh19427 : aw_H := [(81, mgx852), (89, mgx494), (90, .inr (.inl (0, 240, [], []))), (92, .inr (.inl (0, 8, [], []))), (93, .inr (.inl (0, 8, [], []))), (94, mgx4446)]
def mgn6327_2 : Nat × aw_S := (42, [(0, .inl 81), (1, .inr (false, [(0, 3)])), (2, .inr (false, [(1, 1)]))], [], mgh19427)
def mgh19428 : aw_H := [(81, mgx820), (89, mgx494), (90, .inr (.inl (0, 240, [], []))), (92, .inr (.inl (0, 8, [], []))), (93, .inr (.inl (0, 8, [], []))), (94, mgx4446)]
def mgn6327_3 : Nat × aw_S := (42, [(0, .inl 81), (1, .inr (false, [(0, 3)])), (2, .inr (false, [(1, 1)]))], [], mgh19428)
def mgh19429 : aw_H := [(81, mgx752), (89, mgx494), (90, .inr (.inl (0, 240, [], []))), (92, .inr (.inl (0, 8, [], []))), (93, .inr (.inl (0, 8, [], []))), (94, mgx4446)]
def mgn6327_4 : Nat × aw_S := (42, [(0, .inl 81), (1, .inr (false, [(0, 3)])), (2, .inr (false, [(1, 1)]))], [], mgh19429)
def mgh19430 : aw_H := [(81, mgx794), (89, mgx494), (90, .inr (.inl (0, 240, [], []))), (92, .inr (.inl (0, 8, [], []))), (93, .inr (.inl (0, 8, [], []))), (94, mgx4446)]
def mgn6327_5 : Nat × aw_S := (42, [(0, .inl 81), (1, .inr (false, [(0, 3)])), (2, .inr (false, [(1, 1)]))], [], mgh19430)
def mgh19431 : aw_H := [(81, mgx760), (89, mgx494), (90, .inr (.inl (0, 240, [], []))), (92, .inr (.inl (0, 8, [], []))), (93, .inr (.inl (0, 8, [], []))), (94, mgx4446)]
def mgn6327_6 : Nat × aw_S := (42, [(0, .inl 81), (1, .inr (false, [(0, 3)])), (2, .inr (false, [(1, 1)]))], [], mgh19431)
def mgh19432 : aw_H := [(81, mgx838), (89, mgx494), (90, .inr (.inl (0, 240, [], []))), (92, .inr (.inl (0, 8, [], []))), (93, .inr (.inl (0, 8, [], []))), (94, mgx4446)]
def mgn6327_7 : Nat × aw_S := (42, [(0, .inl 81), (1, .inr (false, [(0, 3)])), (2, .inr (false, [(1, 1)]))], [], mgh19432)
def mgh19433 : aw_H := [(81, mgx774), (89, mgx494), (90, .inr (.inl (0, 240, [], []))), (92, .inr (.inl (0, 8, [], []))), (93, .inr (.inl (0, 8, [], []))), (94, mgx4446)]
def mgn6327_8 : Nat × aw_S := (42, [(0, .inl 81), (1, .inr (false, [(0, 3)])), (2, .inr (false, [(1, 1)]))], [], mgh19433)
def mgh19434 : aw_H := [(81, mgx836), (89, mgx494), (90, .inr (.inl (0, 240, [], []))), (92, .inr (.inl (0, 8, [], []))), (93, .inr (.inl (0, 8, [], []))), (94, mgx4446)]
def mgn6327_9 : Nat × aw_S := (42, [(0, .inl 81), (1, .inr (false, [(0, 3)])), (2, .inr (false, [(1, 1)]))], [], mgh19434)
def mgh19435 : aw_H := [(81, mgx848), (89, mgx494), (90, .inr (.inl (0, 240, [], []))), (92, .inr (.inl (0, 8, [], []))), (93, .inr (.inl (0, 8, [], []))), (94, mgx4446)]
def mgn6327_10 : Nat × aw_S := (42, [(0, .inl 81), (1, .inr (false, [(0, 3)])), (2, .inr (false, [(1, 1)]))], [], mgh19435)
def mgh19436 : aw_H := [(81, mgx846), (89, mgx494), (90, .inr (.inl (0, 240, [], []))), (92, .inr (.inl (0, 8, [], []))), (93, .inr (.inl (0, 8, [], []))), (94, mgx4446)]
def mgn6327_11 : Nat × aw_S := (42, [(0, .inl 81), (1, .inr (false, [(0, 3)])), (2, .inr (false, [(1, 1)]))], [], mgh19436)
def mgh19437 : aw_H := [(81, mgx782), (89, mgx494), (90, .inr (.inl (0, 240, [], []))), (92, .inr (.inl (0, 8, [], []))), (93, .inr (.inl (0, 8, [], []))), (94, mgx4446)]
def mgn6327_12 : Nat × aw_S := (42, [(0, .inl 81), (1, .inr (false, [(0, 3)])), (2, .inr (false, [(1, 1)]))], [], mgh19437)
def mgh19438 : aw_H := [(81, mgx844), (89, mgx494), (90, .inr (.inl (0, 240, [], []))), (92, .inr (.inl (0, 8, [], []))), (93, .inr (.inl (0, 8, [], []))), (94, mgx4446)]
def mgn6327_13 : Nat × aw_S := (42, [(0, .inl 81), (1, .inr (false, [(0, 3)])), (2, .inr (false, [(1, 1)]))], [], mgh19438)
def mgh19439 : aw_H := [(81, mgx776), (89, mgx494), (90, .inr (.inl (0, 240, [], []))), (92, .inr (.inl (0, 8, [], []))), (93, .inr (.inl (0, 8, [], []))), (94, mgx4446)]
def mgn6327_14 : Nat × aw_S := (42, [(0, .inl 81), (1, .inr (false, [(0, 3)])), (2, .inr (false, [(1, 1)]))], [], mgh19439)
def mgh19440 : aw_H := [(81, mgx840), (89, mgx494), (90, .inr (.inl (0, 240, [], []))), (92, .inr (.inl (0, 8, [], []))), (93, .inr (.inl (0, 8, [], []))), (94, mgx4446)]
def mgn6327_15 : Nat × aw_S := (42, [(0, .inl 81), (1, .inr (false, [(0, 3)])), (2, .inr (false, [(1, 1)]))], [], mgh19440)
def mgh19441 : aw_H := [(81, mgx856), (89, mgx494), (90, .inr (.inl (0, 240, [], []))), (92, .inr (.inl (0, 8, [], []))), (93, .inr (.inl (0, 8, [], []))), (94, mgx4446)]
def mgn6327_16 : Nat × aw_S := (42, [(0, .inl 81), (1, .inr (false, [(0, 3)])), (2, .inr (false, [(1, 1)]))], [], mgh19441)
def mgh19442 : aw_H := [(81, mgx792), (89, mgx494), (90, .inr (.inl (0, 240, [], []))), (92, .inr (.inl (0, 8, [], []))), (93, .inr (.inl (0, 8, [], []))), (94, mgx4446)]
def mgn6327_17 : Nat × aw_S := (42, [(0, .inl 81), (1, .inr (false, [(0, 3)])), (2, .inr (false, [(1, 1)]))], [], mgh19442)
def mgh19443 : aw_H := [(81, mgx818), (89, mgx494), (90, .inr (.inl (0, 240, [], []))), (92, .inr (.inl (0, 8, [], []))), (93, .inr (.inl (0, 8, [], []))), (94, mgx4446)]
def mgn6327_18 : Nat × aw_S := (42, [(0, .inl 81), (1, .inr (false, [(0, 3)])), (2, .inr (false, [(1, 1)]))], [], mgh19443)
def mgh19444 : aw_H := [(81, mgx746), (89, mgx494), (90, .inr (.inl (0, 240, [], []))), (92, .inr (.inl (0, 8, [], []))), (93, .inr (.inl (0, 8, [], []))), (94, mgx4446)]
def mgn6327_19 : Nat × aw_S := (42, [(0, .inl 81), (1, .inr (false, [(0, 3)])), (2, .inr (false, [(1, 1)]))], [], mgh19444)
def mgh19445 : aw_H := [(81, mgx778), (89, mgx494), (90, .inr (.inl (0, 240, [], []))), (92, .inr (.inl (0, 8, [], []))), (93, .inr (.inl (0, 8, [], []))), (94, mgx4446)]
def mgn6327_20 : Nat × aw_S := (42, [(0, .inl 81), (1, .inr (false, [(0, 3)])), (2, .inr (false, [(1, 1)]))], [], mgh19445)
def mgh19446 : aw_H := [(81, mgx804), (89, mgx494), (90, .inr (.inl (0, 240, [], []))), (92, .inr (.inl (0, 8, [], []))), (93, .inr (.inl (0, 8, [], []))), (94, mgx4446)]
def mgn6327_21 : Nat × aw_S := (42, [(0, .inl 81), (1, .inr (false, [(0, 3)])), (2, .inr (false, [(1, 1)]))], [], mgh19446)
def mgh19447 : aw_H := [(81, mgx756), (89, mgx494), (90, .inr (.inl (0, 240, [], []))), (92, .inr (.inl (0, 8, [], []))), (93, .inr (.inl (0, 8, [], []))), (94, mgx4446)]
def mgn6327_22 : Nat × aw_S := (42, [(0, .inl 81), (1, .inr (false, [(0, 3)])), (2, .inr (false, [(1, 1)]))], [], mgh19447)
def mgh19448 : aw_H := [(81, mgx788), (89, mgx494), (90, .inr (.inl (0, 240, [], []))), (92, .inr (.inl (0, 8, [], []))), (93, .inr (.inl (0, 8, [], []))), (94, mgx4446)]
def mgn6327_23 : Nat × aw_S := (42, [(0, .inl 81), (1, .inr (false, [(0, 3)])), (2, .inr (false, [(1, 1)]))], [], mgh19448)
def mgh19449 : aw_H := [(81, mgx832), (89, mgx494), (90, .inr (.inl (0, 240, [], []))), (92, .inr (.inl (0, 8, [], []))), (93, .inr (.inl (0, 8, [], []))), (94, mgx4446)]
def mgn6327_24 : Nat × aw_S := (42, [(0, .inl 81), (1, .inr (false, [(0, 3)])), (2, .inr (false, [(1, 1)]))], [], mgh19449)
def mgh19450 : aw_H := [(81, mgx814), (89, mgx494), (90, .inr (.inl (0, 240, [], []))), (92, .inr (.inl (0, 8, [], []))), (93, .inr (.inl (0, 8, [], []))), (94, mgx4446)]
def mgn6327_25 : Nat × aw_S := (42, [(0, .inl 81), (1, .inr (false, [(0, 3)])), (2, .inr (false, [(1, 1)]))], [], mgh19450)
def mgh19451 : aw_H := [(81, mgx750), (89, mgx494), (90, .inr (.inl (0, 240, [], []))), (92, .inr (.inl (0, 8, [], []))), (93, .inr (.inl (0, 8, [], []))), (94, mgx4446)]
def mgn6327_26 : Nat × aw_S := (42, [(0, .inl 81), (1, .inr (false, [(0, 3)])), (2, .inr (false, [(1, 1)]))], [], mgh19451)
def mgh19452 : aw_H := [(81, mgx766), (89, mgx494), (90, .inr (.inl (0, 240, [], []))), (92, .inr (.inl (0, 8, [], []))), (93, .inr (.inl (0, 8, [], []))), (94, mgx4446)]
def mgn6327_27 : Nat × aw_S := (42, [(0, .inl 81), (1, .inr (false, [(0, 3)])), (2, .inr (false, [(1, 1)]))], [], mgh19452)
def mgh19453 : aw_H := [(81, mgx786), (89, mgx494), (90, .inr (.inl (0, 240, [], []))), (92, .inr (.inl (0, 8, [], []))), (93, .inr (.inl (0, 8, [], []))), (94, mgx4446)]
def mgn6327_28 : Nat × aw_S := (42, [(0, .inl 81), (1, .inr (false, [(0, 3)])), (2, .inr (false, [(1, 1)]))], [], mgh19453)
def mgh19454 : aw_H := [(81, mgx812), (89, mgx494), (90, .inr (.inl (0, 240, [], []))), (92, .inr (.inl (0, 8, [], []))), (93, .inr (.inl (0, 8, [], []))), (94, mgx4446)]
def mgn6327_29 : Nat × aw_S := (42, [(0, .inl 81), (1, .inr (false, [(0, 3)])), (2, .inr (false, [(1, 1)]))], [], mgh19454)
def mgh19455 : aw_H := [(81, mgx748), (89, mgx494), (90, .inr (.inl (0, 240, [], []))), (92, .inr (.inl (0, 8, [], []))), (93, .inr (.inl (0, 8, [], []))), (94, mgx4446)]
def mgn6327_30 : Nat × aw_S := (42, [(0, .inl 81), (1, .inr (false, [(0, 3)])), (2, .inr (false, [(1, 1)]))], [], mgh19455)
def mgh19456 : aw_H := [(81, mgx810), (89, mgx494), (90, .inr (.inl (0, 240, [], []))), (92, .inr (.inl (0, 8, [], []))), (93, .inr (.inl (0, 8, [], []))), (94, mgx4446)]
def mgn6327_31 : Nat × aw_S := (42, [(0, .inl 81), (1, .inr (false, [(0, 3)])), (2, .inr (false, [(1, 1)]))], [], mgh19456)
def mgh19457 : aw_H := [(81, mgx796), (89, mgx494), (90, .inr (.inl (0, 240, [], []))), (92, .inr (.inl (0, 8, [], []))), (93, .inr (.inl (0, 8, [], []))), (94, mgx4446)]
def mgn6327_32 : Nat × aw_S := (42, [(0, .inl 81), (1, .inr (false, [(0, 3)])), (2, .inr (false, [(1, 1)]))], [], mgh19457)
def mgh19458 : aw_H := [(81, mgx854), (89, mgx494), (90, .inr (.inl (0, 240, [], []))), (92, .inr (.inl (0, 8, [], []))), (93, .inr (.inl (0, 8, [], []))), (94, mgx4446)]
def mgn6327_33 : Nat × aw_S := (42, [(0, .inl 81), (1, .inr (false, [(0, 3)])), (2, .inr (false, [(1, 1)]))], [], mgh19458)
def mgh19459 : aw_H := [(81, mgx858), (89, mgx494), (90, .inr (.inl (0, 240, [], []))), (92, .inr (.inl (0, 8, [], []))), (93, .inr (.inl (0, 8, [], []))), (94, mgx4446)]
def mgn6327_34 : Nat × aw_S := (42, [(0, .inl 81), (1, .inr (false, [(0, 3)])), (2, .inr (false, [(1, 1)]))], [], mgh19459)
def mgh19460 : aw_H := [(81, mgx822), (89, mgx494), (90, .inr (.inl (0, 240, [], []))), (92, .inr (.inl (0, 8, [], []))), (93, .inr (.inl (0, 8, [], []))), (94, mgx4446)]
def mgn6327_35 : Nat × aw_S := (42, [(0, .inl 81), (1, .inr (false, [(0, 3)])), (2, .inr (false, [(1, 1)]))], [], mgh19460)
def mgh19461 : aw_H := [(81, mgx758), (89, mgx494), (90, .inr (.inl (0, 240, [], []))), (92, .inr (.inl (0, 8, [], []))), (93, .inr (.inl (0, 8, [], []))), (94, mgx4446)]
def mgn6327_36 : Nat × aw_S := (42, [(0, .inl 81), (1, .inr (false, [(0, 3)])), (2, .inr (false, [(1, 1)]))], [], mgh19461)
def mgh19462 : aw_H := [(81, mgx780), (89, mgx494), (90, .inr (.inl (0, 240, [], []))), (92, .inr (.inl (0, 8, [], []))), (93, .inr (.inl (0, 8, [], []))), (94, mgx4446)]
def mgn6327_37 : Nat × aw_S := (42, [(0, .inl 81), (1, .inr (false, [(0, 3)])), (2, .inr (false, [(1, 1)]))], [], mgh19462)
def mgh19463 : aw_H := [(81, mgx784), (89, mgx494), (90, .inr (.inl (0, 240, [], []))), (92, .inr (.inl (0, 8, [], []))), (93, .inr (.inl (0, 8, [], []))), (94, mgx4446)]
def mgn6327_38 : Nat × aw_S := (42, [(0, .inl 81), (1, .inr (false, [(0, 3)])), (2, .inr (false, [(1, 1)]))], [], mgh19463)
def mgh19464 : aw_H := [(81, mgx802), (89, mgx494), (90, .inr (.inl (0, 240, [], []))), (92, .inr (.inl (0, 8, [], []))), (93, .inr (.inl (0, 8, [], []))), (94, mgx4446)]
def mgn6327_39 : Nat × aw_S := (42, [(0, .inl 81), (1, .inr (false, [(0, 3)])), (2, .inr (false, [(1, 1)]))], [], mgh19464)
def mgh19465 : aw_H := [(81, mgx824), (89, mgx494), (90, .inr (.inl (0, 240, [], []))), (92, .inr (.inl (0, 8, [], []))), (93, .inr (.inl (0, 8, [], []))), (94, mgx4446)]
def mgn6327_40 : Nat × aw_S := (42, [(0, .inl 81), (1, .inr (false, [(0, 3)])), (2, .inr (false, [(1, 1)]))], [], mgh19465)
def mgh19466 : aw_H := [(81, mgx744), (89, mgx494), (90, .inr (.inl (0, 240, [], []))), (92, .inr (.inl (0, 8, [], []))), (93, .inr (.inl (0, 8, [], []))), (94, mgx4446)]
def mgn6327_41 : Nat × aw_S := (42, [(0, .inl 81), (1, .inr (false, [(0, 3)])), (2, .inr (false, [(1, 1)]))], [], mgh19466)
def mgh19467 : aw_H := [(81, mgx816), (89, mgx494), (90, .inr (.inl (0, 240, [], []))), (92, .inr (.inl (0, 8, [], []))), (93, .inr (.inl (0, 8, [], []))), (94, mgx4446)]
def mgn6327_42 : Nat × aw_S := (42, [(0, .inl 81), (1, .inr (false, [(0, 3)])), (2, .inr (false, [(1, 1)]))], [], mgh19467)
def mgh19468 : aw_H := [(81, mgx770), (89, mgx494), (90, .inr (.inl (0, 240, [], []))), (92, .inr (.inl (0, 8, [], []))), (93, .inr (.inl (0, 8, [], []))), (94, mgx4446)]
def mgn6327_43 : Nat × aw_S := (42, [(0, .inl 81), (1, .inr (false, [(0, 3)])), (2, .inr (false, [(1, 1)]))], [], mgh19468)
def mgh19469 : aw_H := [(81, mgx768), (89, mgx494), (90, .inr (.inl (0, 240, [], []))), (92, .inr (.inl (0, 8, [], []))), (93, .inr (.inl (0, 8, [], []))), (94, mgx4446)]
def mgn6327_44 : Nat × aw_S := (42, [(0, .inl 81), (1, .inr (false, [(0, 3)])), (2, .inr (false, [(1, 1)]))], [], mgh19469)
def mgh19470 : aw_H := [(81, mgx826), (89, mgx494), (90, .inr (.inl (0, 240, [], []))), (92, .inr (.inl (0, 8, [], []))), (93, .inr (.inl (0, 8, [], []))), (94, mgx4446)]
def mgn6327_45 : Nat × aw_S := (42, [(0, .inl 81), (1, .inr (false, [(0, 3)])), (2, .inr (false, [(1, 1)]))], [], mgh19470)
def mgh19471 : aw_H := [(81, mgx842), (89, mgx494), (90, .inr (.inl (0, 240, [], []))), (92, .inr (.inl (0, 8, [], []))), (93, .inr (.inl (0, 8, [], []))), (94, mgx4446)]
def mgn6327_46 : Nat × aw_S := (42, [(0, .inl 81), (1, .inr (false, [(0, 3)])), (2, .inr (false, [(1, 1)]))], [], mgh19471)
def mgh19472 : aw_H := [(81, mgx762), (89, mgx494), (90, .inr (.inl (0, 240, [], []))), (92, .inr (.inl (0, 8, [], []))), (93, .inr (.inl (0, 8, [], []))), (94, mgx4446)]
def mgn6327_47 : Nat × aw_S := (42, [(0, .inl 81), (1, .inr (false, [(0, 3)])), (2, .inr (false, [(1, 1)]))], [], mgh19472)
def mgh19473 : aw_H := [(81, mgx742), (89, mgx494), (90, .inr (.inl (0, 240, [], []))), (92, .inr (.inl (0, 8, [], []))), (93, .inr (.inl (0, 8, [], []))), (94, mgx4446)]
def mgn6327_48 : Nat × aw_S := (42, [(0, .inl 81), (1, .inr (false, [(0, 3)])), (2, .inr (false, [(1, 1)]))], [], mgh19473)
def mgh19474 : aw_H := [(81, mgx499), (89, mgx494), (90, .inr (.inl (0, 240, [], []))), (92, .inr (.inl (0, 8, [], []))), (93, .inr (.inl (0, 8, [], []))), (94, mgx4446)]
def mgn6327_49 : Nat × aw_S := (46, [(0, .inl 81), (1, .inr (false, [(0, 3)])), (2, .inr (false, [(0, 0)]))], [], mgh19474)
def mgh19475 : aw_H := [(81, mgx806), (89, mgx494), (90, .inr (.inl (0, 240, [], []))), (92, .inr (.inl (0, 8, [], []))), (93, .inr (.inl (0, 8, [], []))), (94, mgx4446)]
def mgn6327_50 : Nat × aw_S := (42, [(0, .inl 81), (1, .inr (false, [(0, 3)])), (2, .inr (false, [(1, 1)]))], [], mgh19475)
def mgh19476 : aw_H := [(81, mgx850), (89, mgx494), (90, .inr (.inl (0, 240, [], []))), (92, .inr (.inl (0, 8, [], []))), (93, .inr (.inl (0, 8, [], []))), (94, mgx4446)]
def mgn6327_51 : Nat × aw_S := (42, [(0, .inl 81), (1, .inr (false, [(0, 3)])), (2, .inr (false, [(1, 1)]))], [], mgh19476)
def mgh19477 : aw_H := [(81, mgx860), (89, mgx494), (90, .inr (.inl (0, 240, [], []))), (92, .inr (.inl (0, 8, [], []))), (93, .inr (.inl (0, 8, [], []))), (94, mgx4446)]
def mgn6327_52 : Nat × aw_S := (42, [(0, .inl 81), (1, .inr (false, [(0, 3)])), (2, .inr (false, [(1, 1)]))], [], mgh19477)
def mgh19478 : aw_H := [(81, mgx3842), (89, mgx494), (90, .inr (.inl (0, 240, [], []))), (92, .inr (.inl (0, 8, [], []))), (93, .inr (.inl (0, 8, [], []))), (94, mgx4446)]
def mgn6327_53 : Nat × aw_S := (46, [(0, .inl 81), (1, .inr (false, [(0, 3)])), (2, .inr (false, [(1, 1)]))], [], mgh19478)
def mgh19479 : aw_H := [(81, mgx3962), (89, mgx494), (90, .inr (.inl (0, 240, [], []))), (92, .inr (.inl (0, 8, [], []))), (93, .inr (.inl (0, 8, [], []))), (94, mgx4446)]
def mgn6327_54 : Nat × aw_S := (86, [(0, .inl 81), (1, .inr (false, [(0, 3)])), (2, .inr (false, [(1, 1)]))], [], mgh19479)
def mgh19480 : aw_H := [(81, mgx3844), (89, mgx494), (90, .inr (.inl (0, 240, [], []))), (92, .inr (.inl (0, 8, [], []))), (93, .inr (.inl (0, 8, [], []))), (94, mgx4446)]
def mgn6327_55 : Nat × aw_S := (46, [(0, .inl 81), (1, .inr (false, [(0, 3)])), (2, .inr (false, [(1, 1)]))], [], mgh19480)
def mgh19481 : aw_H := [(81, mgx4080), (89, mgx494), (90, .inr (.inl (0, 240, [], []))), (92, .inr (.inl (0, 8, [], []))), (93, .inr (.inl (0, 8, [], []))), (94, mgx4446)]
def mgn6327_56 : Nat × aw_S := (86, [(0, .inl 81), (1, .inr (false, [(0, 3)])), (2, .inr (false, [(1, 1)]))], [], mgh19481)
def mgh19482 : aw_H := [(81, mgx3846), (89, mgx494), (90, .inr (.inl (0, 240, [], []))), (92, .inr (.inl (0, 8, [], []))), (93, .inr (.inl (0, 8, [], []))), (94, mgx4446)]
def mgn6327_57 : Nat × aw_S := (46, [(0, .inl 81), (1, .inr (false, [(0, 3)])), (2, .inr (false, [(1, 1)]))], [], mgh19482)
def mgh19483 : aw_H := [(81, mgx4194), (89, mgx494), (90, .inr (.inl (0, 240, [], []))), (92, .inr (.inl (0, 8, [], []))), (93, .inr (.inl (0, 8, [], []))), (94, mgx4446)]
def mgn6327_58 : Nat × aw_S := (86, [(0, .inl 81), (1, .inr (false, [(0, 3)])), (2, .inr (false, [(1, 1)]))], [], mgh19483)
def mgn6327_59 : Nat × aw_S := (46, [(0, .inl 81), (1, .inr (false, [(0, 3)])), (2, .inr (false, [(1, 1)]))], [], mgh19477)
def mgh19484 : aw_H := [(81, mgx501), (89, mgx494), (90, .inr (.inl (0, 240, [], []))), (92, .inr (.inl (0, 8, [], []))), (93, .inr (.inl (0, 8, [], []))), (94, mgx4446)]
def mgn6327_60 : Nat × aw_S := (46, [(0, .inl 81), (1, .inr (false, [(0, 3)])), (2, .inr (false, [(0, 0)]))], [], mgh19484)
def mgh19485 : aw_H := [(81, mgx503), (89, mgx494), (90, .inr (.inl (0, 240, [], []))), (92, .inr (.inl (0, 8, [], []))), (93, .inr (.inl (0, 8, [], []))), (94, mgx4446)]
def mgn6327_61 : Nat × aw_S := (46, [(0, .inl 81), (1, .inr (false, [(0, 3)])), (2, .inr (false, [(0, 0)]))], [], mgh19485)
def mgh19486 : aw_H := [(81, mgx4305), (89, mgx494), (90, .inr (.inl (0, 240, [], []))), (92, .inr (.inl (0, 8, [], []))), (93, .inr (.inl (0, 8, [], []))), (94, mgx4446)]
def mgn6327_62 : Nat × aw_S := (86, [(0, .inl 81), (1, .inr (false, [(0, 3)])), (2, .inr (false, [(1, 1)]))], [], mgh19486)
def mgx19487 : aw_A := ms_o [(0, 8)] [(0, 4)] ar_t32 ar_t32 [(0, 180)] [(7, 7)] [(1, 60)] [(0, 1)] [(0, 0)]
def mgh19488 : aw_H := [(81, mgx19487), (89, mgx494), (90, .inr (.inl (0, 240, [], []))), (92, .inr (.inl (0, 8, [], []))), (93, .inr (.inl (0, 8, [], []))), (94, mgx4446)]
def mgn6327_63 : Nat × aw_S := (46, [(0, .inl 81), (1, .inr (false, [(0, 3)])), (2, .inr (false, [(1, 1)]))], [], mgh19488)
def mgh19489 : aw_H := [(81, mgx4435), (89, mgx494), (90, .inr (.inl (0, 240, [], []))), (92, .inr (.inl (0, 8, [], []))), (93, .inr (.inl (0, 8, [], []))), (94, mgx4446)]
def mgn6327_64 : Nat × aw_S := (86, [(0, .inl 81), (1, .inr (false, [(0, 3)])), (2, .inr (false, [(1, 1)]))], [], mgh19489)
def mgh19490 : aw_H := [(81, mgx4448), (89, mgx494), (90, .inr (.inl (0, 240, [], []))), (92, .inr (.inl (0, 8, [], []))), (93, .inr (.inl (0, 8, [], []))), (94, mgx4449)]
def mgn6327_65 : Nat × aw_S := (86, [(0, .inl 81), (1, .inr (false, [(0, 3)])), (2, .inr (false, [(1, 1)]))], [], mgh19490)
def mgx19491 : aw_A := ms_o [(0, 8)] [(0, 4)] ar_t32 ar_t32 [(0, 180)] [(8, 8)] [(1, 60)] [(0, 1)] [(0, 0)]
def mgh19492 : aw_H := [(81, mgx19491), (89, mgx494), (90, .inr (.inl (0, 240, [], []))), (92, .inr (.inl (0, 8, [], []))), (93, .inr (.inl (0, 8, [], []))), (94, mgx4446)]
def mgn6327_66 : Nat × aw_S := (46, [(0, .inl 81), (1, .inr (false, [(0, 3)])), (2, .inr (false, [(1, 1)]))], [], mgh19492)
def mgh19493 : aw_H := [(81, mgx4660), (89, mgx494), (90, .inr (.inl (0, 240, [], []))), (92, .inr (.inl (0, 8, [], []))), (93, .inr (.inl (0, 8, [], []))), (94, mgx4446)]
def mgn6327_67 : Nat × aw_S := (86, [(0, .inl 81), (1, .inr (false, [(0, 3)])), (2, .inr (false, [(1, 1)]))], [], mgh19493)
def mgh19494 : aw_H := [(81, mgx4668), (89, mgx494), (90, .inr (.inl (0, 240, [], []))), (92, .inr (.inl (0, 8, [], []))), (93, .inr (.inl (0, 8, [], []))), (94, mgx4449)]
def mgn6327_68 : Nat × aw_S := (86, [(0, .inl 81), (1, .inr (false, [(0, 3)])), (2, .inr (false, [(1, 1)]))], [], mgh19494)
def mgx19495 : aw_A := ms_o [(0, 8)] [(0, 4)] ar_t32 ar_t32 [(0, 180)] [(6, 6)] [(1, 60)] [(0, 1)] [(0, 0)]
def mgh19496 : aw_H := [(81, mgx19495), (89, mgx494), (90, .inr (.inl (0, 240, [], []))), (92, .inr (.inl (0, 8, [], []))), (93, .inr (.inl (0, 8, [], []))), (94, mgx4446)]
def mgn6327_69 : Nat × aw_S := (46, [(0, .inl 81), (1, .inr (false, [(0, 3)])), (2, .inr (false, [(1, 1)]))], [], mgh19496)
def mgh19497 : aw_H := [(81, mgx4879), (89, mgx494), (90, .inr (.inl (0, 240, [], []))), (92, .inr (.inl (0, 8, [], []))), (93, .inr (.inl (0, 8, [], []))), (94, mgx4449)]
def mgn6327_70 : Nat × aw_S := (86, [(0, .inl 81), (1, .inr (false, [(0, 3)])), (2, .inr (false, [(1, 1)]))], [], mgh19497)
def mgh19498 : aw_H := [(81, mgx4873), (89, mgx494), (90, .inr (.inl (0, 240, [], []))), (92, .inr (.inl (0, 8, [], []))), (93, .inr (.inl (0, 8, [], []))), (94, mgx4446)]
def mgn6327_71 : Nat × aw_S := (86, [(0, .inl 81), (1, .inr (false, [(0, 3)])), (2, .inr (false, [(1, 1)]))], [], mgh19498)
def mgx19499 : aw_A := ms_o [(0, 8)] [(0, 4)] ar_t32 ar_t32 [(0, 180)] [(5, 5)] [(1, 60)] [(0, 1)] [(0, 0)]
def mgh19500 : aw_H := [(81, mgx19499), (89, mgx494), (90, .inr (.inl (0, 240, [], []))), (92, .inr (.inl (0, 8, [], []))), (93, .inr (.inl (0, 8, [], []))), (94, mgx4446)]
def mgn6327_72 : Nat × aw_S := (46, [(0, .inl 81), (1, .inr (false, [(0, 3)])), (2, .inr (false, [(1, 1)]))], [], mgh19500)
def mgx19501 : aw_A := ms_o [(0, 8)] [(0, 4)] ar_t32 ar_t32 [(0, 180)] [(5, 5)] [(-1, 60)] [(0, 1)] [(0, 0)]
def mgh19502 : aw_H := [(81, mgx19501), (89, mgx494), (90, .inr (.inl (0, 240, [], []))), (92, .inr (.inl (0, 8, [], []))), (93, .inr (.inl (0, 8, [], []))), (94, mgx4446)]
def mgn6327_73 : Nat × aw_S := (46, [(0, .inl 81), (1, .inr (false, [(0, 3)])), (2, .inr (false, [(0, 0)]))], [], mgh19502)
def mgx19503 : aw_A := ms_o [(0, 8)] [(0, 4)] ar_t32 ar_t32 [(0, 180)] [(8, 8)] [(-1, 60)] [(0, 1)] [(0, 0)]
def mgh19504 : aw_H := [(81, mgx19503), (89, mgx494), (90, .inr (.inl (0, 240, [], []))), (92, .inr (.inl (0, 8, [], []))), (93, .inr (.inl (0, 8, [], []))), (94, mgx4446)]
def mgn6327_74 : Nat × aw_S := (46, [(0, .inl 81), (1, .inr (false, [(0, 3)])), (2, .inr (false, [(0, 0)]))], [], mgh19504)
def mgh19505 : aw_H := [(81, mgx5092), (89, mgx494), (90, .inr (.inl (0, 240, [], []))), (92, .inr (.inl (0, 8, [], []))), (93, .inr (.inl (0, 8, [], []))), (94, mgx4446)]
def mgn6327_75 : Nat × aw_S := (86, [(0, .inl 81), (1, .inr (false, [(0, 3)])), (2, .inr (false, [(1, 1)]))], [], mgh19505)
def mgx19506 : aw_A := ms_o [(0, 8)] [(0, 4)] ar_t32 ar_t32 [(0, 180)] [(9, 9)] [(1, 60)] [(0, 2)] [(0, 0)]
def mgh19507 : aw_H := [(81, mgx19506), (89, mgx494), (90, .inr (.inl (0, 240, [], []))), (92, .inr (.inl (0, 8, [], []))), (93, .inr (.inl (0, 8, [], []))), (94, mgx4446)]
def mgn6327_76 : Nat × aw_S := (46, [(0, .inl 81), (1, .inr (false, [(0, 3)])), (2, .inr (false, [(1, 1)]))], [], mgh19507)
def mgx19508 : aw_A := ms_o [(0, 8)] [(0, 4)] ar_t32 ar_t32 [(0, 180)] [(9, 9)] [(-1, 60)] [(0, 2)] [(0, 0)]
def mgh19509 : aw_H := [(81, mgx19508), (89, mgx494), (90, .inr (.inl (0, 240, [], []))), (92, .inr (.inl (0, 8, [], []))), (93, .inr (.inl (0, 8, [], []))), (94, mgx4446)]
def mgn6327_77 : Nat × aw_S := (46, [(0, .inl 81), (1, .inr (false, [(0, 3)])), (2, .inr (false, [(0, 0)]))], [], mgh19509)
def mgh19510 : aw_H := [(81, mgx5225), (89, mgx494), (90, .inr (.inl (0, 240, [], []))), (92, .inr (.inl (0, 8, [], []))), (93, .inr (.inl (0, 8, [], []))), (94, mgx4449)]
def mgn6327_78 : Nat × aw_S := (86, [(0, .inl 81), (1, .inr (false, [(0, 3)])), (2, .inr (false, [(1, 1)]))], [], mgh19510)
def mgh19511 : aw_H := [(81, mgx5218), (89, mgx494), (90, .inr (.inl (0, 240, [], []))), (92, .inr (.inl (0, 8, [], []))), (93, .inr (.inl (0, 8, [], []))), (94, mgx4446)]
def mgn6327_79 : Nat × aw_S := (86, [(0, .inl 81), (1, .inr (false, [(0, 3)])), (2, .inr (false, [(1, 1)]))], [], mgh19511)
def mgx19512 : aw_A := ms_o [(0, 8)] [(0, 4)] ar_t32 ar_t32 [(0, 180)] [(13, 13)] [(1, 60)] [(0, 3)] [(0, 0)]
def mgh19513 : aw_H := [(81, mgx19512), (89, mgx494), (90, .inr (.inl (0, 240, [], []))), (92, .inr (.inl (0, 8, [], []))), (93, .inr (.inl (0, 8, [], []))), (94, mgx4446)]
def mgn6327_80 : Nat × aw_S := (46, [(0, .inl 81), (1, .inr (false, [(0, 3)])), (2, .inr (false, [(1, 1)]))], [], mgh19513)
def mgh19514 : aw_H := [(81, mgx5436), (89, mgx494), (90, .inr (.inl (0, 240, [], []))), (92, .inr (.inl (0, 8, [], []))), (93, .inr (.inl (0, 8, [], []))), (94, mgx4446)]
def mgn6327_81 : Nat × aw_S := (86, [(0, .inl 81), (1, .inr (false, [(0, 3)])), (2, .inr (false, [(1, 1)]))], [], mgh19514)
def mgh19515 : aw_H := [(81, mgx5451), (89, mgx494), (90, .inr (.inl (0, 240, [], []))), (92, .inr (.inl (0, 8, [], []))), (93, .inr (.inl (0, 8, [], []))), (94, mgx4449)]
def mgn6327_82 : Nat × aw_S := (86, [(0, .inl 81), (1, .inr (false, [(0, 3)])), (2, .inr (false, [(1, 1)]))], [], mgh19515)
def mgx19516 : aw_A := ms_o [(0, 8)] [(0, 4)] ar_t32 ar_t32 [(0, 180)] [(10, 10)] [(1, 60)] [(0, 2)] [(0, 0)]
def mgh19517 : aw_H := [(81, mgx19516), (89, mgx494), (90, .inr (.inl (0, 240, [], []))), (92, .inr (.inl (0, 8, [], []))), (93, .inr (.inl (0, 8, [], []))), (94, mgx4446)]
def mgn6327_83 : Nat × aw_S := (46, [(0, .inl 81), (1, .inr (false, [(0, 3)])), (2, .inr (false, [(1, 1)]))], [], mgh19517)
def mgh19518 : aw_H := [(81, mgx5442), (89, mgx494), (90, .inr (.inl (0, 240, [], []))), (92, .inr (.inl (0, 8, [], []))), (93, .inr (.inl (0, 8, [], []))), (94, mgx4446)]
def mgn6327_84 : Nat × aw_S := (86, [(0, .inl 81), (1, .inr (false, [(0, 3)])), (2, .inr (false, [(1, 1)]))], [], mgh19518)
def mgx19519 : aw_A := ms_o [(0, 8)] [(0, 4)] ar_t32 ar_t32 [(0, 180)] [(10, 10)] [(-1, 60)] [(0, 2)] [(0, 0)]
def mgh19520 : aw_H := [(81, mgx19519), (89, mgx494), (90, .inr (.inl (0, 240, [], []))), (92, .inr (.inl (0, 8, [], []))), (93, .inr (.inl (0, 8, [], []))), (94, mgx4446)]
def mgn6327_85 : Nat × aw_S := (46, [(0, .inl 81), (1, .inr (false, [(0, 3)])), (2, .inr (false, [(0, 0)]))], [], mgh19520)
def mgh19521 : aw_H := [(81, mgx5644), (89, mgx494), (90, .inr (.inl (0, 240, [], []))), (92, .inr (.inl (0, 8, [], []))), (93, .inr (.inl (0, 8, [], []))), (94, mgx4449)]
def mgn6327_86 : Nat × aw_S := (86, [(0, .inl 81), (1, .inr (false, [(0, 3)])), (2, .inr (false, [(1, 1)]))], [], mgh19521)
def mgx19522 : aw_A := ms_o [(0, 8)] [(0, 4)] ar_t32 ar_t32 [(0, 180)] [(11, 11)] [(1, 60)] [(0, 2)] [(0, 0)]
def mgh19523 : aw_H := [(81, mgx19522), (89, mgx494), (90, .inr (.inl (0, 240, [], []))), (92, .inr (.inl (0, 8, [], []))), (93, .inr (.inl (0, 8, [], []))), (94, mgx4446)]
def mgn6327_87 : Nat × aw_S := (46, [(0, .inl 81), (1, .inr (false, [(0, 3)])), (2, .inr (false, [(1, 1)]))], [], mgh19523)
def mgx19524 : aw_A := ms_o [(0, 8)] [(0, 4)] ar_t32 ar_t32 [(0, 180)] [(11, 11)] [(-1, 60)] [(0, 2)] [(0, 0)]
def mgh19525 : aw_H := [(81, mgx19524), (89, mgx494), (90, .inr (.inl (0, 240, [], []))), (92, .inr (.inl (0, 8, [], []))), (93, .inr (.inl (0, 8, [], []))), (94, mgx4446)]
def mgn6327_88 : Nat × aw_S := (46, [(0, .inl 81), (1, .inr (false, [(0, 3)])), (2, .inr (false, [(0, 0)]))], [], mgh19525)
def mgh19526 : aw_H := [(81, mgx5847), (89, mgx494), (90, .inr (.inl (0, 240, [], []))), (92, .inr (.inl (0, 8, [], []))), (93, .inr (.inl (0, 8, [], []))), (94, mgx4449)]
def mgn6327_89 : Nat × aw_S := (86, [(0, .inl 81), (1, .inr (false, [(0, 3)])), (2, .inr (false, [(1, 1)]))], [], mgh19526)
def mgh19527 : aw_H := [(81, mgx5444), (89, mgx494), (90, .inr (.inl (0, 240, [], []))), (92, .inr (.inl (0, 8, [], []))), (93, .inr (.inl (0, 8, [], []))), (94, mgx4446)]
def mgn6327_90 : Nat × aw_S := (86, [(0, .inl 81), (1, .inr (false, [(0, 3)])), (2, .inr (false, [(1, 1)]))], [], mgh19527)
def mgx19528 : aw_A := ms_o [(0, 8)] [(0, 4)] ar_t32 ar_t32 [(0, 180)] [(7, 7)] [(-1, 60)] [(0, 1)] [(0, 0)]
def mgh19529 : aw_H := [(81, mgx19528), (89, mgx494), (90, .inr (.inl (0, 240, [], []))), (92, .inr (.inl (0, 8, [], []))), (93, .inr (.inl (0, 8, [], []))), (94, mgx4446)]
def mgn6327_91 : Nat × aw_S := (46, [(0, .inl 81), (1, .inr (false, [(0, 3)])), (2, .inr (false, [(0, 0)]))], [], mgh19529)
def mgx19530 : aw_A := ms_o [(0, 8)] [(0, 4)] ar_t32 ar_t32 [(0, 180)] [(6, 6)] [(-1, 60)] [(0, 1)] [(0, 0)]
def mgh19531 : aw_H := [(81, mgx19530), (89, mgx494), (90, .inr (.inl (0, 240, [], []))), (92, .inr (.inl (0, 8, [], []))), (93, .inr (.inl (0, 8, [], []))), (94, mgx4446)]
def mgn6327_92 : Nat × aw_S := (46, [(0, .inl 81), (1, .inr (false, [(0, 3)])), (2, .inr (false, [(0, 0)]))], [], mgh19531)
def mgh19532 : aw_H := [(81, mgx5098), (89, mgx494), (90, .inr (.inl (0, 240, [], []))), (92, .inr (.inl (0, 8, [], []))), (93, .inr (.inl (0, 8, [], []))), (94, mgx4449)]
def mgn6327_93 : Nat × aw_S := (86, [(0, .inl 81), (1, .inr (false, [(0, 3)])), (2, .inr (false, [(1, 1)]))], [], mgh19532)
def mgx19533 : aw_A := ms_o [(0, 8)] [(0, 4)] ar_t32 ar_t32 [(0, 180)] [(13, 13)] [(8, 60)] [(1, 2)] [(1, 1)]
def mgh19534 : aw_H := [(81, mgx19533), (89, mgx494), (90, .inr (.inl (0, 240, [], []))), (92, .inr (.inl (0, 8, [], []))), (93, .inr (.inl (0, 8, [], []))), (94, mgx4449)]
def mgn6327_94 : Nat × aw_S := (46, [(0, .inl 81), (1, .inr (false, [(0, 3)])), (2, .inr (false, [(1, 1)]))], [], mgh19534)
def mgh19535 : aw_H := [(81, mgx6149), (89, mgx494), (90, .inr (.inl (0, 240, [], []))), (92, .inr (.inl (0, 8, [], []))), (93, .inr (.inl (0, 8, [], []))), (94, mgx6150)]
def mgn6327_95 : Nat × aw_S := (86, [(0, .inl 81), (1, .inr (false, [(0, 3)])), (2, .inr (false, [(1, 1)]))], [], mgh19535)
def mgn6327_96 : Nat × aw_S := (46, [(0, .inl 81), (1, .inr (false, [(0, 3)])), (2, .inr (false, [(1, 1)]))], [], mgh19532)
def mgh19536 : aw_H := [(81, mgx6247), (89, mgx494), (90, .inr (.inl (0, 240, [], []))), (92, .inr (.inl (0, 8, [], []))), (93, .inr (.inl (0, 8, [], []))), (94, mgx6150)]
def mgn6327_97 : Nat × aw_S := (86, [(0, .inl 81), (1, .inr (false, [(0, 3)])), (2, .inr (false, [(1, 1)]))], [], mgh19536)
def mgn6327_98 : Nat × aw_S := (46, [(0, .inl 81), (1, .inr (false, [(0, 3)])), (2, .inr (false, [(1, 1)]))], [], mgh19536)
def mgh19537 : aw_H := [(81, mgx6350), (89, mgx494), (90, .inr (.inl (0, 240, [], []))), (92, .inr (.inl (0, 8, [], []))), (93, .inr (.inl (0, 8, [], []))), (94, mgx6150)]
def mgn6327_99 : Nat × aw_S := (46, [(0, .inl 81), (1, .inr (false, [(0, 3)])), (2, .inr (false, [(0, 0)]))], [], mgh19537)
def mgh19538 : aw_H := [(81, mgx6361), (89, mgx494), (90, .inr (.inl (0, 240, [], []))), (92, .inr (.inl (0, 8, [], []))), (93, .inr (.inl (0, 8, [], []))), (94, mgx6362)]
def mgn6327_100 : Nat × aw_S := (86, [(0, .inl 81), (1, .inr (false, [(0, 3)])), (2, .inr (false, [(1, 1)]))], [], mgh19538)
def mgn6327_101 : Nat × aw_S := (46, [(0, .inl 81), (1, .inr (false, [(0, 3)])), (2, .inr (false, [(1, 1)]))], [], mgh19538)
def mgh19539 : aw_H := [(81, mgx6461), (89, mgx494), (90, .inr (.inl (0, 240, [], []))), (92, .inr (.inl (0, 8, [], []))), (93, .inr (.inl (0, 8, [], []))), (94, mgx6362)]
def mgn6327_102 : Nat × aw_S := (46, [(0, .inl 81), (1, .inr (false, [(0, 3)])), (2, .inr (false, [(0, 0)]))], [], mgh19539)
def mgh19540 : aw_H := [(81, mgx6472), (89, mgx494), (90, .inr (.inl (0, 240, [], []))), (92, .inr (.inl (0, 8, [], []))), (93, .inr (.inl (0, 8, [], []))), (94, mgx6473)]
def mgn6327_103 : Nat × aw_S := (86, [(0, .inl 81), (1, .inr (false, [(0, 3)])), (2, .inr (false, [(1, 1)]))], [], mgh19540)
def mgn6327_104 : Nat × aw_S := (46, [(0, .inl 81), (1, .inr (false, [(0, 3)])), (2, .inr (false, [(1, 1)]))], [], mgh19540)
def mgh19541 : aw_H := [(81, mgx6566), (89, mgx494), (90, .inr (.inl (0, 240, [], []))), (92, .inr (.inl (0, 8, [], []))), (93, .inr (.inl (0, 8, [], []))), (94, mgx6473)]
def mgn6327_105 : Nat × aw_S := (46, [(0, .inl 81), (1, .inr (false, [(0, 3)])), (2, .inr (false, [(0, 0)]))], [], mgh19541)
def mgh19542 : aw_H := [(81, mgx6244), (89, mgx494), (90, .inr (.inl (0, 240, [], []))), (92, .inr (.inl (0, 8, [], []))), (93, .inr (.inl (0, 8, [], []))), (94, mgx4449)]
def mgn6327_106 : Nat × aw_S := (46, [(0, .inl 81), (1, .inr (false, [(0, 3)])), (2, .inr (false, [(0, 0)]))], [], mgh19542)
def mgh19543 : aw_H := [(81, mgx6040), (89, mgx494), (90, .inr (.inl (0, 240, [], []))), (92, .inr (.inl (0, 8, [], []))), (93, .inr (.inl (0, 8, [], []))), (94, mgx4449)]
def mgn6327_107 : Nat × aw_S := (46, [(0, .inl 81), (1, .inr (false, [(0, 3)])), (2, .inr (false, [(1, 1)]))], [], mgh19543)
def mgh19544 : aw_H := [(81, mgx6357), (89, mgx494), (90, .inr (.inl (0, 240, [], []))), (92, .inr (.inl (0, 8, [], []))), (93, .inr (.inl (0, 8, [], []))), (94, mgx6150)]
def mgn6327_108 : Nat × aw_S := (86, [(0, .inl 81), (1, .inr (false, [(0, 3)])), (2, .inr (false, [(1, 1)]))], [], mgh19544)
def mgx19545 : aw_A := ms_o [(0, 8)] [(0, 4)] ar_t32 ar_t32 [(0, 180)] [(14, 14)] [(8, 60)] [(1, 2)] [(1, 1)]
def mgh19546 : aw_H := [(81, mgx19545), (89, mgx494), (90, .inr (.inl (0, 240, [], []))), (92, .inr (.inl (0, 8, [], []))), (93, .inr (.inl (0, 8, [], []))), (94, mgx4449)]
def mgn6327_109 : Nat × aw_S := (46, [(0, .inl 81), (1, .inr (false, [(0, 3)])), (2, .inr (false, [(1, 1)]))], [], mgh19546)
def mgh19547 : aw_H := [(81, mgx6683), (89, mgx494), (90, .inr (.inl (0, 240, [], []))), (92, .inr (.inl (0, 8, [], []))), (93, .inr (.inl (0, 8, [], []))), (94, mgx6150)]
def mgn6327_110 : Nat × aw_S := (86, [(0, .inl 81), (1, .inr (false, [(0, 3)])), (2, .inr (false, [(1, 1)]))], [], mgh19547)
def mgh19548 : aw_H := [(81, mgx6036), (89, mgx494), (90, .inr (.inl (0, 240, [], []))), (92, .inr (.inl (0, 8, [], []))), (93, .inr (.inl (0, 8, [], []))), (94, mgx4449)]
def mgn6327_111 : Nat × aw_S := (46, [(0, .inl 81), (1, .inr (false, [(0, 3)])), (2, .inr (false, [(1, 1)]))], [], mgh19548)
def mgh19549 : aw_H := [(81, mgx6352), (89, mgx494), (90, .inr (.inl (0, 240, [], []))), (92, .inr (.inl (0, 8, [], []))), (93, .inr (.inl (0, 8, [], []))), (94, mgx6150)]
def mgn6327_112 : Nat × aw_S := (86, [(0, .inl 81), (1, .inr (false, [(0, 3)])), (2, .inr (false, [(1, 1)]))], [], mgh19549)
def mgh19550 : aw_H := [(81, mgx6251), (89, mgx494), (90, .inr (.inl (0, 240, [], []))), (92, .inr (.inl (0, 8, [], []))), (93, .inr (.inl (0, 8, [], []))), (94, mgx6150)]
def mgn6327_113 : Nat × aw_S := (46, [(0, .inl 81), (1, .inr (false, [(0, 3)])), (2, .inr (false, [(1, 1)]))], [], mgh19550)
def mgn6327_114 : Nat × aw_S := (46, [(0, .inl 81), (1, .inr (false, [(0, 3)])), (2, .inr (false, [(0, 0)]))], [], mgh19549)
def mgh19551 : aw_H := [(81, mgx6463), (89, mgx494), (90, .inr (.inl (0, 240, [], []))), (92, .inr (.inl (0, 8, [], []))), (93, .inr (.inl (0, 8, [], []))), (94, mgx6362)]
def mgn6327_115 : Nat × aw_S := (86, [(0, .inl 81), (1, .inr (false, [(0, 3)])), (2, .inr (false, [(1, 1)]))], [], mgh19551)
def mgh19552 : aw_H := [(81, mgx6368), (89, mgx494), (90, .inr (.inl (0, 240, [], []))), (92, .inr (.inl (0, 8, [], []))), (93, .inr (.inl (0, 8, [], []))), (94, mgx6362)]
def mgn6327_116 : Nat × aw_S := (46, [(0, .inl 81), (1, .inr (false, [(0, 3)])), (2, .inr (false, [(1, 1)]))], [], mgh19552)
def mgn6327_117 : Nat × aw_S := (46, [(0, .inl 81), (1, .inr (false, [(0, 3)])), (2, .inr (false, [(0, 0)]))], [], mgh19551)
def mgh19553 : aw_H := [(81, mgx6977), (89, mgx494), (90, .inr (.inl (0, 240, [], []))), (92, .inr (.inl (0, 8, [], []))), (93, .inr (.inl (0, 8, [], []))), (94, mgx6473)]
def mgn6327_118 : Nat × aw_S := (86, [(0, .inl 81), (1, .inr (false, [(0, 3)])), (2, .inr (false, [(1, 1)]))], [], mgh19553)
def mgh19554 : aw_H := [(81, mgx6479), (89, mgx494), (90, .inr (.inl (0, 240, [], []))), (92, .inr (.inl (0, 8, [], []))), (93, .inr (.inl (0, 8, [], []))), (94, mgx6473)]
def mgn6327_119 : Nat × aw_S := (46, [(0, .inl 81), (1, .inr (false, [(0, 3)])), (2, .inr (false, [(1, 1)]))], [], mgh19554)
def mgh19555 : aw_H := [(81, mgx7067), (89, mgx494), (90, .inr (.inl (0, 240, [], []))), (92, .inr (.inl (0, 8, [], []))), (93, .inr (.inl (0, 8, [], []))), (94, mgx6473)]
def mgn6327_120 : Nat × aw_S := (46, [(0, .inl 81), (1, .inr (false, [(0, 3)])), (2, .inr (false, [(0, 0)]))], [], mgh19555)
def mgn6327_121 : Nat × aw_S := (46, [(0, .inl 81), (1, .inr (false, [(0, 3)])), (2, .inr (false, [(0, 0)]))], [], mgh19497)
def mgh19556 : aw_H := [(81, mgx6038), (89, mgx494), (90, .inr (.inl (0, 240, [], []))), (92, .inr (.inl (0, 8, [], []))), (93, .inr (.inl (0, 8, [], []))), (94, mgx4449)]
def mgn6327_122 : Nat × aw_S := (46, [(0, .inl 81), (1, .inr (false, [(0, 3)])), (2, .inr (false, [(1, 1)]))], [], mgh19556)
def mgh19557 : aw_H := [(81, mgx6354), (89, mgx494), (90, .inr (.inl (0, 240, [], []))), (92, .inr (.inl (0, 8, [], []))), (93, .inr (.inl (0, 8, [], []))), (94, mgx6150)]
def mgn6327_123 : Nat × aw_S := (86, [(0, .inl 81), (1, .inr (false, [(0, 3)])), (2, .inr (false, [(1, 1)]))], [], mgh19557)
def mgh19558 : aw_H := [(81, mgx6253), (89, mgx494), (90, .inr (.inl (0, 240, [], []))), (92, .inr (.inl (0, 8, [], []))), (93, .inr (.inl (0, 8, [], []))), (94, mgx6150)]
def mgn6327_124 : Nat × aw_S := (46, [(0, .inl 81), (1, .inr (false, [(0, 3)])), (2, .inr (false, [(1, 1)]))], [], mgh19558)
def mgn6327_125 : Nat × aw_S := (46, [(0, .inl 81), (1, .inr (false, [(0, 3)])), (2, .inr (false, [(0, 0)]))], [], mgh19557)
def mgh19559 : aw_H := [(81, mgx6465), (89, mgx494), (90, .inr (.inl (0, 240, [], []))), (92, .inr (.inl (0, 8, [], []))), (93, .inr (.inl (0, 8, [], []))), (94, mgx6362)]
def mgn6327_126 : Nat × aw_S := (86, [(0, .inl 81), (1, .inr (false, [(0, 3)])), (2, .inr (false, [(1, 1)]))], [], mgh19559)
def mgh19560 : aw_H := [(81, mgx6370), (89, mgx494), (90, .inr (.inl (0, 240, [], []))), (92, .inr (.inl (0, 8, [], []))), (93, .inr (.inl (0, 8, [], []))), (94, mgx6362)]
def mgn6327_127 : Nat × aw_S := (46, [(0, .inl 81), (1, .inr (false, [(0, 3)])), (2, .inr (false, [(1, 1)]))], [], mgh19560)
def mgh19561 : aw_H := [(81, mgx7270), (89, mgx494), (90, .inr (.inl (0, 240, [], []))), (92, .inr (.inl (0, 8, [], []))), (93, .inr (.inl (0, 8, [], []))), (94, mgx6473)]
def mgn6327_128 : Nat × aw_S := (86, [(0, .inl 81), (1, .inr (false, [(0, 3)])), (2, .inr (false, [(1, 1)]))], [], mgh19561)
def mgh19562 : aw_H := [(81, mgx6481), (89, mgx494), (90, .inr (.inl (0, 240, [], []))), (92, .inr (.inl (0, 8, [], []))), (93, .inr (.inl (0, 8, [], []))), (94, mgx6473)]
def mgn6327_129 : Nat × aw_S := (46, [(0, .inl 81), (1, .inr (false, [(0, 3)])), (2, .inr (false, [(1, 1)]))], [], mgh19562)
def mgh19563 : aw_H := [(81, mgx7358), (89, mgx494), (90, .inr (.inl (0, 240, [], []))), (92, .inr (.inl (0, 8, [], []))), (93, .inr (.inl (0, 8, [], []))), (94, mgx6473)]
def mgn6327_130 : Nat × aw_S := (46, [(0, .inl 81), (1, .inr (false, [(0, 3)])), (2, .inr (false, [(0, 0)]))], [], mgh19563)
def mgn6327_131 : Nat × aw_S := (46, [(0, .inl 81), (1, .inr (false, [(0, 3)])), (2, .inr (false, [(0, 0)]))], [], mgh19559)
def mgh19564 : aw_H := [(81, mgx6255), (89, mgx494), (90, .inr (.inl (0, 240, [], []))), (92, .inr (.inl (0, 8, [], []))), (93, .inr (.inl (0, 8, [], []))), (94, mgx6150)]
def mgn6327_132 : Nat × aw_S := (46, [(0, .inl 81), (1, .inr (false, [(0, 3)])), (2, .inr (false, [(1, 1)]))], [], mgh19564)
def mgn6327_133 : Nat × aw_S := (46, [(0, .inl 81), (1, .inr (false, [(0, 3)])), (2, .inr (false, [(0, 0)]))], [], mgh19544)
def mgh19565 : aw_H := [(81, mgx6468), (89, mgx494), (90, .inr (.inl (0, 240, [], []))), (92, .inr (.inl (0, 8, [], []))), (93, .inr (.inl (0, 8, [], []))), (94, mgx6362)]
def mgn6327_134 : Nat × aw_S := (86, [(0, .inl 81), (1, .inr (false, [(0, 3)])), (2, .inr (false, [(1, 1)]))], [], mgh19565)
def mgh19566 : aw_H := [(81, mgx6372), (89, mgx494), (90, .inr (.inl (0, 240, [], []))), (92, .inr (.inl (0, 8, [], []))), (93, .inr (.inl (0, 8, [], []))), (94, mgx6362)]
def mgn6327_135 : Nat × aw_S := (46, [(0, .inl 81), (1, .inr (false, [(0, 3)])), (2, .inr (false, [(1, 1)]))], [], mgh19566)
def mgh19567 : aw_H := [(81, mgx7461), (89, mgx494), (90, .inr (.inl (0, 240, [], []))), (92, .inr (.inl (0, 8, [], []))), (93, .inr (.inl (0, 8, [], []))), (94, mgx6473)]
def mgn6327_136 : Nat × aw_S := (86, [(0, .inl 81), (1, .inr (false, [(0, 3)])), (2, .inr (false, [(1, 1)]))], [], mgh19567)
def mgh19568 : aw_H := [(81, mgx6483), (89, mgx494), (90, .inr (.inl (0, 240, [], []))), (92, .inr (.inl (0, 8, [], []))), (93, .inr (.inl (0, 8, [], []))), (94, mgx6473)]
def mgn6327_137 : Nat × aw_S := (46, [(0, .inl 81), (1, .inr (false, [(0, 3)])), (2, .inr (false, [(1, 1)]))], [], mgh19568)
def mgh19569 : aw_H := [(81, mgx7547), (89, mgx494), (90, .inr (.inl (0, 240, [], []))), (92, .inr (.inl (0, 8, [], []))), (93, .inr (.inl (0, 8, [], []))), (94, mgx6473)]
def mgn6327_138 : Nat × aw_S := (46, [(0, .inl 81), (1, .inr (false, [(0, 3)])), (2, .inr (false, [(0, 0)]))], [], mgh19569)
def mgn6327_139 : Nat × aw_S := (46, [(0, .inl 81), (1, .inr (false, [(0, 3)])), (2, .inr (false, [(0, 0)]))], [], mgh19565)
def mgn6327_140 : Nat × aw_S := (46, [(0, .inl 81), (1, .inr (false, [(0, 3)])), (2, .inr (false, [(0, 0)]))], [], mgh19494)
def mgn6327_141 : Nat × aw_S := (46, [(0, .inl 81), (1, .inr (false, [(0, 3)])), (2, .inr (false, [(0, 0)]))], [], mgh19490)
def mgx19570 : aw_A := ms_o [(0, 8)] [(0, 4)] ar_t32 ar_t32 [(0, 180)] [(12, 12)] [(8, 60)] [(1, 2)] [(1, 1)]
def mgh19571 : aw_H := [(81, mgx19570), (89, mgx494), (90, .inr (.inl (0, 240, [], []))), (92, .inr (.inl (0, 8, [], []))), (93, .inr (.inl (0, 8, [], []))), (94, mgx4449)]
def mgn6327_142 : Nat × aw_S := (46, [(0, .inl 81), (1, .inr (false, [(0, 3)])), (2, .inr (false, [(1, 1)]))], [], mgh19571)
def mgn6327_143 : Nat × aw_S := (46, [(0, .inl 81), (1, .inr (false, [(0, 3)])), (2, .inr (false, [(0, 0)]))], [], mgh19521)
def mgn6327_144 : Nat × aw_S := (46, [(0, .inl 81), (1, .inr (false, [(0, 3)])), (2, .inr (false, [(0, 0)]))], [], mgh19526)
def mgh19572 : aw_H := [(81, mgx7553), (89, mgx494), (90, .inr (.inl (0, 240, [], []))), (92, .inr (.inl (0, 8, [], []))), (93, .inr (.inl (0, 8, [], []))), (94, mgx6150)]
def mgn6327_145 : Nat × aw_S := (86, [(0, .inl 81), (1, .inr (false, [(0, 3)])), (2, .inr (false, [(1, 1)]))], [], mgh19572)
def mgx19573 : aw_A := ms_o [(0, 8)] [(0, 4)] ar_t32 ar_t32 [(0, 180)] [(17, 17)] [(11, 60)] [(1, 2)] [(2, 2)]
def mgh19574 : aw_H := [(81, mgx19573), (89, mgx494), (90, .inr (.inl (0, 240, [], []))), (92, .inr (.inl (0, 8, [], []))), (93, .inr (.inl (0, 8, [], []))), (94, mgx6150)]
def mgn6327_146 : Nat × aw_S := (46, [(0, .inl 81), (1, .inr (false, [(0, 3)])), (2, .inr (false, [(1, 1)]))], [], mgh19574)
def mgh19575 : aw_H := [(81, mgx7659), (89, mgx494), (90, .inr (.inl (0, 240, [], []))), (92, .inr (.inl (0, 8, [], []))), (93, .inr (.inl (0, 8, [], []))), (94, mgx6362)]
def mgn6327_147 : Nat × aw_S := (86, [(0, .inl 81), (1, .inr (false, [(0, 3)])), (2, .inr (false, [(1, 1)]))], [], mgh19575)
def mgx19576 : aw_A := ms_o [(0, 8)] [(0, 4)] ar_t32 ar_t32 [(0, 180)] [(15, 15)] [(11, 60)] [(1, 2)] [(2, 2)]
def mgh19577 : aw_H := [(81, mgx19576), (89, mgx494), (90, .inr (.inl (0, 240, [], []))), (92, .inr (.inl (0, 8, [], []))), (93, .inr (.inl (0, 8, [], []))), (94, mgx6150)]
def mgn6327_148 : Nat × aw_S := (46, [(0, .inl 81), (1, .inr (false, [(0, 3)])), (2, .inr (false, [(1, 1)]))], [], mgh19577)
def mgh19578 : aw_H := [(81, mgx7749), (89, mgx494), (90, .inr (.inl (0, 240, [], []))), (92, .inr (.inl (0, 8, [], []))), (93, .inr (.inl (0, 8, [], []))), (94, mgx6362)]
def mgn6327_149 : Nat × aw_S := (86, [(0, .inl 81), (1, .inr (false, [(0, 3)])), (2, .inr (false, [(1, 1)]))], [], mgh19578)
def mgx19579 : aw_A := ms_o [(0, 8)] [(0, 4)] ar_t32 ar_t32 [(0, 180)] [(18, 18)] [(14, 60)] [(1, 2)] [(3, 3)]
def mgh19580 : aw_H := [(81, mgx19579), (89, mgx494), (90, .inr (.inl (0, 240, [], []))), (92, .inr (.inl (0, 8, [], []))), (93, .inr (.inl (0, 8, [], []))), (94, mgx6362)]
def mgn6327_150 : Nat × aw_S := (46, [(0, .inl 81), (1, .inr (false, [(0, 3)])), (2, .inr (false, [(1, 1)]))], [], mgh19580)
def mgh19581 : aw_H := [(81, mgx7846), (89, mgx494), (90, .inr (.inl (0, 240, [], []))), (92, .inr (.inl (0, 8, [], []))), (93, .inr (.inl (0, 8, [], []))), (94, mgx6473)]
def mgn6327_151 : Nat × aw_S := (86, [(0, .inl 81), (1, .inr (false, [(0, 3)])), (2, .inr (false, [(1, 1)]))], [], mgh19581)
def mgx19582 : aw_A := ms_o [(0, 8)] [(0, 4)] ar_t32 ar_t32 [(0, 180)] [(21, 21)] [(17, 60)] [(1, 2)] [(4, 4)]
def mgh19583 : aw_H := [(81, mgx19582), (89, mgx494), (90, .inr (.inl (0, 240, [], []))), (92, .inr (.inl (0, 8, [], []))), (93, .inr (.inl (0, 8, [], []))), (94, mgx6473)]
def mgn6327_152 : Nat × aw_S := (46, [(0, .inl 81), (1, .inr (false, [(0, 3)])), (2, .inr (false, [(1, 1)]))], [], mgh19583)
def mgh19584 : aw_H := [(81, mgx7930), (89, mgx494), (90, .inr (.inl (0, 240, [], []))), (92, .inr (.inl (0, 8, [], []))), (93, .inr (.inl (0, 8, [], []))), (94, mgx6473)]
def mgn6327_153 : Nat × aw_S := (46, [(0, .inl 81), (1, .inr (false, [(0, 3)])), (2, .inr (false, [(0, 0)]))], [], mgh19584)
def mgn6327_154 : Nat × aw_S := (46, [(0, .inl 81), (1, .inr (false, [(0, 3)])), (2, .inr (false, [(0, 0)]))], [], mgh19578)
def mgn6327_155 : Nat × aw_S := (46, [(0, .inl 81), (1, .inr (false, [(0, 3)])), (2, .inr (false, [(0, 0)]))], [], mgh19572)
def mgx19585 : aw_A := ms_o [(0, 8)] [(0, 4)] ar_t32 ar_t32 [(0, 180)] [(16, 16)] [(11, 60)] [(1, 2)] [(2, 2)]
def mgh19586 : aw_H := [(81, mgx19585), (89, mgx494), (90, .inr (.inl (0, 240, [], []))), (92, .inr (.inl (0, 8, [], []))), (93, .inr (.inl (0, 8, [], []))), (94, mgx6150)]
def mgn6327_156 : Nat × aw_S := (46, [(0, .inl 81), (1, .inr (false, [(0, 3)])), (2, .inr (false, [(1, 1)]))], [], mgh19586)
def mgn6327_157 : Nat × aw_S := (46, [(0, .inl 81), (1, .inr (false, [(0, 3)])), (2, .inr (false, [(0, 0)]))], [], mgh19547)
def mgh19587 : aw_H := [(81, mgx7840), (89, mgx494), (90, .inr (.inl (0, 240, [], []))), (92, .inr (.inl (0, 8, [], []))), (93, .inr (.inl (0, 8, [], []))), (94, mgx6362)]
def mgn6327_158 : Nat × aw_S := (86, [(0, .inl 81), (1, .inr (false, [(0, 3)])), (2, .inr (false, [(1, 1)]))], [], mgh19587)
def mgx19588 : aw_A := ms_o [(0, 8)] [(0, 4)] ar_t32 ar_t32 [(0, 180)] [(20, 20)] [(14, 60)] [(1, 2)] [(3, 3)]
def mgh19589 : aw_H := [(81, mgx19588), (89, mgx494), (90, .inr (.inl (0, 240, [], []))), (92, .inr (.inl (0, 8, [], []))), (93, .inr (.inl (0, 8, [], []))), (94, mgx6362)]
def mgn6327_159 : Nat × aw_S := (46, [(0, .inl 81), (1, .inr (false, [(0, 3)])), (2, .inr (false, [(1, 1)]))], [], mgh19589)
def mgh19590 : aw_H := [(81, mgx8028), (89, mgx494), (90, .inr (.inl (0, 240, [], []))), (92, .inr (.inl (0, 8, [], []))), (93, .inr (.inl (0, 8, [], []))), (94, mgx6473)]
def mgn6327_160 : Nat × aw_S := (86, [(0, .inl 81), (1, .inr (false, [(0, 3)])), (2, .inr (false, [(1, 1)]))], [], mgh19590)
def mgx19591 : aw_A := ms_o [(0, 8)] [(0, 4)] ar_t32 ar_t32 [(0, 180)] [(19, 19)] [(14, 60)] [(1, 2)] [(3, 3)]
def mgh19592 : aw_H := [(81, mgx19591), (89, mgx494), (90, .inr (.inl (0, 240, [], []))), (92, .inr (.inl (0, 8, [], []))), (93, .inr (.inl (0, 8, [], []))), (94, mgx6362)]
def mgn6327_161 : Nat × aw_S := (46, [(0, .inl 81), (1, .inr (false, [(0, 3)])), (2, .inr (false, [(1, 1)]))], [], mgh19592)
def mgn6327_162 : Nat × aw_S := (46, [(0, .inl 81), (1, .inr (false, [(0, 3)])), (2, .inr (false, [(0, 0)]))], [], mgh19575)
def mgh19593 : aw_H := [(81, mgx8112), (89, mgx494), (90, .inr (.inl (0, 240, [], []))), (92, .inr (.inl (0, 8, [], []))), (93, .inr (.inl (0, 8, [], []))), (94, mgx6473)]
def mgn6327_163 : Nat × aw_S := (86, [(0, .inl 81), (1, .inr (false, [(0, 3)])), (2, .inr (false, [(1, 1)]))], [], mgh19593)
def mgx19594 : aw_A := ms_o [(0, 8)] [(0, 4)] ar_t32 ar_t32 [(0, 180)] [(22, 22)] [(17, 60)] [(1, 2)] [(4, 4)]
def mgh19595 : aw_H := [(81, mgx19594), (89, mgx494), (90, .inr (.inl (0, 240, [], []))), (92, .inr (.inl (0, 8, [], []))), (93, .inr (.inl (0, 8, [], []))), (94, mgx6473)]
def mgn6327_164 : Nat × aw_S := (46, [(0, .inl 81), (1, .inr (false, [(0, 3)])), (2, .inr (false, [(1, 1)]))], [], mgh19595)
def mgh19596 : aw_H := [(81, mgx8193), (89, mgx494), (90, .inr (.inl (0, 240, [], []))), (92, .inr (.inl (0, 8, [], []))), (93, .inr (.inl (0, 8, [], []))), (94, mgx6473)]
def mgn6327_165 : Nat × aw_S := (46, [(0, .inl 81), (1, .inr (false, [(0, 3)])), (2, .inr (false, [(0, 0)]))], [], mgh19596)
def mgx19597 : aw_A := ms_o [(0, 8)] [(0, 4)] ar_t32 ar_t32 [(0, 180)] [(23, 23)] [(17, 60)] [(1, 2)] [(4, 4)]
def mgh19598 : aw_H := [(81, mgx19597), (89, mgx494), (90, .inr (.inl (0, 240, [], []))), (92, .inr (.inl (0, 8, [], []))), (93, .inr (.inl (0, 8, [], []))), (94, mgx6473)]
def mgn6327_166 : Nat × aw_S := (46, [(0, .inl 81), (1, .inr (false, [(0, 3)])), (2, .inr (false, [(1, 1)]))], [], mgh19598)
def mgh19599 : aw_H := [(81, mgx8196), (89, mgx494), (90, .inr (.inl (0, 240, [], []))), (92, .inr (.inl (0, 8, [], []))), (93, .inr (.inl (0, 8, [], []))), (94, mgx6473)]
def mgn6327_167 : Nat × aw_S := (46, [(0, .inl 81), (1, .inr (false, [(0, 3)])), (2, .inr (false, [(0, 0)]))], [], mgh19599)
def mgn6327_168 : Nat × aw_S := (46, [(0, .inl 81), (1, .inr (false, [(0, 3)])), (2, .inr (false, [(0, 0)]))], [], mgh19587)
def mgn6327_169 : Nat × aw_S := (46, [(0, .inl 81), (1, .inr (false, [(0, 3)])), (2, .inr (false, [(0, 0)]))], [], mgh19535)
def mgn6327_170 : Nat × aw_S := (46, [(0, .inl 81), (1, .inr (false, [(0, 3)])), (2, .inr (false, [(0, 0)]))], [], mgh19510)
def mgh19600 : aw_H := [(81, mgx507), (89, mgx494), (90, .inr (.inl (0, 240, [], []))), (92, .inr (.inl (0, 8, [], []))), (93, .inr (.inl (0, 8, [], []))), (94, mgx4446)]
def mgn6327_171 : Nat × aw_S := (46, [(0, .inl 81), (1, .inr (false, [(0, 3)])), (2, .inr (false, [(0, 0)]))], [], mgh19600)
def mgh19601 : aw_H := [(81, mgx505), (89, mgx494), (90, .inr (.inl (0, 240, [], []))), (92, .inr (.inl (0, 8, [], []))), (93, .inr (.inl (0, 8, [], []))), (94, mgx4446)]
def mgn6327_172 : Nat × aw_S := (46, [(0, .inl 81), (1, .inr (false, [(0, 3)])), (2, .inr (false, [(0, 0)]))], [], mgh19601)
def mgx19602 : aw_A := ms_o [(0, 8)] [(0, 4)] ar_t32 ar_t32 [(0, 180)] [(12, 12)] [(1, 60)] [(0, 2)] [(0, 0)]
def mgh19603 : aw_H := [(81, mgx19602), (89, mgx494), (90, .inr (.inl (0, 240, [], []))), (92, .inr (.inl (0, 8, [], []))), (93, .inr (.inl (0, 8, [], []))), (94, mgx4446)]
def mgn6327_173 : Nat × aw_S := (46, [(0, .inl 81), (1, .inr (false, [(0, 3)])), (2, .inr (false, [(1, 1)]))], [], mgh19603)
def mgh19604 : aw_H := [(81, mgx5447), (89, mgx494), (90, .inr (.inl (0, 240, [], []))), (92, .inr (.inl (0, 8, [], []))), (93, .inr (.inl (0, 8, [], []))), (94, mgx4446)]
def mgn6327_174 : Nat × aw_S := (86, [(0, .inl 81), (1, .inr (false, [(0, 3)])), (2, .inr (false, [(1, 1)]))], [], mgh19604)
def mgh19605 : aw_H := [(81, mgx6143), (89, mgx494), (90, .inr (.inl (0, 240, [], []))), (92, .inr (.inl (0, 8, [], []))), (93, .inr (.inl (0, 8, [], []))), (94, mgx4449)]
def mgn6327_175 : Nat × aw_S := (86, [(0, .inl 81), (1, .inr (false, [(0, 3)])), (2, .inr (false, [(1, 1)]))], [], mgh19605)
def mgx19606 : aw_A := ms_o [(0, 8)] [(0, 4)] ar_t32 ar_t32 [(0, 180)] [(16, 16)] [(8, 60)] [(1, 3)] [(1, 1)]
def mgh19607 : aw_H := [(81, mgx19606), (89, mgx494), (90, .inr (.inl (0, 240, [], []))), (92, .inr (.inl (0, 8, [], []))), (93, .inr (.inl (0, 8, [], []))), (94, mgx4449)]
def mgn6327_176 : Nat × aw_S := (46, [(0, .inl 81), (1, .inr (false, [(0, 3)])), (2, .inr (false, [(1, 1)]))], [], mgh19607)
def mgh19608 : aw_H := [(81, mgx8402), (89, mgx494), (90, .inr (.inl (0, 240, [], []))), (92, .inr (.inl (0, 8, [], []))), (93, .inr (.inl (0, 8, [], []))), (94, mgx6150)]
def mgn6327_177 : Nat × aw_S := (86, [(0, .inl 81), (1, .inr (false, [(0, 3)])), (2, .inr (false, [(1, 1)]))], [], mgh19608)
def mgx19609 : aw_A := ms_o [(0, 8)] [(0, 4)] ar_t32 ar_t32 [(0, 180)] [(15, 15)] [(8, 60)] [(1, 2)] [(1, 1)]
def mgh19610 : aw_H := [(81, mgx19609), (89, mgx494), (90, .inr (.inl (0, 240, [], []))), (92, .inr (.inl (0, 8, [], []))), (93, .inr (.inl (0, 8, [], []))), (94, mgx4449)]
def mgn6327_178 : Nat × aw_S := (46, [(0, .inl 81), (1, .inr (false, [(0, 3)])), (2, .inr (false, [(1, 1)]))], [], mgh19610)
def mgh19611 : aw_H := [(81, mgx7650), (89, mgx494), (90, .inr (.inl (0, 240, [], []))), (92, .inr (.inl (0, 8, [], []))), (93, .inr (.inl (0, 8, [], []))), (94, mgx6150)]
def mgn6327_179 : Nat × aw_S := (86, [(0, .inl 81), (1, .inr (false, [(0, 3)])), (2, .inr (false, [(1, 1)]))], [], mgh19611)
def mgx19612 : aw_A := ms_o [(0, 8)] [(0, 4)] ar_t32 ar_t32 [(0, 180)] [(18, 18)] [(11, 60)] [(1, 2)] [(2, 2)]
def mgh19613 : aw_H := [(81, mgx19612), (89, mgx494), (90, .inr (.inl (0, 240, [], []))), (92, .inr (.inl (0, 8, [], []))), (93, .inr (.inl (0, 8, [], []))), (94, mgx6150)]
def mgn6327_180 : Nat × aw_S := (46, [(0, .inl 81), (1, .inr (false, [(0, 3)])), (2, .inr (false, [(1, 1)]))], [], mgh19613)
def mgh19614 : aw_H := [(81, mgx7843), (89, mgx494), (90, .inr (.inl (0, 240, [], []))), (92, .inr (.inl (0, 8, [], []))), (93, .inr (.inl (0, 8, [], []))), (94, mgx6362)]
def mgn6327_181 : Nat × aw_S := (86, [(0, .inl 81), (1, .inr (false, [(0, 3)])), (2, .inr (false, [(1, 1)]))], [], mgh19614)
def mgx19615 : aw_A := ms_o [(0, 8)] [(0, 4)] ar_t32 ar_t32 [(0, 180)] [(21, 21)] [(14, 60)] [(1, 2)] [(3, 3)]
def mgh19616 : aw_H := [(81, mgx19615), (89, mgx494), (90, .inr (.inl (0, 240, [], []))), (92, .inr (.inl (0, 8, [], []))), (93, .inr (.inl (0, 8, [], []))), (94, mgx6362)]
def mgn6327_182 : Nat × aw_S := (46, [(0, .inl 81), (1, .inr (false, [(0, 3)])), (2, .inr (false, [(1, 1)]))], [], mgh19616)
def mgh19617 : aw_H := [(81, mgx8675), (89, mgx494), (90, .inr (.inl (0, 240, [], []))), (92, .inr (.inl (0, 8, [], []))), (93, .inr (.inl (0, 8, [], []))), (94, mgx6473)]
def mgn6327_183 : Nat × aw_S := (86, [(0, .inl 81), (1, .inr (false, [(0, 3)])), (2, .inr (false, [(1, 1)]))], [], mgh19617)
def mgx19618 : aw_A := ms_o [(0, 8)] [(0, 4)] ar_t32 ar_t32 [(0, 180)] [(24, 24)] [(17, 60)] [(1, 2)] [(4, 4)]
def mgh19619 : aw_H := [(81, mgx19618), (89, mgx494), (90, .inr (.inl (0, 240, [], []))), (92, .inr (.inl (0, 8, [], []))), (93, .inr (.inl (0, 8, [], []))), (94, mgx6473)]
def mgn6327_184 : Nat × aw_S := (46, [(0, .inl 81), (1, .inr (false, [(0, 3)])), (2, .inr (false, [(1, 1)]))], [], mgh19619)
def mgh19620 : aw_H := [(81, mgx8753), (89, mgx494), (90, .inr (.inl (0, 240, [], []))), (92, .inr (.inl (0, 8, [], []))), (93, .inr (.inl (0, 8, [], []))), (94, mgx6473)]
def mgn6327_185 : Nat × aw_S := (46, [(0, .inl 81), (1, .inr (false, [(0, 3)])), (2, .inr (false, [(0, 0)]))], [], mgh19620)
def mgn6327_186 : Nat × aw_S := (46, [(0, .inl 81), (1, .inr (false, [(0, 3)])), (2, .inr (false, [(0, 0)]))], [], mgh19614)
def mgn6327_187 : Nat × aw_S := (46, [(0, .inl 81), (1, .inr (false, [(0, 3)])), (2, .inr (false, [(0, 0)]))], [], mgh19611)
def mgx19621 : aw_A := ms_o [(0, 8)] [(0, 4)] ar_t32 ar_t32 [(0, 180)] [(19, 19)] [(11, 60)] [(1, 3)] [(2, 2)]
def mgh19622 : aw_H := [(81, mgx19621), (89, mgx494), (90, .inr (.inl (0, 240, [], []))), (92, .inr (.inl (0, 8, [], []))), (93, .inr (.inl (0, 8, [], []))), (94, mgx6150)]
def mgn6327_188 : Nat × aw_S := (46, [(0, .inl 81), (1, .inr (false, [(0, 3)])), (2, .inr (false, [(1, 1)]))], [], mgh19622)
def mgh19623 : aw_H := [(81, mgx8767), (89, mgx494), (90, .inr (.inl (0, 240, [], []))), (92, .inr (.inl (0, 8, [], []))), (93, .inr (.inl (0, 8, [], []))), (94, mgx6362)]
def mgn6327_189 : Nat × aw_S := (86, [(0, .inl 81), (1, .inr (false, [(0, 3)])), (2, .inr (false, [(1, 1)]))], [], mgh19623)
def mgx19624 : aw_A := ms_o [(0, 8)] [(0, 4)] ar_t32 ar_t32 [(0, 180)] [(22, 22)] [(14, 60)] [(1, 3)] [(3, 3)]
def mgh19625 : aw_H := [(81, mgx19624), (89, mgx494), (90, .inr (.inl (0, 240, [], []))), (92, .inr (.inl (0, 8, [], []))), (93, .inr (.inl (0, 8, [], []))), (94, mgx6362)]
def mgn6327_190 : Nat × aw_S := (46, [(0, .inl 81), (1, .inr (false, [(0, 3)])), (2, .inr (false, [(1, 1)]))], [], mgh19625)
def mgn6327_191 : Nat × aw_S := (46, [(0, .inl 81), (1, .inr (false, [(0, 3)])), (2, .inr (false, [(0, 0)]))], [], mgh19623)
def mgh19626 : aw_H := [(81, mgx8861), (89, mgx494), (90, .inr (.inl (0, 240, [], []))), (92, .inr (.inl (0, 8, [], []))), (93, .inr (.inl (0, 8, [], []))), (94, mgx6473)]
def mgn6327_192 : Nat × aw_S := (86, [(0, .inl 81), (1, .inr (false, [(0, 3)])), (2, .inr (false, [(1, 1)]))], [], mgh19626)
def mgx19627 : aw_A := ms_o [(0, 8)] [(0, 4)] ar_t32 ar_t32 [(0, 180)] [(25, 25)] [(17, 60)] [(1, 3)] [(4, 4)]
def mgh19628 : aw_H := [(81, mgx19627), (89, mgx494), (90, .inr (.inl (0, 240, [], []))), (92, .inr (.inl (0, 8, [], []))), (93, .inr (.inl (0, 8, [], []))), (94, mgx6473)]
def mgn6327_193 : Nat × aw_S := (46, [(0, .inl 81), (1, .inr (false, [(0, 3)])), (2, .inr (false, [(1, 1)]))], [], mgh19628)
def mgh19629 : aw_H := [(81, mgx8938), (89, mgx494), (90, .inr (.inl (0, 240, [], []))), (92, .inr (.inl (0, 8, [], []))), (93, .inr (.inl (0, 8, [], []))), (94, mgx6473)]
def mgn6327_194 : Nat × aw_S := (46, [(0, .inl 81), (1, .inr (false, [(0, 3)])), (2, .inr (false, [(0, 0)]))], [], mgh19629)
def mgn6327_195 : Nat × aw_S := (46, [(0, .inl 81), (1, .inr (false, [(0, 3)])), (2, .inr (false, [(0, 0)]))], [], mgh19608)
def mgn6327_196 : Nat × aw_S := (46, [(0, .inl 81), (1, .inr (false, [(0, 3)])), (2, .inr (false, [(0, 0)]))], [], mgh19515)
def mgn6327_197 : Nat × aw_S := (46, [(0, .inl 81), (1, .inr (false, [(0, 3)])), (2, .inr (false, [(0, 0)]))], [], mgh19605)
def mgx19630 : aw_A := ms_o [(0, 8)] [(0, 4)] ar_t32 ar_t32 [(0, 180)] [(13, 13)] [(-1, 60)] [(0, 3)] [(0, 0)]
def mgh19631 : aw_H := [(81, mgx19630), (89, mgx494), (90, .inr (.inl (0, 240, [], []))), (92, .inr (.inl (0, 8, [], []))), (93, .inr (.inl (0, 8, [], []))), (94, mgx4446)]
def mgn6327_198 : Nat × aw_S := (46, [(0, .inl 81), (1, .inr (false, [(0, 3)])), (2, .inr (false, [(0, 0)]))], [], mgh19631)
def mgx19632 : aw_A := ms_o [(0, 8)] [(0, 4)] ar_t32 ar_t32 [(0, 180)] [(12, 12)] [(-1, 60)] [(0, 2)] [(0, 0)]
def mgh19633 : aw_H := [(81, mgx19632), (89, mgx494), (90, .inr (.inl (0, 240, [], []))), (92, .inr (.inl (0, 8, [], []))), (93, .inr (.inl (0, 8, [], []))), (94, mgx4446)]
def mgn6327_199 : Nat × aw_S := (46, [(0, .inl 81), (1, .inr (false, [(0, 3)])), (2, .inr (false, [(0, 0)]))], [], mgh19633)
def mgh19634 : aw_H := [(81, mgx828), (89, mgx494), (90, .inr (.inl (0, 240, [], []))), (92, .inr (.inl (0, 8, [], []))), (93, .inr (.inl (0, 8, [], []))), (94, mgx4446)]
def mgn6327_200 : Nat × aw_S := (42, [(0, .inl 81), (1, .inr (false, [(0, 3)])), (2, .inr (false, [(1, 1)]))], [], mgh19634)
def mgh19635 : aw_H := [(81, mgx764), (89, mgx494), (90, .inr (.inl (0, 240, [], []))), (92, .inr (.inl (0, 8, [], []))), (93, .inr (.inl (0, 8, [], []))), (94, mgx4446)]
def mgn6327_201 : Nat × aw_S := (42, [(0, .inl 81), (1, .inr (false, [(0, 3)])), (2, .inr (false, [(1, 1)]))], [], mgh19635)
def mgh19636 : aw_H := [(81, mgx790), (89, mgx494), (90, .inr (.inl (0, 240, [], []))), (92, .inr (.inl (0, 8, [], []))), (93, .inr (.inl (0, 8, [], []))), (94, mgx4446)]
def mgn6327_202 : Nat × aw_S := (42, [(0, .inl 81), (1, .inr (false, [(0, 3)])), (2, .inr (false, [(1, 1)]))], [], mgh19636)
def mgh19637 : aw_H := [(81, mgx834), (89, mgx494), (90, .inr (.inl (0, 240, [], []))), (92, .inr (.inl (0, 8, [], []))), (93, .inr (.inl (0, 8, [], []))), (94, mgx4446)]
def mgn6327_203 : Nat × aw_S := (42, [(0, .inl 81), (1, .inr (false, [(0, 3)])), (2, .inr (false, [(1, 1)]))], [], mgh19637)
def mgx19638 : aw_A := ms_o [(0, 8)] [(0, 4)] ar_t32 ar_t32 [(0, 180)] [(15, 15)] [(1, 60)] [(0, 3)] [(0, 0)]
def mgh19639 : aw_H := [(81, mgx19638), (89, mgx494), (90, .inr (.inl (0, 240, [], []))), (92, .inr (.inl (0, 8, [], []))), (93, .inr (.inl (0, 8, [], []))), (94, mgx4446)]
def mgn6327_204 : Nat × aw_S := (46, [(0, .inl 81), (1, .inr (false, [(0, 3)])), (2, .inr (false, [(1, 1)]))], [], mgh19639)
def mgh19640 : aw_H := [(81, mgx8395), (89, mgx494), (90, .inr (.inl (0, 240, [], []))), (92, .inr (.inl (0, 8, [], []))), (93, .inr (.inl (0, 8, [], []))), (94, mgx4449)]
def mgn6327_205 : Nat × aw_S := (86, [(0, .inl 81), (1, .inr (false, [(0, 3)])), (2, .inr (false, [(1, 1)]))], [], mgh19640)
def mgh19641 : aw_H := [(81, mgx9200), (89, mgx494), (90, .inr (.inl (0, 240, [], []))), (92, .inr (.inl (0, 8, [], []))), (93, .inr (.inl (0, 8, [], []))), (94, mgx4446)]
def mgn6327_206 : Nat × aw_S := (86, [(0, .inl 81), (1, .inr (false, [(0, 3)])), (2, .inr (false, [(1, 1)]))], [], mgh19641)
def mgx19642 : aw_A := ms_o [(0, 8)] [(0, 4)] ar_t32 ar_t32 [(0, 180)] [(14, 14)] [(1, 60)] [(0, 3)] [(0, 0)]
def mgh19643 : aw_H := [(81, mgx19642), (89, mgx494), (90, .inr (.inl (0, 240, [], []))), (92, .inr (.inl (0, 8, [], []))), (93, .inr (.inl (0, 8, [], []))), (94, mgx4446)]
def mgn6327_207 : Nat × aw_S := (46, [(0, .inl 81), (1, .inr (false, [(0, 3)])), (2, .inr (false, [(1, 1)]))], [], mgh19643)
def mgh19644 : aw_H := [(81, mgx9382), (89, mgx494), (90, .inr (.inl (0, 240, [], []))), (92, .inr (.inl (0, 8, [], []))), (93, .inr (.inl (0, 8, [], []))), (94, mgx4446)]
def mgn6327_208 : Nat × aw_S := (86, [(0, .inl 81), (1, .inr (false, [(0, 3)])), (2, .inr (false, [(1, 1)]))], [], mgh19644)
def mgx19645 : aw_A := ms_o [(0, 8)] [(0, 4)] ar_t32 ar_t32 [(0, 180)] [(15, 15)] [(-1, 60)] [(0, 3)] [(0, 0)]
def mgh19646 : aw_H := [(81, mgx19645), (89, mgx494), (90, .inr (.inl (0, 240, [], []))), (92, .inr (.inl (0, 8, [], []))), (93, .inr (.inl (0, 8, [], []))), (94, mgx4446)]
def mgn6327_209 : Nat × aw_S := (46, [(0, .inl 81), (1, .inr (false, [(0, 3)])), (2, .inr (false, [(0, 0)]))], [], mgh19646)
def mgh19647 : aw_H := [(81, mgx8393), (89, mgx494), (90, .inr (.inl (0, 240, [], []))), (92, .inr (.inl (0, 8, [], []))), (93, .inr (.inl (0, 8, [], []))), (94, mgx4449)]
def mgn6327_210 : Nat × aw_S := (86, [(0, .inl 81), (1, .inr (false, [(0, 3)])), (2, .inr (false, [(1, 1)]))], [], mgh19647)
def mgx19648 : aw_A := ms_o [(0, 8)] [(0, 4)] ar_t32 ar_t32 [(0, 180)] [(18, 18)] [(8, 60)] [(1, 3)] [(1, 1)]
def mgh19649 : aw_H := [(81, mgx19648), (89, mgx494), (90, .inr (.inl (0, 240, [], []))), (92, .inr (.inl (0, 8, [], []))), (93, .inr (.inl (0, 8, [], []))), (94, mgx4449)]
def mgn6327_211 : Nat × aw_S := (46, [(0, .inl 81), (1, .inr (false, [(0, 3)])), (2, .inr (false, [(1, 1)]))], [], mgh19649)
def mgh19650 : aw_H := [(81, mgx8760), (89, mgx494), (90, .inr (.inl (0, 240, [], []))), (92, .inr (.inl (0, 8, [], []))), (93, .inr (.inl (0, 8, [], []))), (94, mgx6150)]
def mgn6327_212 : Nat × aw_S := (86, [(0, .inl 81), (1, .inr (false, [(0, 3)])), (2, .inr (false, [(1, 1)]))], [], mgh19650)
def mgx19651 : aw_A := ms_o [(0, 8)] [(0, 4)] ar_t32 ar_t32 [(0, 180)] [(17, 17)] [(8, 60)] [(1, 3)] [(1, 1)]
def mgh19652 : aw_H := [(81, mgx19651), (89, mgx494), (90, .inr (.inl (0, 240, [], []))), (92, .inr (.inl (0, 8, [], []))), (93, .inr (.inl (0, 8, [], []))), (94, mgx4449)]
def mgn6327_213 : Nat × aw_S := (46, [(0, .inl 81), (1, .inr (false, [(0, 3)])), (2, .inr (false, [(1, 1)]))], [], mgh19652)
def mgn6327_214 : Nat × aw_S := (46, [(0, .inl 81), (1, .inr (false, [(0, 3)])), (2, .inr (false, [(0, 0)]))], [], mgh19647)
def mgh19653 : aw_H := [(81, mgx8758), (89, mgx494), (90, .inr (.inl (0, 240, [], []))), (92, .inr (.inl (0, 8, [], []))), (93, .inr (.inl (0, 8, [], []))), (94, mgx6150)]
def mgn6327_215 : Nat × aw_S := (86, [(0, .inl 81), (1, .inr (false, [(0, 3)])), (2, .inr (false, [(1, 1)]))], [], mgh19653)
def mgx19654 : aw_A := ms_o [(0, 8)] [(0, 4)] ar_t32 ar_t32 [(0, 180)] [(20, 20)] [(11, 60)] [(1, 3)] [(2, 2)]
def mgh19655 : aw_H := [(81, mgx19654), (89, mgx494), (90, .inr (.inl (0, 240, [], []))), (92, .inr (.inl (0, 8, [], []))), (93, .inr (.inl (0, 8, [], []))), (94, mgx6150)]
def mgn6327_216 : Nat × aw_S := (46, [(0, .inl 81), (1, .inr (false, [(0, 3)])), (2, .inr (false, [(1, 1)]))], [], mgh19655)
def mgh19656 : aw_H := [(81, mgx8852), (89, mgx494), (90, .inr (.inl (0, 240, [], []))), (92, .inr (.inl (0, 8, [], []))), (93, .inr (.inl (0, 8, [], []))), (94, mgx6362)]
def mgn6327_217 : Nat × aw_S := (86, [(0, .inl 81), (1, .inr (false, [(0, 3)])), (2, .inr (false, [(1, 1)]))], [], mgh19656)
def mgx19657 : aw_A := ms_o [(0, 8)] [(0, 4)] ar_t32 ar_t32 [(0, 180)] [(23, 23)] [(14, 60)] [(1, 3)] [(3, 3)]
def mgh19658 : aw_H := [(81, mgx19657), (89, mgx494), (90, .inr (.inl (0, 240, [], []))), (92, .inr (.inl (0, 8, [], []))), (93, .inr (.inl (0, 8, [], []))), (94, mgx6362)]
def mgn6327_218 : Nat × aw_S := (46, [(0, .inl 81), (1, .inr (false, [(0, 3)])), (2, .inr (false, [(1, 1)]))], [], mgh19658)
def mgn6327_219 : Nat × aw_S := (46, [(0, .inl 81), (1, .inr (false, [(0, 3)])), (2, .inr (false, [(0, 0)]))], [], mgh19656)
def mgh19659 : aw_H := [(81, mgx9822), (89, mgx494), (90, .inr (.inl (0, 240, [], []))), (92, .inr (.inl (0, 8, [], []))), (93, .inr (.inl (0, 8, [], []))), (94, mgx6473)]
def mgn6327_220 : Nat × aw_S := (86, [(0, .inl 81), (1, .inr (false, [(0, 3)])), (2, .inr (false, [(1, 1)]))], [], mgh19659)
def mgx19660 : aw_A := ms_o [(0, 8)] [(0, 4)] ar_t32 ar_t32 [(0, 180)] [(26, 26)] [(17, 60)] [(1, 3)] [(4, 4)]
def mgh19661 : aw_H := [(81, mgx19660), (89, mgx494), (90, .inr (.inl (0, 240, [], []))), (92, .inr (.inl (0, 8, [], []))), (93, .inr (.inl (0, 8, [], []))), (94, mgx6473)]
def mgn6327_221 : Nat × aw_S := (46, [(0, .inl 81), (1, .inr (false, [(0, 3)])), (2, .inr (false, [(1, 1)]))], [], mgh19661)
def mgh19662 : aw_H := [(81, mgx9896), (89, mgx494), (90, .inr (.inl (0, 240, [], []))), (92, .inr (.inl (0, 8, [], []))), (93, .inr (.inl (0, 8, [], []))), (94, mgx6473)]
def mgn6327_222 : Nat × aw_S := (46, [(0, .inl 81), (1, .inr (false, [(0, 3)])), (2, .inr (false, [(0, 0)]))], [], mgh19662)
def mgn6327_223 : Nat × aw_S := (46, [(0, .inl 81), (1, .inr (false, [(0, 3)])), (2, .inr (false, [(0, 0)]))], [], mgh19653)
def mgx19663 : aw_A := ms_o [(0, 8)] [(0, 4)] ar_t32 ar_t32 [(0, 180)] [(21, 21)] [(11, 60)] [(1, 3)] [(2, 2)]
def mgh19664 : aw_H := [(81, mgx19663), (89, mgx494), (90, .inr (.inl (0, 240, [], []))), (92, .inr (.inl (0, 8, [], []))), (93, .inr (.inl (0, 8, [], []))), (94, mgx6150)]
def mgn6327_224 : Nat × aw_S := (46, [(0, .inl 81), (1, .inr (false, [(0, 3)])), (2, .inr (false, [(1, 1)]))], [], mgh19664)
def mgh19665 : aw_H := [(81, mgx8854), (89, mgx494), (90, .inr (.inl (0, 240, [], []))), (92, .inr (.inl (0, 8, [], []))), (93, .inr (.inl (0, 8, [], []))), (94, mgx6362)]
def mgn6327_225 : Nat × aw_S := (86, [(0, .inl 81), (1, .inr (false, [(0, 3)])), (2, .inr (false, [(1, 1)]))], [], mgh19665)
def mgx19666 : aw_A := ms_o [(0, 8)] [(0, 4)] ar_t32 ar_t32 [(0, 180)] [(24, 24)] [(14, 60)] [(1, 3)] [(3, 3)]
def mgh19667 : aw_H := [(81, mgx19666), (89, mgx494), (90, .inr (.inl (0, 240, [], []))), (92, .inr (.inl (0, 8, [], []))), (93, .inr (.inl (0, 8, [], []))), (94, mgx6362)]
def mgn6327_226 : Nat × aw_S := (46, [(0, .inl 81), (1, .inr (false, [(0, 3)])), (2, .inr (false, [(1, 1)]))], [], mgh19667)
def mgn6327_227 : Nat × aw_S := (46, [(0, .inl 81), (1, .inr (false, [(0, 3)])), (2, .inr (false, [(0, 0)]))], [], mgh19665)
def mgh19668 : aw_H := [(81, mgx9985), (89, mgx494), (90, .inr (.inl (0, 240, [], []))), (92, .inr (.inl (0, 8, [], []))), (93, .inr (.inl (0, 8, [], []))), (94, mgx6473)]
def mgn6327_228 : Nat × aw_S := (86, [(0, .inl 81), (1, .inr (false, [(0, 3)])), (2, .inr (false, [(1, 1)]))], [], mgh19668)
def mgx19669 : aw_A := ms_o [(0, 8)] [(0, 4)] ar_t32 ar_t32 [(0, 180)] [(27, 27)] [(17, 60)] [(1, 3)] [(4, 4)]
def mgh19670 : aw_H := [(81, mgx19669), (89, mgx494), (90, .inr (.inl (0, 240, [], []))), (92, .inr (.inl (0, 8, [], []))), (93, .inr (.inl (0, 8, [], []))), (94, mgx6473)]
def mgn6327_229 : Nat × aw_S := (46, [(0, .inl 81), (1, .inr (false, [(0, 3)])), (2, .inr (false, [(1, 1)]))], [], mgh19670)
def mgh19671 : aw_H := [(81, mgx10057), (89, mgx494), (90, .inr (.inl (0, 240, [], []))), (92, .inr (.inl (0, 8, [], []))), (93, .inr (.inl (0, 8, [], []))), (94, mgx6473)]
def mgn6327_230 : Nat × aw_S := (46, [(0, .inl 81), (1, .inr (false, [(0, 3)])), (2, .inr (false, [(0, 0)]))], [], mgh19671)
def mgn6327_231 : Nat × aw_S := (46, [(0, .inl 81), (1, .inr (false, [(0, 3)])), (2, .inr (false, [(0, 0)]))], [], mgh19650)
def mgn6327_232 : Nat × aw_S := (46, [(0, .inl 81), (1, .inr (false, [(0, 3)])), (2, .inr (false, [(0, 0)]))], [], mgh19640)
def mgx19672 : aw_A := ms_o [(0, 8)] [(0, 4)] ar_t32 ar_t32 [(0, 180)] [(14, 14)] [(-1, 60)] [(0, 3)] [(0, 0)]
def mgh19673 : aw_H := [(81, mgx19672), (89, mgx494), (90, .inr (.inl (0, 240, [], []))), (92, .inr (.inl (0, 8, [], []))), (93, .inr (.inl (0, 8, [], []))), (94, mgx4446)]
def mgn6327_233 : Nat × aw_S := (46, [(0, .inl 81), (1, .inr (false, [(0, 3)])), (2, .inr (false, [(0, 0)]))], [], mgh19673)
def mgh19674 : aw_H := [(81, mgx800), (89, mgx494), (90, .inr (.inl (0, 240, [], []))), (92, .inr (.inl (0, 8, [], []))), (93, .inr (.inl (0, 8, [], []))), (94, mgx4446)]
def mgn6327_234 : Nat × aw_S := (42, [(0, .inl 81), (1, .inr (false, [(0, 3)])), (2, .inr (false, [(1, 1)]))], [], mgh19674)
def mgh19675 : aw_H := [(81, mgx772), (89, mgx494), (90, .inr (.inl (0, 240, [], []))), (92, .inr (.inl (0, 8, [], []))), (93, .inr (.inl (0, 8, [], []))), (94, mgx4446)]
def mgn6327_235 : Nat × aw_S := (42, [(0, .inl 81), (1, .inr (false, [(0, 3)])), (2, .inr (false, [(1, 1)]))], [], mgh19675)
def mgh19676 : aw_H := [(81, mgx754), (89, mgx494), (90, .inr (.inl (0, 240, [], []))), (92, .inr (.inl (0, 8, [], []))), (93, .inr (.inl (0, 8, [], []))), (94, mgx4446)]
def mgn6327_236 : Nat × aw_S := (42, [(0, .inl 81), (1, .inr (false, [(0, 3)])), (2, .inr (false, [(1, 1)]))], [], mgh19676)
def mgh19677 : aw_H := [(81, mgx798), (89, mgx494), (90, .inr (.inl (0, 240, [], []))), (92, .inr (.inl (0, 8, [], []))), (93, .inr (.inl (0, 8, [], []))), (94, mgx4446)]
def mgn6327_237 : Nat × aw_S := (42, [(0, .inl 81), (1, .inr (false, [(0, 3)])), (2, .inr (false, [(1, 1)]))], [], mgh19677)
def mgh19678 : aw_H := [(81, mgx830), (89, mgx494), (90, .inr (.inl (0, 240, [], []))), (92, .inr (.inl (0, 8, [], []))), (93, .inr (.inl (0, 8, [], []))), (94, mgx4446)]
def mgn6327_238 : Nat × aw_S := (42, [(0, .inl 81), (1, .inr (false, [(0, 3)])), (2, .inr (false, [(1, 1)]))], [], mgh19678)
def mgx19679 : aw_A := ms_o [(0, 8)] [(0, 4)] ar_t32 ar_t32 [(0, 180)] [(16, 16)] [(1, 60)] [(0, 3)] [(0, 0)]
def mgh19680 : aw_H := [(81, mgx19679), (89, mgx494), (90, .inr (.inl (0, 240, [], []))), (92, .inr (.inl (0, 8, [], []))), (93, .inr (.inl (0, 8, [], []))), (94, mgx4446)]
def mgn6327_239 : Nat × aw_S := (46, [(0, .inl 81), (1, .inr (false, [(0, 3)])), (2, .inr (false, [(1, 1)]))], [], mgh19680)
def mgx19681 : aw_A := ms_o [(0, 8)] [(0, 4)] ar_t32 ar_t32 [(0, 180)] [(16, 16)] [(-1, 60)] [(0, 3)] [(0, 0)]
def mgh19682 : aw_H := [(81, mgx19681), (89, mgx494), (90, .inr (.inl (0, 240, [], []))), (92, .inr (.inl (0, 8, [], []))), (93, .inr (.inl (0, 8, [], []))), (94, mgx4446)]
def mgn6327_240 : Nat × aw_S := (46, [(0, .inl 81), (1, .inr (false, [(0, 3)])), (2, .inr (false, [(0, 0)]))], [], mgh19682)
def mgh19683 : aw_H := [(81, mgx10313), (89, mgx494), (90, .inr (.inl (0, 240, [], []))), (92, .inr (.inl (0, 8, [], []))), (93, .inr (.inl (0, 8, [], []))), (94, mgx4446)]
def mgn6327_241 : Nat × aw_S := (86, [(0, .inl 81), (1, .inr (false, [(0, 3)])), (2, .inr (false, [(1, 1)]))], [], mgh19683)
def mgh19684 : aw_H := [(81, mgx8398), (89, mgx494), (90, .inr (.inl (0, 240, [], []))), (92, .inr (.inl (0, 8, [], []))), (93, .inr (.inl (0, 8, [], []))), (94, mgx4449)]
def mgn6327_242 : Nat × aw_S := (86, [(0, .inl 81), (1, .inr (false, [(0, 3)])), (2, .inr (false, [(1, 1)]))], [], mgh19684)
def mgx19685 : aw_A := ms_o [(0, 8)] [(0, 4)] ar_t32 ar_t32 [(0, 180)] [(19, 19)] [(8, 60)] [(1, 3)] [(1, 1)]
def mgh19686 : aw_H := [(81, mgx19685), (89, mgx494), (90, .inr (.inl (0, 240, [], []))), (92, .inr (.inl (0, 8, [], []))), (93, .inr (.inl (0, 8, [], []))), (94, mgx4449)]
def mgn6327_243 : Nat × aw_S := (46, [(0, .inl 81), (1, .inr (false, [(0, 3)])), (2, .inr (false, [(1, 1)]))], [], mgh19686)
def mgn6327_244 : Nat × aw_S := (46, [(0, .inl 81), (1, .inr (false, [(0, 3)])), (2, .inr (false, [(0, 0)]))], [], mgh19684)
def mgh19687 : aw_H := [(81, mgx8763), (89, mgx494), (90, .inr (.inl (0, 240, [], []))), (92, .inr (.inl (0, 8, [], []))), (93, .inr (.inl (0, 8, [], []))), (94, mgx6150)]
def mgn6327_245 : Nat × aw_S := (86, [(0, .inl 81), (1, .inr (false, [(0, 3)])), (2, .inr (false, [(1, 1)]))], [], mgh19687)
def mgx19688 : aw_A := ms_o [(0, 8)] [(0, 4)] ar_t32 ar_t32 [(0, 180)] [(22, 22)] [(11, 60)] [(1, 3)] [(2, 2)]
def mgh19689 : aw_H := [(81, mgx19688), (89, mgx494), (90, .inr (.inl (0, 240, [], []))), (92, .inr (.inl (0, 8, [], []))), (93, .inr (.inl (0, 8, [], []))), (94, mgx6150)]
def mgn6327_246 : Nat × aw_S := (46, [(0, .inl 81), (1, .inr (false, [(0, 3)])), (2, .inr (false, [(1, 1)]))], [], mgh19689)
def mgh19690 : aw_H := [(81, mgx8857), (89, mgx494), (90, .inr (.inl (0, 240, [], []))), (92, .inr (.inl (0, 8, [], []))), (93, .inr (.inl (0, 8, [], []))), (94, mgx6362)]
def mgn6327_247 : Nat × aw_S := (86, [(0, .inl 81), (1, .inr (false, [(0, 3)])), (2, .inr (false, [(1, 1)]))], [], mgh19690)
def mgx19691 : aw_A := ms_o [(0, 8)] [(0, 4)] ar_t32 ar_t32 [(0, 180)] [(25, 25)] [(14, 60)] [(1, 3)] [(3, 3)]
def mgh19692 : aw_H := [(81, mgx19691), (89, mgx494), (90, .inr (.inl (0, 240, [], []))), (92, .inr (.inl (0, 8, [], []))), (93, .inr (.inl (0, 8, [], []))), (94, mgx6362)]
def mgn6327_248 : Nat × aw_S := (46, [(0, .inl 81), (1, .inr (false, [(0, 3)])), (2, .inr (false, [(1, 1)]))], [], mgh19692)
def mgn6327_249 : Nat × aw_S := (46, [(0, .inl 81), (1, .inr (false, [(0, 3)])), (2, .inr (false, [(0, 0)]))], [], mgh19690)
def mgh19693 : aw_H := [(81, mgx10655), (89, mgx494), (90, .inr (.inl (0, 240, [], []))), (92, .inr (.inl (0, 8, [], []))), (93, .inr (.inl (0, 8, [], []))), (94, mgx6473)]
def mgn6327_250 : Nat × aw_S := (86, [(0, .inl 81), (1, .inr (false, [(0, 3)])), (2, .inr (false, [(1, 1)]))], [], mgh19693)
def mgx19694 : aw_A := ms_o [(0, 8)] [(0, 4)] ar_t32 ar_t32 [(0, 180)] [(28, 28)] [(17, 60)] [(1, 3)] [(4, 4)]
def mgh19695 : aw_H := [(81, mgx19694), (89, mgx494), (90, .inr (.inl (0, 240, [], []))), (92, .inr (.inl (0, 8, [], []))), (93, .inr (.inl (0, 8, [], []))), (94, mgx6473)]
def mgn6327_251 : Nat × aw_S := (46, [(0, .inl 81), (1, .inr (false, [(0, 3)])), (2, .inr (false, [(1, 1)]))], [], mgh19695)
def mgh19696 : aw_H := [(81, mgx10725), (89, mgx494), (90, .inr (.inl (0, 240, [], []))), (92, .inr (.inl (0, 8, [], []))), (93, .inr (.inl (0, 8, [], []))), (94, mgx6473)]
def mgn6327_252 : Nat × aw_S := (46, [(0, .inl 81), (1, .inr (false, [(0, 3)])), (2, .inr (false, [(0, 0)]))], [], mgh19696)
def mgn6327_253 : Nat × aw_S := (46, [(0, .inl 81), (1, .inr (false, [(0, 3)])), (2, .inr (false, [(0, 0)]))], [], mgh19687)
def mgx19697 : aw_A := ms_o [(0, 8)] [(0, 4)] ar_t32 ar_t32 [(0, 180)] [(18, 18)] [(1, 60)] [(0, 4)] [(0, 0)]
def mgh19698 : aw_H := [(81, mgx19697), (89, mgx494), (90, .inr (.inl (0, 240, [], []))), (92, .inr (.inl (0, 8, [], []))), (93, .inr (.inl (0, 8, [], []))), (94, mgx4446)]
def mgn6327_254 : Nat × aw_S := (46, [(0, .inl 81), (1, .inr (false, [(0, 3)])), (2, .inr (false, [(1, 1)]))], [], mgh19698)
def mgh19699 : aw_H := [(81, mgx10740), (89, mgx494), (90, .inr (.inl (0, 240, [], []))), (92, .inr (.inl (0, 8, [], []))), (93, .inr (.inl (0, 8, [], []))), (94, mgx4446)]
def mgn6327_255 : Nat × aw_S := (86, [(0, .inl 81), (1, .inr (false, [(0, 3)])), (2, .inr (false, [(1, 1)]))], [], mgh19699)
def mgh19700 : aw_H := [(81, mgx10749), (89, mgx494), (90, .inr (.inl (0, 240, [], []))), (92, .inr (.inl (0, 8, [], []))), (93, .inr (.inl (0, 8, [], []))), (94, mgx4449)]
def mgn6327_256 : Nat × aw_S := (86, [(0, .inl 81), (1, .inr (false, [(0, 3)])), (2, .inr (false, [(1, 1)]))], [], mgh19700)
def mgx19701 : aw_A := ms_o [(0, 8)] [(0, 4)] ar_t32 ar_t32 [(0, 180)] [(20, 20)] [(1, 60)] [(0, 4)] [(0, 0)]
def mgh19702 : aw_H := [(81, mgx19701), (89, mgx494), (90, .inr (.inl (0, 240, [], []))), (92, .inr (.inl (0, 8, [], []))), (93, .inr (.inl (0, 8, [], []))), (94, mgx4446)]
def mgn6327_257 : Nat × aw_S := (46, [(0, .inl 81), (1, .inr (false, [(0, 3)])), (2, .inr (false, [(1, 1)]))], [], mgh19702)
def mgh19703 : aw_H := [(81, mgx10919), (89, mgx494), (90, .inr (.inl (0, 240, [], []))), (92, .inr (.inl (0, 8, [], []))), (93, .inr (.inl (0, 8, [], []))), (94, mgx4446)]
def mgn6327_258 : Nat × aw_S := (86, [(0, .inl 81), (1, .inr (false, [(0, 3)])), (2, .inr (false, [(1, 1)]))], [], mgh19703)
def mgh19704 : aw_H := [(81, mgx10931), (89, mgx494), (90, .inr (.inl (0, 240, [], []))), (92, .inr (.inl (0, 8, [], []))), (93, .inr (.inl (0, 8, [], []))), (94, mgx4449)]
def mgn6327_259 : Nat × aw_S := (86, [(0, .inl 81), (1, .inr (false, [(0, 3)])), (2, .inr (false, [(1, 1)]))], [], mgh19704)
def mgx19705 : aw_A := ms_o [(0, 8)] [(0, 4)] ar_t32 ar_t32 [(0, 180)] [(19, 19)] [(1, 60)] [(0, 4)] [(0, 0)]
def mgh19706 : aw_H := [(81, mgx19705), (89, mgx494), (90, .inr (.inl (0, 240, [], []))), (92, .inr (.inl (0, 8, [], []))), (93, .inr (.inl (0, 8, [], []))), (94, mgx4446)]
def mgn6327_260 : Nat × aw_S := (46, [(0, .inl 81), (1, .inr (false, [(0, 3)])), (2, .inr (false, [(1, 1)]))], [], mgh19706)
def mgh19707 : aw_H := [(81, mgx11086), (89, mgx494), (90, .inr (.inl (0, 240, [], []))), (92, .inr (.inl (0, 8, [], []))), (93, .inr (.inl (0, 8, [], []))), (94, mgx4446)]
def mgn6327_261 : Nat × aw_S := (86, [(0, .inl 81), (1, .inr (false, [(0, 3)])), (2, .inr (false, [(1, 1)]))], [], mgh19707)
def mgh19708 : aw_H := [(81, mgx11091), (89, mgx494), (90, .inr (.inl (0, 240, [], []))), (92, .inr (.inl (0, 8, [], []))), (93, .inr (.inl (0, 8, [], []))), (94, mgx4449)]
def mgn6327_262 : Nat × aw_S := (86, [(0, .inl 81), (1, .inr (false, [(0, 3)])), (2, .inr (false, [(1, 1)]))], [], mgh19708)
def mgx19709 : aw_A := ms_o [(0, 8)] [(0, 4)] ar_t32 ar_t32 [(0, 180)] [(17, 17)] [(1, 60)] [(0, 4)] [(0, 0)]
def mgh19710 : aw_H := [(81, mgx19709), (89, mgx494), (90, .inr (.inl (0, 240, [], []))), (92, .inr (.inl (0, 8, [], []))), (93, .inr (.inl (0, 8, [], []))), (94, mgx4446)]
def mgn6327_263 : Nat × aw_S := (46, [(0, .inl 81), (1, .inr (false, [(0, 3)])), (2, .inr (false, [(1, 1)]))], [], mgh19710)
def mgx19711 : aw_A := ms_o [(0, 8)] [(0, 4)] ar_t32 ar_t32 [(0, 180)] [(19, 19)] [(-1, 60)] [(0, 4)] [(0, 0)]
def mgh19712 : aw_H := [(81, mgx19711), (89, mgx494), (90, .inr (.inl (0, 240, [], []))), (92, .inr (.inl (0, 8, [], []))), (93, .inr (.inl (0, 8, [], []))), (94, mgx4446)]
def mgn6327_264 : Nat × aw_S := (46, [(0, .inl 81), (1, .inr (false, [(0, 3)])), (2, .inr (false, [(0, 0)]))], [], mgh19712)
def mgx19713 : aw_A := ms_o [(0, 8)] [(0, 4)] ar_t32 ar_t32 [(0, 180)] [(20, 20)] [(-1, 60)] [(0, 4)] [(0, 0)]
def mgh19714 : aw_H := [(81, mgx19713), (89, mgx494), (90, .inr (.inl (0, 240, [], []))), (92, .inr (.inl (0, 8, [], []))), (93, .inr (.inl (0, 8, [], []))), (94, mgx4446)]
def mgn6327_265 : Nat × aw_S := (46, [(0, .inl 81), (1, .inr (false, [(0, 3)])), (2, .inr (false, [(0, 0)]))], [], mgh19714)
def mgh19715 : aw_H := [(81, mgx11251), (89, mgx494), (90, .inr (.inl (0, 240, [], []))), (92, .inr (.inl (0, 8, [], []))), (93, .inr (.inl (0, 8, [], []))), (94, mgx4446)]
def mgn6327_266 : Nat × aw_S := (86, [(0, .inl 81), (1, .inr (false, [(0, 3)])), (2, .inr (false, [(1, 1)]))], [], mgh19715)
def mgx19716 : aw_A := ms_o [(0, 8)] [(0, 4)] ar_t32 ar_t32 [(0, 180)] [(23, 23)] [(1, 60)] [(0, 5)] [(0, 0)]
def mgh19717 : aw_H := [(81, mgx19716), (89, mgx494), (90, .inr (.inl (0, 240, [], []))), (92, .inr (.inl (0, 8, [], []))), (93, .inr (.inl (0, 8, [], []))), (94, mgx4446)]
def mgn6327_267 : Nat × aw_S := (46, [(0, .inl 81), (1, .inr (false, [(0, 3)])), (2, .inr (false, [(1, 1)]))], [], mgh19717)
def mgh19718 : aw_H := [(81, mgx11365), (89, mgx494), (90, .inr (.inl (0, 240, [], []))), (92, .inr (.inl (0, 8, [], []))), (93, .inr (.inl (0, 8, [], []))), (94, mgx4449)]
def mgn6327_268 : Nat × aw_S := (86, [(0, .inl 81), (1, .inr (false, [(0, 3)])), (2, .inr (false, [(1, 1)]))], [], mgh19718)
def mgh19719 : aw_H := [(81, mgx11353), (89, mgx494), (90, .inr (.inl (0, 240, [], []))), (92, .inr (.inl (0, 8, [], []))), (93, .inr (.inl (0, 8, [], []))), (94, mgx4446)]
def mgn6327_269 : Nat × aw_S := (86, [(0, .inl 81), (1, .inr (false, [(0, 3)])), (2, .inr (false, [(1, 1)]))], [], mgh19719)
def mgx19720 : aw_A := ms_o [(0, 8)] [(0, 4)] ar_t32 ar_t32 [(0, 180)] [(24, 24)] [(1, 60)] [(0, 5)] [(0, 0)]
def mgh19721 : aw_H := [(81, mgx19720), (89, mgx494), (90, .inr (.inl (0, 240, [], []))), (92, .inr (.inl (0, 8, [], []))), (93, .inr (.inl (0, 8, [], []))), (94, mgx4446)]
def mgn6327_270 : Nat × aw_S := (46, [(0, .inl 81), (1, .inr (false, [(0, 3)])), (2, .inr (false, [(1, 1)]))], [], mgh19721)
def mgh19722 : aw_H := [(81, mgx11520), (89, mgx494), (90, .inr (.inl (0, 240, [], []))), (92, .inr (.inl (0, 8, [], []))), (93, .inr (.inl (0, 8, [], []))), (94, mgx4449)]
def mgn6327_271 : Nat × aw_S := (86, [(0, .inl 81), (1, .inr (false, [(0, 3)])), (2, .inr (false, [(1, 1)]))], [], mgh19722)
def mgh19723 : aw_H := [(81, mgx11512), (89, mgx494), (90, .inr (.inl (0, 240, [], []))), (92, .inr (.inl (0, 8, [], []))), (93, .inr (.inl (0, 8, [], []))), (94, mgx4446)]
def mgn6327_272 : Nat × aw_S := (86, [(0, .inl 81), (1, .inr (false, [(0, 3)])), (2, .inr (false, [(1, 1)]))], [], mgh19723)
def mgx19724 : aw_A := ms_o [(0, 8)] [(0, 4)] ar_t32 ar_t32 [(0, 180)] [(21, 21)] [(1, 60)] [(0, 5)] [(0, 0)]
def mgh19725 : aw_H := [(81, mgx19724), (89, mgx494), (90, .inr (.inl (0, 240, [], []))), (92, .inr (.inl (0, 8, [], []))), (93, .inr (.inl (0, 8, [], []))), (94, mgx4446)]
def mgn6327_273 : Nat × aw_S := (46, [(0, .inl 81), (1, .inr (false, [(0, 3)])), (2, .inr (false, [(1, 1)]))], [], mgh19725)
def mgh19726 : aw_H := [(81, mgx11671), (89, mgx494), (90, .inr (.inl (0, 240, [], []))), (92, .inr (.inl (0, 8, [], []))), (93, .inr (.inl (0, 8, [], []))), (94, mgx4449)]
def mgn6327_274 : Nat × aw_S := (86, [(0, .inl 81), (1, .inr (false, [(0, 3)])), (2, .inr (false, [(1, 1)]))], [], mgh19726)
def mgh19727 : aw_H := [(81, mgx11664), (89, mgx494), (90, .inr (.inl (0, 240, [], []))), (92, .inr (.inl (0, 8, [], []))), (93, .inr (.inl (0, 8, [], []))), (94, mgx4446)]
def mgn6327_275 : Nat × aw_S := (86, [(0, .inl 81), (1, .inr (false, [(0, 3)])), (2, .inr (false, [(1, 1)]))], [], mgh19727)
def mgx19728 : aw_A := ms_o [(0, 8)] [(0, 4)] ar_t32 ar_t32 [(0, 180)] [(25, 25)] [(1, 60)] [(0, 6)] [(0, 0)]
def mgh19729 : aw_H := [(81, mgx19728), (89, mgx494), (90, .inr (.inl (0, 240, [], []))), (92, .inr (.inl (0, 8, [], []))), (93, .inr (.inl (0, 8, [], []))), (94, mgx4446)]
def mgn6327_276 : Nat × aw_S := (46, [(0, .inl 81), (1, .inr (false, [(0, 3)])), (2, .inr (false, [(1, 1)]))], [], mgh19729)
def mgh19730 : aw_H := [(81, mgx11844), (89, mgx494), (90, .inr (.inl (0, 240, [], []))), (92, .inr (.inl (0, 8, [], []))), (93, .inr (.inl (0, 8, [], []))), (94, mgx4449)]
def mgn6327_277 : Nat × aw_S := (86, [(0, .inl 81), (1, .inr (false, [(0, 3)])), (2, .inr (false, [(1, 1)]))], [], mgh19730)
def mgh19731 : aw_H := [(81, mgx11834), (89, mgx494), (90, .inr (.inl (0, 240, [], []))), (92, .inr (.inl (0, 8, [], []))), (93, .inr (.inl (0, 8, [], []))), (94, mgx4446)]
def mgn6327_278 : Nat × aw_S := (86, [(0, .inl 81), (1, .inr (false, [(0, 3)])), (2, .inr (false, [(1, 1)]))], [], mgh19731)
def mgx19732 : aw_A := ms_o [(0, 8)] [(0, 4)] ar_t32 ar_t32 [(0, 180)] [(21, 21)] [(-1, 60)] [(0, 5)] [(0, 0)]
def mgh19733 : aw_H := [(81, mgx19732), (89, mgx494), (90, .inr (.inl (0, 240, [], []))), (92, .inr (.inl (0, 8, [], []))), (93, .inr (.inl (0, 8, [], []))), (94, mgx4446)]
def mgn6327_279 : Nat × aw_S := (46, [(0, .inl 81), (1, .inr (false, [(0, 3)])), (2, .inr (false, [(0, 0)]))], [], mgh19733)
def mgx19734 : aw_A := ms_o [(0, 8)] [(0, 4)] ar_t32 ar_t32 [(0, 180)] [(22, 22)] [(1, 60)] [(0, 5)] [(0, 0)]
def mgh19735 : aw_H := [(81, mgx19734), (89, mgx494), (90, .inr (.inl (0, 240, [], []))), (92, .inr (.inl (0, 8, [], []))), (93, .inr (.inl (0, 8, [], []))), (94, mgx4446)]
def mgn6327_280 : Nat × aw_S := (46, [(0, .inl 81), (1, .inr (false, [(0, 3)])), (2, .inr (false, [(1, 1)]))], [], mgh19735)
def mgh19736 : aw_H := [(81, mgx11983), (89, mgx494), (90, .inr (.inl (0, 240, [], []))), (92, .inr (.inl (0, 8, [], []))), (93, .inr (.inl (0, 8, [], []))), (94, mgx4449)]
def mgn6327_281 : Nat × aw_S := (86, [(0, .inl 81), (1, .inr (false, [(0, 3)])), (2, .inr (false, [(1, 1)]))], [], mgh19736)
def mgx19737 : aw_A := ms_o [(0, 8)] [(0, 4)] ar_t32 ar_t32 [(0, 180)] [(25, 25)] [(-1, 60)] [(0, 6)] [(0, 0)]
def mgh19738 : aw_H := [(81, mgx19737), (89, mgx494), (90, .inr (.inl (0, 240, [], []))), (92, .inr (.inl (0, 8, [], []))), (93, .inr (.inl (0, 8, [], []))), (94, mgx4446)]
def mgn6327_282 : Nat × aw_S := (46, [(0, .inl 81), (1, .inr (false, [(0, 3)])), (2, .inr (false, [(0, 0)]))], [], mgh19738)
def mgh19739 : aw_H := [(81, mgx11840), (89, mgx494), (90, .inr (.inl (0, 240, [], []))), (92, .inr (.inl (0, 8, [], []))), (93, .inr (.inl (0, 8, [], []))), (94, mgx4446)]
def mgn6327_283 : Nat × aw_S := (86, [(0, .inl 81), (1, .inr (false, [(0, 3)])), (2, .inr (false, [(1, 1)]))], [], mgh19739)
def mgx19740 : aw_A := ms_o [(0, 8)] [(0, 4)] ar_t32 ar_t32 [(0, 180)] [(29, 29)] [(1, 60)] [(0, 7)] [(0, 0)]
def mgh19741 : aw_H := [(81, mgx19740), (89, mgx494), (90, .inr (.inl (0, 240, [], []))), (92, .inr (.inl (0, 8, [], []))), (93, .inr (.inl (0, 8, [], []))), (94, mgx4446)]
def mgn6327_284 : Nat × aw_S := (46, [(0, .inl 81), (1, .inr (false, [(0, 3)])), (2, .inr (false, [(1, 1)]))], [], mgh19741)
def mgh19742 : aw_H := [(81, mgx12138), (89, mgx494), (90, .inr (.inl (0, 240, [], []))), (92, .inr (.inl (0, 8, [], []))), (93, .inr (.inl (0, 8, [], []))), (94, mgx4446)]
def mgn6327_285 : Nat × aw_S := (86, [(0, .inl 81), (1, .inr (false, [(0, 3)])), (2, .inr (false, [(1, 1)]))], [], mgh19742)
def mgh19743 : aw_H := [(81, mgx12153), (89, mgx494), (90, .inr (.inl (0, 240, [], []))), (92, .inr (.inl (0, 8, [], []))), (93, .inr (.inl (0, 8, [], []))), (94, mgx4449)]
def mgn6327_286 : Nat × aw_S := (86, [(0, .inl 81), (1, .inr (false, [(0, 3)])), (2, .inr (false, [(1, 1)]))], [], mgh19743)
def mgx19744 : aw_A := ms_o [(0, 8)] [(0, 4)] ar_t32 ar_t32 [(0, 180)] [(26, 26)] [(1, 60)] [(0, 6)] [(0, 0)]
def mgh19745 : aw_H := [(81, mgx19744), (89, mgx494), (90, .inr (.inl (0, 240, [], []))), (92, .inr (.inl (0, 8, [], []))), (93, .inr (.inl (0, 8, [], []))), (94, mgx4446)]
def mgn6327_287 : Nat × aw_S := (46, [(0, .inl 81), (1, .inr (false, [(0, 3)])), (2, .inr (false, [(1, 1)]))], [], mgh19745)
def mgh19746 : aw_H := [(81, mgx12144), (89, mgx494), (90, .inr (.inl (0, 240, [], []))), (92, .inr (.inl (0, 8, [], []))), (93, .inr (.inl (0, 8, [], []))), (94, mgx4446)]
def mgn6327_288 : Nat × aw_S := (86, [(0, .inl 81), (1, .inr (false, [(0, 3)])), (2, .inr (false, [(1, 1)]))], [], mgh19746)
def mgh19747 : aw_H := [(81, mgx12282), (89, mgx494), (90, .inr (.inl (0, 240, [], []))), (92, .inr (.inl (0, 8, [], []))), (93, .inr (.inl (0, 8, [], []))), (94, mgx4449)]
def mgn6327_289 : Nat × aw_S := (86, [(0, .inl 81), (1, .inr (false, [(0, 3)])), (2, .inr (false, [(1, 1)]))], [], mgh19747)
def mgx19748 : aw_A := ms_o [(0, 8)] [(0, 4)] ar_t32 ar_t32 [(0, 180)] [(26, 26)] [(-1, 60)] [(0, 6)] [(0, 0)]
def mgh19749 : aw_H := [(81, mgx19748), (89, mgx494), (90, .inr (.inl (0, 240, [], []))), (92, .inr (.inl (0, 8, [], []))), (93, .inr (.inl (0, 8, [], []))), (94, mgx4446)]
def mgn6327_290 : Nat × aw_S := (46, [(0, .inl 81), (1, .inr (false, [(0, 3)])), (2, .inr (false, [(0, 0)]))], [], mgh19749)
def mgx19750 : aw_A := ms_o [(0, 8)] [(0, 4)] ar_t32 ar_t32 [(0, 180)] [(27, 27)] [(1, 60)] [(0, 6)] [(0, 0)]
def mgh19751 : aw_H := [(81, mgx19750), (89, mgx494), (90, .inr (.inl (0, 240, [], []))), (92, .inr (.inl (0, 8, [], []))), (93, .inr (.inl (0, 8, [], []))), (94, mgx4446)]
def mgn6327_291 : Nat × aw_S := (46, [(0, .inl 81), (1, .inr (false, [(0, 3)])), (2, .inr (false, [(1, 1)]))], [], mgh19751)
def mgh19752 : aw_H := [(81, mgx12421), (89, mgx494), (90, .inr (.inl (0, 240, [], []))), (92, .inr (.inl (0, 8, [], []))), (93, .inr (.inl (0, 8, [], []))), (94, mgx4449)]
def mgn6327_292 : Nat × aw_S := (86, [(0, .inl 81), (1, .inr (false, [(0, 3)])), (2, .inr (false, [(1, 1)]))], [], mgh19752)
def mgh19753 : aw_H := [(81, mgx12146), (89, mgx494), (90, .inr (.inl (0, 240, [], []))), (92, .inr (.inl (0, 8, [], []))), (93, .inr (.inl (0, 8, [], []))), (94, mgx4446)]
def mgn6327_293 : Nat × aw_S := (86, [(0, .inl 81), (1, .inr (false, [(0, 3)])), (2, .inr (false, [(1, 1)]))], [], mgh19753)
def mgx19754 : aw_A := ms_o [(0, 8)] [(0, 4)] ar_t32 ar_t32 [(0, 180)] [(31, 31)] [(1, 60)] [(0, 7)] [(0, 0)]
def mgh19755 : aw_H := [(81, mgx19754), (89, mgx494), (90, .inr (.inl (0, 240, [], []))), (92, .inr (.inl (0, 8, [], []))), (93, .inr (.inl (0, 8, [], []))), (94, mgx4446)]
def mgn6327_294 : Nat × aw_S := (46, [(0, .inl 81), (1, .inr (false, [(0, 3)])), (2, .inr (false, [(1, 1)]))], [], mgh19755)
def mgh19756 : aw_H := [(81, mgx12552), (89, mgx494), (90, .inr (.inl (0, 240, [], []))), (92, .inr (.inl (0, 8, [], []))), (93, .inr (.inl (0, 8, [], []))), (94, mgx4446)]
def mgn6327_295 : Nat × aw_S := (86, [(0, .inl 81), (1, .inr (false, [(0, 3)])), (2, .inr (false, [(1, 1)]))], [], mgh19756)
def mgh19757 : aw_H := [(81, mgx12564), (89, mgx494), (90, .inr (.inl (0, 240, [], []))), (92, .inr (.inl (0, 8, [], []))), (93, .inr (.inl (0, 8, [], []))), (94, mgx4449)]
def mgn6327_296 : Nat × aw_S := (86, [(0, .inl 81), (1, .inr (false, [(0, 3)])), (2, .inr (false, [(1, 1)]))], [], mgh19757)
def mgx19758 : aw_A := ms_o [(0, 8)] [(0, 4)] ar_t32 ar_t32 [(0, 180)] [(27, 27)] [(-1, 60)] [(0, 6)] [(0, 0)]
def mgh19759 : aw_H := [(81, mgx19758), (89, mgx494), (90, .inr (.inl (0, 240, [], []))), (92, .inr (.inl (0, 8, [], []))), (93, .inr (.inl (0, 8, [], []))), (94, mgx4446)]
def mgn6327_297 : Nat × aw_S := (46, [(0, .inl 81), (1, .inr (false, [(0, 3)])), (2, .inr (false, [(0, 0)]))], [], mgh19759)
def mgx19760 : aw_A := ms_o [(0, 8)] [(0, 4)] ar_t32 ar_t32 [(0, 180)] [(28, 28)] [(1, 60)] [(0, 6)] [(0, 0)]
def mgh19761 : aw_H := [(81, mgx19760), (89, mgx494), (90, .inr (.inl (0, 240, [], []))), (92, .inr (.inl (0, 8, [], []))), (93, .inr (.inl (0, 8, [], []))), (94, mgx4446)]
def mgn6327_298 : Nat × aw_S := (46, [(0, .inl 81), (1, .inr (false, [(0, 3)])), (2, .inr (false, [(1, 1)]))], [], mgh19761)
def mgx19762 : aw_A := ms_o [(0, 8)] [(0, 4)] ar_t32 ar_t32 [(0, 180)] [(29, 29)] [(-1, 60)] [(0, 7)] [(0, 0)]
def mgh19763 : aw_H := [(81, mgx19762), (89, mgx494), (90, .inr (.inl (0, 240, [], []))), (92, .inr (.inl (0, 8, [], []))), (93, .inr (.inl (0, 8, [], []))), (94, mgx4446)]
def mgn6327_299 : Nat × aw_S := (46, [(0, .inl 81), (1, .inr (false, [(0, 3)])), (2, .inr (false, [(0, 0)]))], [], mgh19763)
def mgh19764 : aw_H := [(81, mgx12149), (89, mgx494), (90, .inr (.inl (0, 240, [], []))), (92, .inr (.inl (0, 8, [], []))), (93, .inr (.inl (0, 8, [], []))), (94, mgx4446)]
def mgn6327_300 : Nat × aw_S := (86, [(0, .inl 81), (1, .inr (false, [(0, 3)])), (2, .inr (false, [(1, 1)]))], [], mgh19764)
def mgx19765 : aw_A := ms_o [(0, 8)] [(0, 4)] ar_t32 ar_t32 [(0, 180)] [(32, 32)] [(1, 60)] [(0, 7)] [(0, 0)]
def mgh19766 : aw_H := [(81, mgx19765), (89, mgx494), (90, .inr (.inl (0, 240, [], []))), (92, .inr (.inl (0, 8, [], []))), (93, .inr (.inl (0, 8, [], []))), (94, mgx4446)]
def mgn6327_301 : Nat × aw_S := (46, [(0, .inl 81), (1, .inr (false, [(0, 3)])), (2, .inr (false, [(1, 1)]))], [], mgh19766)
def mgh19767 : aw_H := [(81, mgx12750), (89, mgx494), (90, .inr (.inl (0, 240, [], []))), (92, .inr (.inl (0, 8, [], []))), (93, .inr (.inl (0, 8, [], []))), (94, mgx4446)]
def mgn6327_302 : Nat × aw_S := (86, [(0, .inl 81), (1, .inr (false, [(0, 3)])), (2, .inr (false, [(1, 1)]))], [], mgh19767)
def mgh19768 : aw_H := [(81, mgx12758), (89, mgx494), (90, .inr (.inl (0, 240, [], []))), (92, .inr (.inl (0, 8, [], []))), (93, .inr (.inl (0, 8, [], []))), (94, mgx4449)]
def mgn6327_303 : Nat × aw_S := (86, [(0, .inl 81), (1, .inr (false, [(0, 3)])), (2, .inr (false, [(1, 1)]))], [], mgh19768)
def mgx19769 : aw_A := ms_o [(0, 8)] [(0, 4)] ar_t32 ar_t32 [(0, 180)] [(33, 33)] [(1, 60)] [(0, 8)] [(0, 0)]
def mgh19770 : aw_H := [(81, mgx19769), (89, mgx494), (90, .inr (.inl (0, 240, [], []))), (92, .inr (.inl (0, 8, [], []))), (93, .inr (.inl (0, 8, [], []))), (94, mgx4446)]
def mgn6327_304 : Nat × aw_S := (46, [(0, .inl 81), (1, .inr (false, [(0, 3)])), (2, .inr (false, [(1, 1)]))], [], mgh19770)
def mgh19771 : aw_H := [(81, mgx12868), (89, mgx494), (90, .inr (.inl (0, 240, [], []))), (92, .inr (.inl (0, 8, [], []))), (93, .inr (.inl (0, 8, [], []))), (94, mgx4446)]
def mgn6327_305 : Nat × aw_S := (86, [(0, .inl 81), (1, .inr (false, [(0, 3)])), (2, .inr (false, [(1, 1)]))], [], mgh19771)
def mgh19772 : aw_H := [(81, mgx12878), (89, mgx494), (90, .inr (.inl (0, 240, [], []))), (92, .inr (.inl (0, 8, [], []))), (93, .inr (.inl (0, 8, [], []))), (94, mgx4449)]
def mgn6327_306 : Nat × aw_S := (86, [(0, .inl 81), (1, .inr (false, [(0, 3)])), (2, .inr (false, [(1, 1)]))], [], mgh19772)
def mgx19773 : aw_A := ms_o [(0, 8)] [(0, 4)] ar_t32 ar_t32 [(0, 180)] [(28, 28)] [(-1, 60)] [(0, 6)] [(0, 0)]
def mgh19774 : aw_H := [(81, mgx19773), (89, mgx494), (90, .inr (.inl (0, 240, [], []))), (92, .inr (.inl (0, 8, [], []))), (93, .inr (.inl (0, 8, [], []))), (94, mgx4446)]
def mgn6327_307 : Nat × aw_S := (46, [(0, .inl 81), (1, .inr (false, [(0, 3)])), (2, .inr (false, [(0, 0)]))], [], mgh19774)
def mgh19775 : aw_H := [(81, mgx12686), (89, mgx494), (90, .inr (.inl (0, 240, [], []))), (92, .inr (.inl (0, 8, [], []))), (93, .inr (.inl (0, 8, [], []))), (94, mgx4449)]
def mgn6327_308 : Nat × aw_S := (86, [(0, .inl 81), (1, .inr (false, [(0, 3)])), (2, .inr (false, [(1, 1)]))], [], mgh19775)
def mgx19776 : aw_A := ms_o [(0, 8)] [(0, 4)] ar_t32 ar_t32 [(0, 180)] [(23, 23)] [(-1, 60)] [(0, 5)] [(0, 0)]
def mgh19777 : aw_H := [(81, mgx19776), (89, mgx494), (90, .inr (.inl (0, 240, [], []))), (92, .inr (.inl (0, 8, [], []))), (93, .inr (.inl (0, 8, [], []))), (94, mgx4446)]
def mgn6327_309 : Nat × aw_S := (46, [(0, .inl 81), (1, .inr (false, [(0, 3)])), (2, .inr (false, [(0, 0)]))], [], mgh19777)
def mgx19778 : aw_A := ms_o [(0, 8)] [(0, 4)] ar_t32 ar_t32 [(0, 180)] [(22, 22)] [(-1, 60)] [(0, 5)] [(0, 0)]
def mgh19779 : aw_H := [(81, mgx19778), (89, mgx494), (90, .inr (.inl (0, 240, [], []))), (92, .inr (.inl (0, 8, [], []))), (93, .inr (.inl (0, 8, [], []))), (94, mgx4446)]
def mgn6327_310 : Nat × aw_S := (46, [(0, .inl 81), (1, .inr (false, [(0, 3)])), (2, .inr (false, [(0, 0)]))], [], mgh19779)
def mgx19780 : aw_A := ms_o [(0, 8)] [(0, 4)] ar_t32 ar_t32 [(0, 180)] [(24, 24)] [(-1, 60)] [(0, 5)] [(0, 0)]
def mgh19781 : aw_H := [(81, mgx19780), (89, mgx494), (90, .inr (.inl (0, 240, [], []))), (92, .inr (.inl (0, 8, [], []))), (93, .inr (.inl (0, 8, [], []))), (94, mgx4446)]
def mgn6327_311 : Nat × aw_S := (46, [(0, .inl 81), (1, .inr (false, [(0, 3)])), (2, .inr (false, [(0, 0)]))], [], mgh19781)
def mgx19782 : aw_A := ms_o [(0, 8)] [(0, 4)] ar_t32 ar_t32 [(0, 180)] [(30, 30)] [(1, 60)] [(0, 7)] [(0, 0)]
def mgh19783 : aw_H := [(81, mgx19782), (89, mgx494), (90, .inr (.inl (0, 240, [], []))), (92, .inr (.inl (0, 8, [], []))), (93, .inr (.inl (0, 8, [], []))), (94, mgx4446)]
def mgn6327_312 : Nat × aw_S := (46, [(0, .inl 81), (1, .inr (false, [(0, 3)])), (2, .inr (false, [(1, 1)]))], [], mgh19783)
def mgh19784 : aw_H := [(81, mgx13045), (89, mgx494), (90, .inr (.inl (0, 240, [], []))), (92, .inr (.inl (0, 8, [], []))), (93, .inr (.inl (0, 8, [], []))), (94, mgx4449)]
def mgn6327_313 : Nat × aw_S := (86, [(0, .inl 81), (1, .inr (false, [(0, 3)])), (2, .inr (false, [(1, 1)]))], [], mgh19784)
def mgx19785 : aw_A := ms_o [(0, 8)] [(0, 4)] ar_t32 ar_t32 [(0, 180)] [(30, 30)] [(-1, 60)] [(0, 7)] [(0, 0)]
def mgh19786 : aw_H := [(81, mgx19785), (89, mgx494), (90, .inr (.inl (0, 240, [], []))), (92, .inr (.inl (0, 8, [], []))), (93, .inr (.inl (0, 8, [], []))), (94, mgx4446)]
def mgn6327_314 : Nat × aw_S := (46, [(0, .inl 81), (1, .inr (false, [(0, 3)])), (2, .inr (false, [(0, 0)]))], [], mgh19786)
def mgx19787 : aw_A := ms_o [(0, 8)] [(0, 4)] ar_t32 ar_t32 [(0, 180)] [(31, 31)] [(-1, 60)] [(0, 7)] [(0, 0)]
def mgh19788 : aw_H := [(81, mgx19787), (89, mgx494), (90, .inr (.inl (0, 240, [], []))), (92, .inr (.inl (0, 8, [], []))), (93, .inr (.inl (0, 8, [], []))), (94, mgx4446)]
def mgn6327_315 : Nat × aw_S := (46, [(0, .inl 81), (1, .inr (false, [(0, 3)])), (2, .inr (false, [(0, 0)]))], [], mgh19788)
def mgh19789 : aw_H := [(81, mgx12874), (89, mgx494), (90, .inr (.inl (0, 240, [], []))), (92, .inr (.inl (0, 8, [], []))), (93, .inr (.inl (0, 8, [], []))), (94, mgx4446)]
def mgn6327_316 : Nat × aw_S := (86, [(0, .inl 81), (1, .inr (false, [(0, 3)])), (2, .inr (false, [(1, 1)]))], [], mgh19789)
def mgx19790 : aw_A := ms_o [(0, 8)] [(0, 4)] ar_t32 ar_t32 [(0, 180)] [(37, 37)] [(1, 60)] [(0, 8)] [(0, 0)]
def mgh19791 : aw_H := [(81, mgx19790), (89, mgx494), (90, .inr (.inl (0, 240, [], []))), (92, .inr (.inl (0, 8, [], []))), (93, .inr (.inl (0, 8, [], []))), (94, mgx4446)]
def mgn6327_317 : Nat × aw_S := (46, [(0, .inl 81), (1, .inr (false, [(0, 3)])), (2, .inr (false, [(1, 1)]))], [], mgh19791)
def mgh19792 : aw_H := [(81, mgx13168), (89, mgx494), (90, .inr (.inl (0, 240, [], []))), (92, .inr (.inl (0, 8, [], []))), (93, .inr (.inl (0, 8, [], []))), (94, mgx4446)]
def mgn6327_318 : Nat × aw_S := (86, [(0, .inl 81), (1, .inr (false, [(0, 3)])), (2, .inr (false, [(1, 1)]))], [], mgh19792)
def mgh19793 : aw_H := [(81, mgx13185), (89, mgx494), (90, .inr (.inl (0, 240, [], []))), (92, .inr (.inl (0, 8, [], []))), (93, .inr (.inl (0, 8, [], []))), (94, mgx4449)]
def mgn6327_319 : Nat × aw_S := (86, [(0, .inl 81), (1, .inr (false, [(0, 3)])), (2, .inr (false, [(1, 1)]))], [], mgh19793)
def mgx19794 : aw_A := ms_o [(0, 8)] [(0, 4)] ar_t32 ar_t32 [(0, 180)] [(35, 35)] [(1, 60)] [(0, 8)] [(0, 0)]
def mgh19795 : aw_H := [(81, mgx19794), (89, mgx494), (90, .inr (.inl (0, 240, [], []))), (92, .inr (.inl (0, 8, [], []))), (93, .inr (.inl (0, 8, [], []))), (94, mgx4446)]
def mgn6327_320 : Nat × aw_S := (46, [(0, .inl 81), (1, .inr (false, [(0, 3)])), (2, .inr (false, [(1, 1)]))], [], mgh19795)
def mgh19796 : aw_H := [(81, mgx13178), (89, mgx494), (90, .inr (.inl (0, 240, [], []))), (92, .inr (.inl (0, 8, [], []))), (93, .inr (.inl (0, 8, [], []))), (94, mgx4446)]
def mgn6327_321 : Nat × aw_S := (86, [(0, .inl 81), (1, .inr (false, [(0, 3)])), (2, .inr (false, [(1, 1)]))], [], mgh19796)
def mgh19797 : aw_H := [(81, mgx13280), (89, mgx494), (90, .inr (.inl (0, 240, [], []))), (92, .inr (.inl (0, 8, [], []))), (93, .inr (.inl (0, 8, [], []))), (94, mgx4449)]
def mgn6327_322 : Nat × aw_S := (86, [(0, .inl 81), (1, .inr (false, [(0, 3)])), (2, .inr (false, [(1, 1)]))], [], mgh19797)
def mgx19798 : aw_A := ms_o [(0, 8)] [(0, 4)] ar_t32 ar_t32 [(0, 180)] [(32, 32)] [(-1, 60)] [(0, 7)] [(0, 0)]
def mgh19799 : aw_H := [(81, mgx19798), (89, mgx494), (90, .inr (.inl (0, 240, [], []))), (92, .inr (.inl (0, 8, [], []))), (93, .inr (.inl (0, 8, [], []))), (94, mgx4446)]
def mgn6327_323 : Nat × aw_S := (46, [(0, .inl 81), (1, .inr (false, [(0, 3)])), (2, .inr (false, [(0, 0)]))], [], mgh19799)
def mgx19800 : aw_A := ms_o [(0, 8)] [(0, 4)] ar_t32 ar_t32 [(0, 180)] [(33, 33)] [(-1, 60)] [(0, 8)] [(0, 0)]
def mgh19801 : aw_H := [(81, mgx19800), (89, mgx494), (90, .inr (.inl (0, 240, [], []))), (92, .inr (.inl (0, 8, [], []))), (93, .inr (.inl (0, 8, [], []))), (94, mgx4446)]
def mgn6327_324 : Nat × aw_S := (46, [(0, .inl 81), (1, .inr (false, [(0, 3)])), (2, .inr (false, [(0, 0)]))], [], mgh19801)
def mgx19802 : aw_A := ms_o [(0, 8)] [(0, 4)] ar_t32 ar_t32 [(0, 180)] [(17, 17)] [(-1, 60)] [(0, 4)] [(0, 0)]
def mgh19803 : aw_H := [(81, mgx19802), (89, mgx494), (90, .inr (.inl (0, 240, [], []))), (92, .inr (.inl (0, 8, [], []))), (93, .inr (.inl (0, 8, [], []))), (94, mgx4446)]
def mgn6327_325 : Nat × aw_S := (46, [(0, .inl 81), (1, .inr (false, [(0, 3)])), (2, .inr (false, [(0, 0)]))], [], mgh19803)
def mgh19804 : aw_H := [(81, mgx11257), (89, mgx494), (90, .inr (.inl (0, 240, [], []))), (92, .inr (.inl (0, 8, [], []))), (93, .inr (.inl (0, 8, [], []))), (94, mgx4449)]
def mgn6327_326 : Nat × aw_S := (86, [(0, .inl 81), (1, .inr (false, [(0, 3)])), (2, .inr (false, [(1, 1)]))], [], mgh19804)
def mgx19805 : aw_A := ms_o [(0, 8)] [(0, 4)] ar_t32 ar_t32 [(0, 180)] [(21, 21)] [(8, 60)] [(1, 4)] [(1, 1)]
def mgh19806 : aw_H := [(81, mgx19805), (89, mgx494), (90, .inr (.inl (0, 240, [], []))), (92, .inr (.inl (0, 8, [], []))), (93, .inr (.inl (0, 8, [], []))), (94, mgx4449)]
def mgn6327_327 : Nat × aw_S := (46, [(0, .inl 81), (1, .inr (false, [(0, 3)])), (2, .inr (false, [(1, 1)]))], [], mgh19806)
def mgh19807 : aw_H := [(81, mgx13460), (89, mgx494), (90, .inr (.inl (0, 240, [], []))), (92, .inr (.inl (0, 8, [], []))), (93, .inr (.inl (0, 8, [], []))), (94, mgx6150)]
def mgn6327_328 : Nat × aw_S := (86, [(0, .inl 81), (1, .inr (false, [(0, 3)])), (2, .inr (false, [(1, 1)]))], [], mgh19807)
def mgx19808 : aw_A := ms_o [(0, 8)] [(0, 4)] ar_t32 ar_t32 [(0, 180)] [(20, 20)] [(8, 60)] [(1, 4)] [(1, 1)]
def mgh19809 : aw_H := [(81, mgx19808), (89, mgx494), (90, .inr (.inl (0, 240, [], []))), (92, .inr (.inl (0, 8, [], []))), (93, .inr (.inl (0, 8, [], []))), (94, mgx4449)]
def mgn6327_329 : Nat × aw_S := (46, [(0, .inl 81), (1, .inr (false, [(0, 3)])), (2, .inr (false, [(1, 1)]))], [], mgh19809)
def mgn6327_330 : Nat × aw_S := (46, [(0, .inl 81), (1, .inr (false, [(0, 3)])), (2, .inr (false, [(0, 0)]))], [], mgh19804)
def mgh19810 : aw_H := [(81, mgx13540), (89, mgx494), (90, .inr (.inl (0, 240, [], []))), (92, .inr (.inl (0, 8, [], []))), (93, .inr (.inl (0, 8, [], []))), (94, mgx6150)]
def mgn6327_331 : Nat × aw_S := (86, [(0, .inl 81), (1, .inr (false, [(0, 3)])), (2, .inr (false, [(1, 1)]))], [], mgh19810)
def mgx19811 : aw_A := ms_o [(0, 8)] [(0, 4)] ar_t32 ar_t32 [(0, 180)] [(24, 24)] [(11, 60)] [(1, 4)] [(2, 2)]
def mgh19812 : aw_H := [(81, mgx19811), (89, mgx494), (90, .inr (.inl (0, 240, [], []))), (92, .inr (.inl (0, 8, [], []))), (93, .inr (.inl (0, 8, [], []))), (94, mgx6150)]
def mgn6327_332 : Nat × aw_S := (46, [(0, .inl 81), (1, .inr (false, [(0, 3)])), (2, .inr (false, [(1, 1)]))], [], mgh19812)
def mgh19813 : aw_H := [(81, mgx13630), (89, mgx494), (90, .inr (.inl (0, 240, [], []))), (92, .inr (.inl (0, 8, [], []))), (93, .inr (.inl (0, 8, [], []))), (94, mgx6362)]
def mgn6327_333 : Nat × aw_S := (86, [(0, .inl 81), (1, .inr (false, [(0, 3)])), (2, .inr (false, [(1, 1)]))], [], mgh19813)
def mgx19814 : aw_A := ms_o [(0, 8)] [(0, 4)] ar_t32 ar_t32 [(0, 180)] [(23, 23)] [(11, 60)] [(1, 4)] [(2, 2)]
def mgh19815 : aw_H := [(81, mgx19814), (89, mgx494), (90, .inr (.inl (0, 240, [], []))), (92, .inr (.inl (0, 8, [], []))), (93, .inr (.inl (0, 8, [], []))), (94, mgx6150)]
def mgn6327_334 : Nat × aw_S := (46, [(0, .inl 81), (1, .inr (false, [(0, 3)])), (2, .inr (false, [(1, 1)]))], [], mgh19815)
def mgn6327_335 : Nat × aw_S := (46, [(0, .inl 81), (1, .inr (false, [(0, 3)])), (2, .inr (false, [(0, 0)]))], [], mgh19810)
def mgh19816 : aw_H := [(81, mgx13706), (89, mgx494), (90, .inr (.inl (0, 240, [], []))), (92, .inr (.inl (0, 8, [], []))), (93, .inr (.inl (0, 8, [], []))), (94, mgx6362)]
def mgn6327_336 : Nat × aw_S := (86, [(0, .inl 81), (1, .inr (false, [(0, 3)])), (2, .inr (false, [(1, 1)]))], [], mgh19816)
def mgx19817 : aw_A := ms_o [(0, 8)] [(0, 4)] ar_t32 ar_t32 [(0, 180)] [(26, 26)] [(14, 60)] [(1, 4)] [(3, 3)]
def mgh19818 : aw_H := [(81, mgx19817), (89, mgx494), (90, .inr (.inl (0, 240, [], []))), (92, .inr (.inl (0, 8, [], []))), (93, .inr (.inl (0, 8, [], []))), (94, mgx6362)]
def mgn6327_337 : Nat × aw_S := (46, [(0, .inl 81), (1, .inr (false, [(0, 3)])), (2, .inr (false, [(1, 1)]))], [], mgh19818)
def mgh19819 : aw_H := [(81, mgx13787), (89, mgx494), (90, .inr (.inl (0, 240, [], []))), (92, .inr (.inl (0, 8, [], []))), (93, .inr (.inl (0, 8, [], []))), (94, mgx6473)]
def mgn6327_338 : Nat × aw_S := (86, [(0, .inl 81), (1, .inr (false, [(0, 3)])), (2, .inr (false, [(1, 1)]))], [], mgh19819)
def mgx19820 : aw_A := ms_o [(0, 8)] [(0, 4)] ar_t32 ar_t32 [(0, 180)] [(29, 29)] [(17, 60)] [(1, 4)] [(4, 4)]
def mgh19821 : aw_H := [(81, mgx19820), (89, mgx494), (90, .inr (.inl (0, 240, [], []))), (92, .inr (.inl (0, 8, [], []))), (93, .inr (.inl (0, 8, [], []))), (94, mgx6473)]
def mgn6327_339 : Nat × aw_S := (46, [(0, .inl 81), (1, .inr (false, [(0, 3)])), (2, .inr (false, [(1, 1)]))], [], mgh19821)
def mgh19822 : aw_H := [(81, mgx13855), (89, mgx494), (90, .inr (.inl (0, 240, [], []))), (92, .inr (.inl (0, 8, [], []))), (93, .inr (.inl (0, 8, [], []))), (94, mgx6473)]
def mgn6327_340 : Nat × aw_S := (46, [(0, .inl 81), (1, .inr (false, [(0, 3)])), (2, .inr (false, [(0, 0)]))], [], mgh19822)
def mgn6327_341 : Nat × aw_S := (46, [(0, .inl 81), (1, .inr (false, [(0, 3)])), (2, .inr (false, [(0, 0)]))], [], mgh19816)
def mgx19823 : aw_A := ms_o [(0, 8)] [(0, 4)] ar_t32 ar_t32 [(0, 180)] [(27, 27)] [(14, 60)] [(1, 4)] [(3, 3)]
def mgh19824 : aw_H := [(81, mgx19823), (89, mgx494), (90, .inr (.inl (0, 240, [], []))), (92, .inr (.inl (0, 8, [], []))), (93, .inr (.inl (0, 8, [], []))), (94, mgx6362)]
def mgn6327_342 : Nat × aw_S := (46, [(0, .inl 81), (1, .inr (false, [(0, 3)])), (2, .inr (false, [(1, 1)]))], [], mgh19824)
def mgh19825 : aw_H := [(81, mgx13864), (89, mgx494), (90, .inr (.inl (0, 240, [], []))), (92, .inr (.inl (0, 8, [], []))), (93, .inr (.inl (0, 8, [], []))), (94, mgx6473)]
def mgn6327_343 : Nat × aw_S := (86, [(0, .inl 81), (1, .inr (false, [(0, 3)])), (2, .inr (false, [(1, 1)]))], [], mgh19825)
def mgx19826 : aw_A := ms_o [(0, 8)] [(0, 4)] ar_t32 ar_t32 [(0, 180)] [(30, 30)] [(17, 60)] [(1, 4)] [(4, 4)]
def mgh19827 : aw_H := [(81, mgx19826), (89, mgx494), (90, .inr (.inl (0, 240, [], []))), (92, .inr (.inl (0, 8, [], []))), (93, .inr (.inl (0, 8, [], []))), (94, mgx6473)]
def mgn6327_344 : Nat × aw_S := (46, [(0, .inl 81), (1, .inr (false, [(0, 3)])), (2, .inr (false, [(1, 1)]))], [], mgh19827)
def mgh19828 : aw_H := [(81, mgx13930), (89, mgx494), (90, .inr (.inl (0, 240, [], []))), (92, .inr (.inl (0, 8, [], []))), (93, .inr (.inl (0, 8, [], []))), (94, mgx6473)]
def mgn6327_345 : Nat × aw_S := (46, [(0, .inl 81), (1, .inr (false, [(0, 3)])), (2, .inr (false, [(0, 0)]))], [], mgh19828)
def mgn6327_346 : Nat × aw_S := (46, [(0, .inl 81), (1, .inr (false, [(0, 3)])), (2, .inr (false, [(0, 0)]))], [], mgh19813)
def mgn6327_347 : Nat × aw_S := (46, [(0, .inl 81), (1, .inr (false, [(0, 3)])), (2, .inr (false, [(0, 0)]))], [], mgh19807)
def mgn6327_348 : Nat × aw_S := (46, [(0, .inl 81), (1, .inr (false, [(0, 3)])), (2, .inr (false, [(0, 0)]))], [], mgh19700)
def mgx19829 : aw_A := ms_o [(0, 8)] [(0, 4)] ar_t32 ar_t32 [(0, 180)] [(24, 24)] [(8, 60)] [(1, 5)] [(1, 1)]
def mgh19830 : aw_H := [(81, mgx19829), (89, mgx494), (90, .inr (.inl (0, 240, [], []))), (92, .inr (.inl (0, 8, [], []))), (93, .inr (.inl (0, 8, [], []))), (94, mgx4449)]
def mgn6327_349 : Nat × aw_S := (46, [(0, .inl 81), (1, .inr (false, [(0, 3)])), (2, .inr (false, [(1, 1)]))], [], mgh19830)
def mgh19831 : aw_H := [(81, mgx13936), (89, mgx494), (90, .inr (.inl (0, 240, [], []))), (92, .inr (.inl (0, 8, [], []))), (93, .inr (.inl (0, 8, [], []))), (94, mgx6150)]
def mgn6327_350 : Nat × aw_S := (86, [(0, .inl 81), (1, .inr (false, [(0, 3)])), (2, .inr (false, [(1, 1)]))], [], mgh19831)
def mgx19832 : aw_A := ms_o [(0, 8)] [(0, 4)] ar_t32 ar_t32 [(0, 180)] [(29, 29)] [(8, 60)] [(1, 6)] [(1, 1)]
def mgh19833 : aw_H := [(81, mgx19832), (89, mgx494), (90, .inr (.inl (0, 240, [], []))), (92, .inr (.inl (0, 8, [], []))), (93, .inr (.inl (0, 8, [], []))), (94, mgx4449)]
def mgn6327_351 : Nat × aw_S := (46, [(0, .inl 81), (1, .inr (false, [(0, 3)])), (2, .inr (false, [(1, 1)]))], [], mgh19833)
def mgh19834 : aw_H := [(81, mgx14012), (89, mgx494), (90, .inr (.inl (0, 240, [], []))), (92, .inr (.inl (0, 8, [], []))), (93, .inr (.inl (0, 8, [], []))), (94, mgx6150)]
def mgn6327_352 : Nat × aw_S := (86, [(0, .inl 81), (1, .inr (false, [(0, 3)])), (2, .inr (false, [(1, 1)]))], [], mgh19834)
def mgx19835 : aw_A := ms_o [(0, 8)] [(0, 4)] ar_t32 ar_t32 [(0, 180)] [(36, 36)] [(8, 60)] [(1, 8)] [(1, 1)]
def mgh19836 : aw_H := [(81, mgx19835), (89, mgx494), (90, .inr (.inl (0, 240, [], []))), (92, .inr (.inl (0, 8, [], []))), (93, .inr (.inl (0, 8, [], []))), (94, mgx4449)]
def mgn6327_353 : Nat × aw_S := (46, [(0, .inl 81), (1, .inr (false, [(0, 3)])), (2, .inr (false, [(1, 1)]))], [], mgh19836)
def mgh19837 : aw_H := [(81, mgx14081), (89, mgx494), (90, .inr (.inl (0, 240, [], []))), (92, .inr (.inl (0, 8, [], []))), (93, .inr (.inl (0, 8, [], []))), (94, mgx6150)]
def mgn6327_354 : Nat × aw_S := (86, [(0, .inl 81), (1, .inr (false, [(0, 3)])), (2, .inr (false, [(1, 1)]))], [], mgh19837)
def mgx19838 : aw_A := ms_o [(0, 8)] [(0, 4)] ar_t32 ar_t32 [(0, 180)] [(26, 26)] [(8, 60)] [(1, 5)] [(1, 1)]
def mgh19839 : aw_H := [(81, mgx19838), (89, mgx494), (90, .inr (.inl (0, 240, [], []))), (92, .inr (.inl (0, 8, [], []))), (93, .inr (.inl (0, 8, [], []))), (94, mgx4449)]
def mgn6327_355 : Nat × aw_S := (46, [(0, .inl 81), (1, .inr (false, [(0, 3)])), (2, .inr (false, [(1, 1)]))], [], mgh19839)
def mgh19840 : aw_H := [(81, mgx14137), (89, mgx494), (90, .inr (.inl (0, 240, [], []))), (92, .inr (.inl (0, 8, [], []))), (93, .inr (.inl (0, 8, [], []))), (94, mgx6150)]
def mgn6327_356 : Nat × aw_S := (86, [(0, .inl 81), (1, .inr (false, [(0, 3)])), (2, .inr (false, [(1, 1)]))], [], mgh19840)
def mgx19841 : aw_A := ms_o [(0, 8)] [(0, 4)] ar_t32 ar_t32 [(0, 180)] [(33, 33)] [(8, 60)] [(1, 7)] [(1, 1)]
def mgh19842 : aw_H := [(81, mgx19841), (89, mgx494), (90, .inr (.inl (0, 240, [], []))), (92, .inr (.inl (0, 8, [], []))), (93, .inr (.inl (0, 8, [], []))), (94, mgx4449)]
def mgn6327_357 : Nat × aw_S := (46, [(0, .inl 81), (1, .inr (false, [(0, 3)])), (2, .inr (false, [(1, 1)]))], [], mgh19842)
def mgh19843 : aw_H := [(81, mgx14210), (89, mgx494), (90, .inr (.inl (0, 240, [], []))), (92, .inr (.inl (0, 8, [], []))), (93, .inr (.inl (0, 8, [], []))), (94, mgx6150)]
def mgn6327_358 : Nat × aw_S := (86, [(0, .inl 81), (1, .inr (false, [(0, 3)])), (2, .inr (false, [(1, 1)]))], [], mgh19843)
def mgx19844 : aw_A := ms_o [(0, 8)] [(0, 4)] ar_t32 ar_t32 [(0, 180)] [(28, 28)] [(8, 60)] [(1, 6)] [(1, 1)]
def mgh19845 : aw_H := [(81, mgx19844), (89, mgx494), (90, .inr (.inl (0, 240, [], []))), (92, .inr (.inl (0, 8, [], []))), (93, .inr (.inl (0, 8, [], []))), (94, mgx4449)]
def mgn6327_359 : Nat × aw_S := (46, [(0, .inl 81), (1, .inr (false, [(0, 3)])), (2, .inr (false, [(1, 1)]))], [], mgh19845)
def mgh19846 : aw_H := [(81, mgx14266), (89, mgx494), (90, .inr (.inl (0, 240, [], []))), (92, .inr (.inl (0, 8, [], []))), (93, .inr (.inl (0, 8, [], []))), (94, mgx6150)]
def mgn6327_360 : Nat × aw_S := (86, [(0, .inl 81), (1, .inr (false, [(0, 3)])), (2, .inr (false, [(1, 1)]))], [], mgh19846)
def mgx19847 : aw_A := ms_o [(0, 8)] [(0, 4)] ar_t32 ar_t32 [(0, 180)] [(32, 32)] [(8, 60)] [(1, 7)] [(1, 1)]
def mgh19848 : aw_H := [(81, mgx19847), (89, mgx494), (90, .inr (.inl (0, 240, [], []))), (92, .inr (.inl (0, 8, [], []))), (93, .inr (.inl (0, 8, [], []))), (94, mgx4449)]
def mgn6327_361 : Nat × aw_S := (46, [(0, .inl 81), (1, .inr (false, [(0, 3)])), (2, .inr (false, [(1, 1)]))], [], mgh19848)
def mgh19849 : aw_H := [(81, mgx14332), (89, mgx494), (90, .inr (.inl (0, 240, [], []))), (92, .inr (.inl (0, 8, [], []))), (93, .inr (.inl (0, 8, [], []))), (94, mgx6150)]
def mgn6327_362 : Nat × aw_S := (86, [(0, .inl 81), (1, .inr (false, [(0, 3)])), (2, .inr (false, [(1, 1)]))], [], mgh19849)
def mgx19850 : aw_A := ms_o [(0, 8)] [(0, 4)] ar_t32 ar_t32 [(0, 180)] [(31, 31)] [(8, 60)] [(1, 6)] [(1, 1)]
def mgh19851 : aw_H := [(81, mgx19850), (89, mgx494), (90, .inr (.inl (0, 240, [], []))), (92, .inr (.inl (0, 8, [], []))), (93, .inr (.inl (0, 8, [], []))), (94, mgx4449)]
def mgn6327_363 : Nat × aw_S := (46, [(0, .inl 81), (1, .inr (false, [(0, 3)])), (2, .inr (false, [(1, 1)]))], [], mgh19851)
def mgn6327_364 : Nat × aw_S := (46, [(0, .inl 81), (1, .inr (false, [(0, 3)])), (2, .inr (false, [(0, 0)]))], [], mgh19784)
def mgh19852 : aw_H := [(81, mgx14396), (89, mgx494), (90, .inr (.inl (0, 240, [], []))), (92, .inr (.inl (0, 8, [], []))), (93, .inr (.inl (0, 8, [], []))), (94, mgx6150)]
def mgn6327_365 : Nat × aw_S := (86, [(0, .inl 81), (1, .inr (false, [(0, 3)])), (2, .inr (false, [(1, 1)]))], [], mgh19852)
def mgx19853 : aw_A := ms_o [(0, 8)] [(0, 4)] ar_t32 ar_t32 [(0, 180)] [(30, 30)] [(8, 60)] [(1, 6)] [(1, 1)]
def mgh19854 : aw_H := [(81, mgx19853), (89, mgx494), (90, .inr (.inl (0, 240, [], []))), (92, .inr (.inl (0, 8, [], []))), (93, .inr (.inl (0, 8, [], []))), (94, mgx4449)]
def mgn6327_366 : Nat × aw_S := (46, [(0, .inl 81), (1, .inr (false, [(0, 3)])), (2, .inr (false, [(1, 1)]))], [], mgh19854)
def mgh19855 : aw_H := [(81, mgx14458), (89, mgx494), (90, .inr (.inl (0, 240, [], []))), (92, .inr (.inl (0, 8, [], []))), (93, .inr (.inl (0, 8, [], []))), (94, mgx6150)]
def mgn6327_367 : Nat × aw_S := (86, [(0, .inl 81), (1, .inr (false, [(0, 3)])), (2, .inr (false, [(1, 1)]))], [], mgh19855)
def mgn6327_368 : Nat × aw_S := (46, [(0, .inl 81), (1, .inr (false, [(0, 3)])), (2, .inr (false, [(0, 0)]))], [], mgh19775)
def mgn6327_369 : Nat × aw_S := (46, [(0, .inl 81), (1, .inr (false, [(0, 3)])), (2, .inr (false, [(0, 0)]))], [], mgh19752)
def mgn6327_370 : Nat × aw_S := (46, [(0, .inl 81), (1, .inr (false, [(0, 3)])), (2, .inr (false, [(0, 0)]))], [], mgh19743)
def mgx19856 : aw_A := ms_o [(0, 8)] [(0, 4)] ar_t32 ar_t32 [(0, 180)] [(23, 23)] [(8, 60)] [(1, 4)] [(1, 1)]
def mgh19857 : aw_H := [(81, mgx19856), (89, mgx494), (90, .inr (.inl (0, 240, [], []))), (92, .inr (.inl (0, 8, [], []))), (93, .inr (.inl (0, 8, [], []))), (94, mgx4449)]
def mgn6327_371 : Nat × aw_S := (46, [(0, .inl 81), (1, .inr (false, [(0, 3)])), (2, .inr (false, [(1, 1)]))], [], mgh19857)
def mgh19858 : aw_H := [(81, mgx13623), (89, mgx494), (90, .inr (.inl (0, 240, [], []))), (92, .inr (.inl (0, 8, [], []))), (93, .inr (.inl (0, 8, [], []))), (94, mgx6150)]
def mgn6327_372 : Nat × aw_S := (86, [(0, .inl 81), (1, .inr (false, [(0, 3)])), (2, .inr (false, [(1, 1)]))], [], mgh19858)
def mgx19859 : aw_A := ms_o [(0, 8)] [(0, 4)] ar_t32 ar_t32 [(0, 180)] [(27, 27)] [(8, 60)] [(1, 5)] [(1, 1)]
def mgh19860 : aw_H := [(81, mgx19859), (89, mgx494), (90, .inr (.inl (0, 240, [], []))), (92, .inr (.inl (0, 8, [], []))), (93, .inr (.inl (0, 8, [], []))), (94, mgx4449)]
def mgn6327_373 : Nat × aw_S := (46, [(0, .inl 81), (1, .inr (false, [(0, 3)])), (2, .inr (false, [(1, 1)]))], [], mgh19860)
def mgh19861 : aw_H := [(81, mgx14603), (89, mgx494), (90, .inr (.inl (0, 240, [], []))), (92, .inr (.inl (0, 8, [], []))), (93, .inr (.inl (0, 8, [], []))), (94, mgx6150)]
def mgn6327_374 : Nat × aw_S := (86, [(0, .inl 81), (1, .inr (false, [(0, 3)])), (2, .inr (false, [(1, 1)]))], [], mgh19861)
def mgn6327_375 : Nat × aw_S := (46, [(0, .inl 81), (1, .inr (false, [(0, 3)])), (2, .inr (false, [(0, 0)]))], [], mgh19747)
def mgn6327_376 : Nat × aw_S := (46, [(0, .inl 81), (1, .inr (false, [(0, 3)])), (2, .inr (false, [(0, 0)]))], [], mgh19730)
def mgx19862 : aw_A := ms_o [(0, 8)] [(0, 4)] ar_t32 ar_t32 [(0, 180)] [(22, 22)] [(8, 60)] [(1, 4)] [(1, 1)]
def mgh19863 : aw_H := [(81, mgx19862), (89, mgx494), (90, .inr (.inl (0, 240, [], []))), (92, .inr (.inl (0, 8, [], []))), (93, .inr (.inl (0, 8, [], []))), (94, mgx4449)]
def mgn6327_377 : Nat × aw_S := (46, [(0, .inl 81), (1, .inr (false, [(0, 3)])), (2, .inr (false, [(1, 1)]))], [], mgh19863)
def mgn6327_378 : Nat × aw_S := (46, [(0, .inl 81), (1, .inr (false, [(0, 3)])), (2, .inr (false, [(0, 0)]))], [], mgh19726)
def mgh19864 : aw_H := [(81, mgx13621), (89, mgx494), (90, .inr (.inl (0, 240, [], []))), (92, .inr (.inl (0, 8, [], []))), (93, .inr (.inl (0, 8, [], []))), (94, mgx6150)]
def mgn6327_379 : Nat × aw_S := (86, [(0, .inl 81), (1, .inr (false, [(0, 3)])), (2, .inr (false, [(1, 1)]))], [], mgh19864)
def mgx19865 : aw_A := ms_o [(0, 8)] [(0, 4)] ar_t32 ar_t32 [(0, 180)] [(26, 26)] [(11, 60)] [(1, 4)] [(2, 2)]
def mgh19866 : aw_H := [(81, mgx19865), (89, mgx494), (90, .inr (.inl (0, 240, [], []))), (92, .inr (.inl (0, 8, [], []))), (93, .inr (.inl (0, 8, [], []))), (94, mgx6150)]
def mgn6327_380 : Nat × aw_S := (46, [(0, .inl 81), (1, .inr (false, [(0, 3)])), (2, .inr (false, [(1, 1)]))], [], mgh19866)
def mgh19867 : aw_H := [(81, mgx13783), (89, mgx494), (90, .inr (.inl (0, 240, [], []))), (92, .inr (.inl (0, 8, [], []))), (93, .inr (.inl (0, 8, [], []))), (94, mgx6362)]
def mgn6327_381 : Nat × aw_S := (86, [(0, .inl 81), (1, .inr (false, [(0, 3)])), (2, .inr (false, [(1, 1)]))], [], mgh19867)
def mgx19868 : aw_A := ms_o [(0, 8)] [(0, 4)] ar_t32 ar_t32 [(0, 180)] [(27, 27)] [(11, 60)] [(1, 5)] [(2, 2)]
def mgh19869 : aw_H := [(81, mgx19868), (89, mgx494), (90, .inr (.inl (0, 240, [], []))), (92, .inr (.inl (0, 8, [], []))), (93, .inr (.inl (0, 8, [], []))), (94, mgx6150)]
def mgn6327_382 : Nat × aw_S := (46, [(0, .inl 81), (1, .inr (false, [(0, 3)])), (2, .inr (false, [(1, 1)]))], [], mgh19869)
def mgh19870 : aw_H := [(81, mgx14823), (89, mgx494), (90, .inr (.inl (0, 240, [], []))), (92, .inr (.inl (0, 8, [], []))), (93, .inr (.inl (0, 8, [], []))), (94, mgx6362)]
def mgn6327_383 : Nat × aw_S := (86, [(0, .inl 81), (1, .inr (false, [(0, 3)])), (2, .inr (false, [(1, 1)]))], [], mgh19870)
def mgx19871 : aw_A := ms_o [(0, 8)] [(0, 4)] ar_t32 ar_t32 [(0, 180)] [(25, 25)] [(11, 60)] [(1, 4)] [(2, 2)]
def mgh19872 : aw_H := [(81, mgx19871), (89, mgx494), (90, .inr (.inl (0, 240, [], []))), (92, .inr (.inl (0, 8, [], []))), (93, .inr (.inl (0, 8, [], []))), (94, mgx6150)]
def mgn6327_384 : Nat × aw_S := (46, [(0, .inl 81), (1, .inr (false, [(0, 3)])), (2, .inr (false, [(1, 1)]))], [], mgh19872)
def mgh19873 : aw_H := [(81, mgx13781), (89, mgx494), (90, .inr (.inl (0, 240, [], []))), (92, .inr (.inl (0, 8, [], []))), (93, .inr (.inl (0, 8, [], []))), (94, mgx6362)]
def mgn6327_385 : Nat × aw_S := (86, [(0, .inl 81), (1, .inr (false, [(0, 3)])), (2, .inr (false, [(1, 1)]))], [], mgh19873)
def mgx19874 : aw_A := ms_o [(0, 8)] [(0, 4)] ar_t32 ar_t32 [(0, 180)] [(30, 30)] [(14, 60)] [(1, 5)] [(3, 3)]
def mgh19875 : aw_H := [(81, mgx19874), (89, mgx494), (90, .inr (.inl (0, 240, [], []))), (92, .inr (.inl (0, 8, [], []))), (93, .inr (.inl (0, 8, [], []))), (94, mgx6362)]
def mgn6327_386 : Nat × aw_S := (46, [(0, .inl 81), (1, .inr (false, [(0, 3)])), (2, .inr (false, [(1, 1)]))], [], mgh19875)
def mgh19876 : aw_H := [(81, mgx14968), (89, mgx494), (90, .inr (.inl (0, 240, [], []))), (92, .inr (.inl (0, 8, [], []))), (93, .inr (.inl (0, 8, [], []))), (94, mgx6473)]
def mgn6327_387 : Nat × aw_S := (86, [(0, .inl 81), (1, .inr (false, [(0, 3)])), (2, .inr (false, [(1, 1)]))], [], mgh19876)
def mgx19877 : aw_A := ms_o [(0, 8)] [(0, 4)] ar_t32 ar_t32 [(0, 180)] [(29, 29)] [(14, 60)] [(1, 4)] [(3, 3)]
def mgh19878 : aw_H := [(81, mgx19877), (89, mgx494), (90, .inr (.inl (0, 240, [], []))), (92, .inr (.inl (0, 8, [], []))), (93, .inr (.inl (0, 8, [], []))), (94, mgx6362)]
def mgn6327_388 : Nat × aw_S := (46, [(0, .inl 81), (1, .inr (false, [(0, 3)])), (2, .inr (false, [(1, 1)]))], [], mgh19878)
def mgh19879 : aw_H := [(81, mgx15038), (89, mgx494), (90, .inr (.inl (0, 240, [], []))), (92, .inr (.inl (0, 8, [], []))), (93, .inr (.inl (0, 8, [], []))), (94, mgx6473)]
def mgn6327_389 : Nat × aw_S := (86, [(0, .inl 81), (1, .inr (false, [(0, 3)])), (2, .inr (false, [(1, 1)]))], [], mgh19879)
def mgx19880 : aw_A := ms_o [(0, 8)] [(0, 4)] ar_t32 ar_t32 [(0, 180)] [(28, 28)] [(14, 60)] [(1, 4)] [(3, 3)]
def mgh19881 : aw_H := [(81, mgx19880), (89, mgx494), (90, .inr (.inl (0, 240, [], []))), (92, .inr (.inl (0, 8, [], []))), (93, .inr (.inl (0, 8, [], []))), (94, mgx6362)]
def mgn6327_390 : Nat × aw_S := (46, [(0, .inl 81), (1, .inr (false, [(0, 3)])), (2, .inr (false, [(1, 1)]))], [], mgh19881)
def mgn6327_391 : Nat × aw_S := (46, [(0, .inl 81), (1, .inr (false, [(0, 3)])), (2, .inr (false, [(0, 0)]))], [], mgh19873)
def mgn6327_392 : Nat × aw_S := (46, [(0, .inl 81), (1, .inr (false, [(0, 3)])), (2, .inr (false, [(0, 0)]))], [], mgh19867)
def mgn6327_393 : Nat × aw_S := (46, [(0, .inl 81), (1, .inr (false, [(0, 3)])), (2, .inr (false, [(0, 0)]))], [], mgh19870)
def mgh19882 : aw_H := [(81, mgx15104), (89, mgx494), (90, .inr (.inl (0, 240, [], []))), (92, .inr (.inl (0, 8, [], []))), (93, .inr (.inl (0, 8, [], []))), (94, mgx6473)]
def mgn6327_394 : Nat × aw_S := (86, [(0, .inl 81), (1, .inr (false, [(0, 3)])), (2, .inr (false, [(1, 1)]))], [], mgh19882)
def mgx19883 : aw_A := ms_o [(0, 8)] [(0, 4)] ar_t32 ar_t32 [(0, 180)] [(33, 33)] [(17, 60)] [(1, 5)] [(4, 4)]
def mgh19884 : aw_H := [(81, mgx19883), (89, mgx494), (90, .inr (.inl (0, 240, [], []))), (92, .inr (.inl (0, 8, [], []))), (93, .inr (.inl (0, 8, [], []))), (94, mgx6473)]
def mgn6327_395 : Nat × aw_S := (46, [(0, .inl 81), (1, .inr (false, [(0, 3)])), (2, .inr (false, [(1, 1)]))], [], mgh19884)
def mgh19885 : aw_H := [(81, mgx15167), (89, mgx494), (90, .inr (.inl (0, 240, [], []))), (92, .inr (.inl (0, 8, [], []))), (93, .inr (.inl (0, 8, [], []))), (94, mgx6473)]
def mgn6327_396 : Nat × aw_S := (46, [(0, .inl 81), (1, .inr (false, [(0, 3)])), (2, .inr (false, [(0, 0)]))], [], mgh19885)
def mgx19886 : aw_A := ms_o [(0, 8)] [(0, 4)] ar_t32 ar_t32 [(0, 180)] [(31, 31)] [(17, 60)] [(1, 4)] [(4, 4)]
def mgh19887 : aw_H := [(81, mgx19886), (89, mgx494), (90, .inr (.inl (0, 240, [], []))), (92, .inr (.inl (0, 8, [], []))), (93, .inr (.inl (0, 8, [], []))), (94, mgx6473)]
def mgn6327_397 : Nat × aw_S := (46, [(0, .inl 81), (1, .inr (false, [(0, 3)])), (2, .inr (false, [(1, 1)]))], [], mgh19887)
def mgh19888 : aw_H := [(81, mgx15170), (89, mgx494), (90, .inr (.inl (0, 240, [], []))), (92, .inr (.inl (0, 8, [], []))), (93, .inr (.inl (0, 8, [], []))), (94, mgx6473)]
def mgn6327_398 : Nat × aw_S := (46, [(0, .inl 81), (1, .inr (false, [(0, 3)])), (2, .inr (false, [(0, 0)]))], [], mgh19888)
def mgx19889 : aw_A := ms_o [(0, 8)] [(0, 4)] ar_t32 ar_t32 [(0, 180)] [(32, 32)] [(17, 60)] [(1, 4)] [(4, 4)]
def mgh19890 : aw_H := [(81, mgx19889), (89, mgx494), (90, .inr (.inl (0, 240, [], []))), (92, .inr (.inl (0, 8, [], []))), (93, .inr (.inl (0, 8, [], []))), (94, mgx6473)]
def mgn6327_399 : Nat × aw_S := (46, [(0, .inl 81), (1, .inr (false, [(0, 3)])), (2, .inr (false, [(1, 1)]))], [], mgh19890)
def mgh19891 : aw_H := [(81, mgx15173), (89, mgx494), (90, .inr (.inl (0, 240, [], []))), (92, .inr (.inl (0, 8, [], []))), (93, .inr (.inl (0, 8, [], []))), (94, mgx6473)]
def mgn6327_400 : Nat × aw_S := (46, [(0, .inl 81), (1, .inr (false, [(0, 3)])), (2, .inr (false, [(0, 0)]))], [], mgh19891)
def mgn6327_401 : Nat × aw_S := (46, [(0, .inl 81), (1, .inr (false, [(0, 3)])), (2, .inr (false, [(0, 0)]))], [], mgh19864)
def mgn6327_402 : Nat × aw_S := (46, [(0, .inl 81), (1, .inr (false, [(0, 3)])), (2, .inr (false, [(0, 0)]))], [], mgh19858)
def mgn6327_403 : Nat × aw_S := (46, [(0, .inl 81), (1, .inr (false, [(0, 3)])), (2, .inr (false, [(0, 0)]))], [], mgh19831)
def mgn6327_404 : Nat × aw_S := (46, [(0, .inl 81), (1, .inr (false, [(0, 3)])), (2, .inr (false, [(0, 0)]))], [], mgh19704)
def mgn6327_405 : Nat × aw_S := (46, [(0, .inl 81), (1, .inr (false, [(0, 3)])), (2, .inr (false, [(0, 0)]))], [], mgh19708)
def mgx19892 : aw_A := ms_o [(0, 8)] [(0, 4)] ar_t32 ar_t32 [(0, 180)] [(34, 34)] [(8, 60)] [(1, 7)] [(1, 1)]
def mgh19893 : aw_H := [(81, mgx19892), (89, mgx494), (90, .inr (.inl (0, 240, [], []))), (92, .inr (.inl (0, 8, [], []))), (93, .inr (.inl (0, 8, [], []))), (94, mgx4449)]
def mgn6327_406 : Nat × aw_S := (46, [(0, .inl 81), (1, .inr (false, [(0, 3)])), (2, .inr (false, [(1, 1)]))], [], mgh19893)
def mgh19894 : aw_H := [(81, mgx15182), (89, mgx494), (90, .inr (.inl (0, 240, [], []))), (92, .inr (.inl (0, 8, [], []))), (93, .inr (.inl (0, 8, [], []))), (94, mgx6150)]
def mgn6327_407 : Nat × aw_S := (86, [(0, .inl 81), (1, .inr (false, [(0, 3)])), (2, .inr (false, [(1, 1)]))], [], mgh19894)
def mgn6327_408 : Nat × aw_S := (46, [(0, .inl 81), (1, .inr (false, [(0, 3)])), (2, .inr (false, [(0, 0)]))], [], mgh19757)
def mgx19895 : aw_A := ms_o [(0, 8)] [(0, 4)] ar_t32 ar_t32 [(0, 180)] [(35, 35)] [(8, 60)] [(1, 7)] [(1, 1)]
def mgh19896 : aw_H := [(81, mgx19895), (89, mgx494), (90, .inr (.inl (0, 240, [], []))), (92, .inr (.inl (0, 8, [], []))), (93, .inr (.inl (0, 8, [], []))), (94, mgx4449)]
def mgn6327_409 : Nat × aw_S := (46, [(0, .inl 81), (1, .inr (false, [(0, 3)])), (2, .inr (false, [(1, 1)]))], [], mgh19896)
def mgh19897 : aw_H := [(81, mgx15240), (89, mgx494), (90, .inr (.inl (0, 240, [], []))), (92, .inr (.inl (0, 8, [], []))), (93, .inr (.inl (0, 8, [], []))), (94, mgx6150)]
def mgn6327_410 : Nat × aw_S := (86, [(0, .inl 81), (1, .inr (false, [(0, 3)])), (2, .inr (false, [(1, 1)]))], [], mgh19897)
def mgn6327_411 : Nat × aw_S := (46, [(0, .inl 81), (1, .inr (false, [(0, 3)])), (2, .inr (false, [(0, 0)]))], [], mgh19768)
def mgn6327_412 : Nat × aw_S := (46, [(0, .inl 81), (1, .inr (false, [(0, 3)])), (2, .inr (false, [(0, 0)]))], [], mgh19772)
def mgx19898 : aw_A := ms_o [(0, 8)] [(0, 4)] ar_t32 ar_t32 [(0, 180)] [(25, 25)] [(8, 60)] [(1, 5)] [(1, 1)]
def mgh19899 : aw_H := [(81, mgx19898), (89, mgx494), (90, .inr (.inl (0, 240, [], []))), (92, .inr (.inl (0, 8, [], []))), (93, .inr (.inl (0, 8, [], []))), (94, mgx4449)]
def mgn6327_413 : Nat × aw_S := (46, [(0, .inl 81), (1, .inr (false, [(0, 3)])), (2, .inr (false, [(1, 1)]))], [], mgh19899)
def mgn6327_414 : Nat × aw_S := (46, [(0, .inl 81), (1, .inr (false, [(0, 3)])), (2, .inr (false, [(0, 0)]))], [], mgh19718)
def mgn6327_415 : Nat × aw_S := (46, [(0, .inl 81), (1, .inr (false, [(0, 3)])), (2, .inr (false, [(0, 0)]))], [], mgh19736)
def mgh19900 : aw_H := [(81, mgx14819), (89, mgx494), (90, .inr (.inl (0, 240, [], []))), (92, .inr (.inl (0, 8, [], []))), (93, .inr (.inl (0, 8, [], []))), (94, mgx6150)]
def mgn6327_416 : Nat × aw_S := (86, [(0, .inl 81), (1, .inr (false, [(0, 3)])), (2, .inr (false, [(1, 1)]))], [], mgh19900)
def mgx19901 : aw_A := ms_o [(0, 8)] [(0, 4)] ar_t32 ar_t32 [(0, 180)] [(37, 37)] [(11, 60)] [(1, 7)] [(2, 2)]
def mgh19902 : aw_H := [(81, mgx19901), (89, mgx494), (90, .inr (.inl (0, 240, [], []))), (92, .inr (.inl (0, 8, [], []))), (93, .inr (.inl (0, 8, [], []))), (94, mgx6150)]
def mgn6327_417 : Nat × aw_S := (46, [(0, .inl 81), (1, .inr (false, [(0, 3)])), (2, .inr (false, [(1, 1)]))], [], mgh19902)
def mgh19903 : aw_H := [(81, mgx15366), (89, mgx494), (90, .inr (.inl (0, 240, [], []))), (92, .inr (.inl (0, 8, [], []))), (93, .inr (.inl (0, 8, [], []))), (94, mgx6362)]
def mgn6327_418 : Nat × aw_S := (86, [(0, .inl 81), (1, .inr (false, [(0, 3)])), (2, .inr (false, [(1, 1)]))], [], mgh19903)
def mgx19904 : aw_A := ms_o [(0, 8)] [(0, 4)] ar_t32 ar_t32 [(0, 180)] [(38, 38)] [(11, 60)] [(1, 7)] [(2, 2)]
def mgh19905 : aw_H := [(81, mgx19904), (89, mgx494), (90, .inr (.inl (0, 240, [], []))), (92, .inr (.inl (0, 8, [], []))), (93, .inr (.inl (0, 8, [], []))), (94, mgx6150)]
def mgn6327_419 : Nat × aw_S := (46, [(0, .inl 81), (1, .inr (false, [(0, 3)])), (2, .inr (false, [(1, 1)]))], [], mgh19905)
def mgh19906 : aw_H := [(81, mgx15418), (89, mgx494), (90, .inr (.inl (0, 240, [], []))), (92, .inr (.inl (0, 8, [], []))), (93, .inr (.inl (0, 8, [], []))), (94, mgx6362)]
def mgn6327_420 : Nat × aw_S := (86, [(0, .inl 81), (1, .inr (false, [(0, 3)])), (2, .inr (false, [(1, 1)]))], [], mgh19906)
def mgx19907 : aw_A := ms_o [(0, 8)] [(0, 4)] ar_t32 ar_t32 [(0, 180)] [(33, 33)] [(11, 60)] [(1, 6)] [(2, 2)]
def mgh19908 : aw_H := [(81, mgx19907), (89, mgx494), (90, .inr (.inl (0, 240, [], []))), (92, .inr (.inl (0, 8, [], []))), (93, .inr (.inl (0, 8, [], []))), (94, mgx6150)]
def mgn6327_421 : Nat × aw_S := (46, [(0, .inl 81), (1, .inr (false, [(0, 3)])), (2, .inr (false, [(1, 1)]))], [], mgh19908)
def mgh19909 : aw_H := [(81, mgx15470), (89, mgx494), (90, .inr (.inl (0, 240, [], []))), (92, .inr (.inl (0, 8, [], []))), (93, .inr (.inl (0, 8, [], []))), (94, mgx6362)]
def mgn6327_422 : Nat × aw_S := (86, [(0, .inl 81), (1, .inr (false, [(0, 3)])), (2, .inr (false, [(1, 1)]))], [], mgh19909)
def mgx19910 : aw_A := ms_o [(0, 8)] [(0, 4)] ar_t32 ar_t32 [(0, 180)] [(35, 35)] [(11, 60)] [(1, 7)] [(2, 2)]
def mgh19911 : aw_H := [(81, mgx19910), (89, mgx494), (90, .inr (.inl (0, 240, [], []))), (92, .inr (.inl (0, 8, [], []))), (93, .inr (.inl (0, 8, [], []))), (94, mgx6150)]
def mgn6327_423 : Nat × aw_S := (46, [(0, .inl 81), (1, .inr (false, [(0, 3)])), (2, .inr (false, [(1, 1)]))], [], mgh19911)
def mgh19912 : aw_H := [(81, mgx15527), (89, mgx494), (90, .inr (.inl (0, 240, [], []))), (92, .inr (.inl (0, 8, [], []))), (93, .inr (.inl (0, 8, [], []))), (94, mgx6362)]
def mgn6327_424 : Nat × aw_S := (86, [(0, .inl 81), (1, .inr (false, [(0, 3)])), (2, .inr (false, [(1, 1)]))], [], mgh19912)
def mgx19913 : aw_A := ms_o [(0, 8)] [(0, 4)] ar_t32 ar_t32 [(0, 180)] [(34, 34)] [(11, 60)] [(1, 6)] [(2, 2)]
def mgh19914 : aw_H := [(81, mgx19913), (89, mgx494), (90, .inr (.inl (0, 240, [], []))), (92, .inr (.inl (0, 8, [], []))), (93, .inr (.inl (0, 8, [], []))), (94, mgx6150)]
def mgn6327_425 : Nat × aw_S := (46, [(0, .inl 81), (1, .inr (false, [(0, 3)])), (2, .inr (false, [(1, 1)]))], [], mgh19914)
def mgh19915 : aw_H := [(81, mgx15582), (89, mgx494), (90, .inr (.inl (0, 240, [], []))), (92, .inr (.inl (0, 8, [], []))), (93, .inr (.inl (0, 8, [], []))), (94, mgx6362)]
def mgn6327_426 : Nat × aw_S := (86, [(0, .inl 81), (1, .inr (false, [(0, 3)])), (2, .inr (false, [(1, 1)]))], [], mgh19915)
def mgn6327_427 : Nat × aw_S := (46, [(0, .inl 81), (1, .inr (false, [(0, 3)])), (2, .inr (false, [(0, 0)]))], [], mgh19849)
def mgx19916 : aw_A := ms_o [(0, 8)] [(0, 4)] ar_t32 ar_t32 [(0, 180)] [(36, 36)] [(11, 60)] [(1, 7)] [(2, 2)]
def mgh19917 : aw_H := [(81, mgx19916), (89, mgx494), (90, .inr (.inl (0, 240, [], []))), (92, .inr (.inl (0, 8, [], []))), (93, .inr (.inl (0, 8, [], []))), (94, mgx6150)]
def mgn6327_428 : Nat × aw_S := (46, [(0, .inl 81), (1, .inr (false, [(0, 3)])), (2, .inr (false, [(1, 1)]))], [], mgh19917)
def mgn6327_429 : Nat × aw_S := (46, [(0, .inl 81), (1, .inr (false, [(0, 3)])), (2, .inr (false, [(0, 0)]))], [], mgh19894)
def mgn6327_430 : Nat × aw_S := (46, [(0, .inl 81), (1, .inr (false, [(0, 3)])), (2, .inr (false, [(0, 0)]))], [], mgh19843)
def mgn6327_431 : Nat × aw_S := (46, [(0, .inl 81), (1, .inr (false, [(0, 3)])), (2, .inr (false, [(0, 0)]))], [], mgh19897)
def mgh19918 : aw_H := [(81, mgx15637), (89, mgx494), (90, .inr (.inl (0, 240, [], []))), (92, .inr (.inl (0, 8, [], []))), (93, .inr (.inl (0, 8, [], []))), (94, mgx6362)]
def mgn6327_432 : Nat × aw_S := (86, [(0, .inl 81), (1, .inr (false, [(0, 3)])), (2, .inr (false, [(1, 1)]))], [], mgh19918)
def mgx19919 : aw_A := ms_o [(0, 8)] [(0, 4)] ar_t32 ar_t32 [(0, 180)] [(28, 28)] [(11, 60)] [(1, 5)] [(2, 2)]
def mgh19920 : aw_H := [(81, mgx19919), (89, mgx494), (90, .inr (.inl (0, 240, [], []))), (92, .inr (.inl (0, 8, [], []))), (93, .inr (.inl (0, 8, [], []))), (94, mgx6150)]
def mgn6327_433 : Nat × aw_S := (46, [(0, .inl 81), (1, .inr (false, [(0, 3)])), (2, .inr (false, [(1, 1)]))], [], mgh19920)
def mgh19921 : aw_H := [(81, mgx14959), (89, mgx494), (90, .inr (.inl (0, 240, [], []))), (92, .inr (.inl (0, 8, [], []))), (93, .inr (.inl (0, 8, [], []))), (94, mgx6362)]
def mgn6327_434 : Nat × aw_S := (86, [(0, .inl 81), (1, .inr (false, [(0, 3)])), (2, .inr (false, [(1, 1)]))], [], mgh19921)
def mgx19922 : aw_A := ms_o [(0, 8)] [(0, 4)] ar_t32 ar_t32 [(0, 180)] [(31, 31)] [(14, 60)] [(1, 5)] [(3, 3)]
def mgh19923 : aw_H := [(81, mgx19922), (89, mgx494), (90, .inr (.inl (0, 240, [], []))), (92, .inr (.inl (0, 8, [], []))), (93, .inr (.inl (0, 8, [], []))), (94, mgx6362)]
def mgn6327_435 : Nat × aw_S := (46, [(0, .inl 81), (1, .inr (false, [(0, 3)])), (2, .inr (false, [(1, 1)]))], [], mgh19923)
def mgh19924 : aw_H := [(81, mgx15754), (89, mgx494), (90, .inr (.inl (0, 240, [], []))), (92, .inr (.inl (0, 8, [], []))), (93, .inr (.inl (0, 8, [], []))), (94, mgx6473)]
def mgn6327_436 : Nat × aw_S := (86, [(0, .inl 81), (1, .inr (false, [(0, 3)])), (2, .inr (false, [(1, 1)]))], [], mgh19924)
def mgx19925 : aw_A := ms_o [(0, 8)] [(0, 4)] ar_t32 ar_t32 [(0, 180)] [(34, 34)] [(17, 60)] [(1, 5)] [(4, 4)]
def mgh19926 : aw_H := [(81, mgx19925), (89, mgx494), (90, .inr (.inl (0, 240, [], []))), (92, .inr (.inl (0, 8, [], []))), (93, .inr (.inl (0, 8, [], []))), (94, mgx6473)]
def mgn6327_437 : Nat × aw_S := (46, [(0, .inl 81), (1, .inr (false, [(0, 3)])), (2, .inr (false, [(1, 1)]))], [], mgh19926)
def mgh19927 : aw_H := [(81, mgx15812), (89, mgx494), (90, .inr (.inl (0, 240, [], []))), (92, .inr (.inl (0, 8, [], []))), (93, .inr (.inl (0, 8, [], []))), (94, mgx6473)]
def mgn6327_438 : Nat × aw_S := (46, [(0, .inl 81), (1, .inr (false, [(0, 3)])), (2, .inr (false, [(0, 0)]))], [], mgh19927)
def mgn6327_439 : Nat × aw_S := (46, [(0, .inl 81), (1, .inr (false, [(0, 3)])), (2, .inr (false, [(0, 0)]))], [], mgh19921)
def mgn6327_440 : Nat × aw_S := (46, [(0, .inl 81), (1, .inr (false, [(0, 3)])), (2, .inr (false, [(0, 0)]))], [], mgh19900)
def mgx19928 : aw_A := ms_o [(0, 8)] [(0, 4)] ar_t32 ar_t32 [(0, 180)] [(30, 30)] [(11, 60)] [(1, 5)] [(2, 2)]
def mgh19929 : aw_H := [(81, mgx19928), (89, mgx494), (90, .inr (.inl (0, 240, [], []))), (92, .inr (.inl (0, 8, [], []))), (93, .inr (.inl (0, 8, [], []))), (94, mgx6150)]
def mgn6327_441 : Nat × aw_S := (46, [(0, .inl 81), (1, .inr (false, [(0, 3)])), (2, .inr (false, [(1, 1)]))], [], mgh19929)
def mgh19930 : aw_H := [(81, mgx14964), (89, mgx494), (90, .inr (.inl (0, 240, [], []))), (92, .inr (.inl (0, 8, [], []))), (93, .inr (.inl (0, 8, [], []))), (94, mgx6362)]
def mgn6327_442 : Nat × aw_S := (86, [(0, .inl 81), (1, .inr (false, [(0, 3)])), (2, .inr (false, [(1, 1)]))], [], mgh19930)
def mgx19931 : aw_A := ms_o [(0, 8)] [(0, 4)] ar_t32 ar_t32 [(0, 180)] [(29, 29)] [(11, 60)] [(1, 5)] [(2, 2)]
def mgh19932 : aw_H := [(81, mgx19931), (89, mgx494), (90, .inr (.inl (0, 240, [], []))), (92, .inr (.inl (0, 8, [], []))), (93, .inr (.inl (0, 8, [], []))), (94, mgx6150)]
def mgn6327_443 : Nat × aw_S := (46, [(0, .inl 81), (1, .inr (false, [(0, 3)])), (2, .inr (false, [(1, 1)]))], [], mgh19932)
def mgn6327_444 : Nat × aw_S := (46, [(0, .inl 81), (1, .inr (false, [(0, 3)])), (2, .inr (false, [(0, 0)]))], [], mgh19861)
def mgn6327_445 : Nat × aw_S := (46, [(0, .inl 81), (1, .inr (false, [(0, 3)])), (2, .inr (false, [(0, 0)]))], [], mgh19840)
def mgh19933 : aw_H := [(81, mgx14961), (89, mgx494), (90, .inr (.inl (0, 240, [], []))), (92, .inr (.inl (0, 8, [], []))), (93, .inr (.inl (0, 8, [], []))), (94, mgx6362)]
def mgn6327_446 : Nat × aw_S := (86, [(0, .inl 81), (1, .inr (false, [(0, 3)])), (2, .inr (false, [(1, 1)]))], [], mgh19933)
def mgx19934 : aw_A := ms_o [(0, 8)] [(0, 4)] ar_t32 ar_t32 [(0, 180)] [(33, 33)] [(14, 60)] [(1, 5)] [(3, 3)]
def mgh19935 : aw_H := [(81, mgx19934), (89, mgx494), (90, .inr (.inl (0, 240, [], []))), (92, .inr (.inl (0, 8, [], []))), (93, .inr (.inl (0, 8, [], []))), (94, mgx6362)]
def mgn6327_447 : Nat × aw_S := (46, [(0, .inl 81), (1, .inr (false, [(0, 3)])), (2, .inr (false, [(1, 1)]))], [], mgh19935)
def mgh19936 : aw_H := [(81, mgx15950), (89, mgx494), (90, .inr (.inl (0, 240, [], []))), (92, .inr (.inl (0, 8, [], []))), (93, .inr (.inl (0, 8, [], []))), (94, mgx6473)]
def mgn6327_448 : Nat × aw_S := (86, [(0, .inl 81), (1, .inr (false, [(0, 3)])), (2, .inr (false, [(1, 1)]))], [], mgh19936)
def mgx19937 : aw_A := ms_o [(0, 8)] [(0, 4)] ar_t32 ar_t32 [(0, 180)] [(32, 32)] [(14, 60)] [(1, 5)] [(3, 3)]
def mgh19938 : aw_H := [(81, mgx19937), (89, mgx494), (90, .inr (.inl (0, 240, [], []))), (92, .inr (.inl (0, 8, [], []))), (93, .inr (.inl (0, 8, [], []))), (94, mgx6362)]
def mgn6327_449 : Nat × aw_S := (46, [(0, .inl 81), (1, .inr (false, [(0, 3)])), (2, .inr (false, [(1, 1)]))], [], mgh19938)
def mgh19939 : aw_H := [(81, mgx16008), (89, mgx494), (90, .inr (.inl (0, 240, [], []))), (92, .inr (.inl (0, 8, [], []))), (93, .inr (.inl (0, 8, [], []))), (94, mgx6473)]
def mgn6327_450 : Nat × aw_S := (86, [(0, .inl 81), (1, .inr (false, [(0, 3)])), (2, .inr (false, [(1, 1)]))], [], mgh19939)
def mgx19940 : aw_A := ms_o [(0, 8)] [(0, 4)] ar_t32 ar_t32 [(0, 180)] [(35, 35)] [(17, 60)] [(1, 5)] [(4, 4)]
def mgh19941 : aw_H := [(81, mgx19940), (89, mgx494), (90, .inr (.inl (0, 240, [], []))), (92, .inr (.inl (0, 8, [], []))), (93, .inr (.inl (0, 8, [], []))), (94, mgx6473)]
def mgn6327_451 : Nat × aw_S := (46, [(0, .inl 81), (1, .inr (false, [(0, 3)])), (2, .inr (false, [(1, 1)]))], [], mgh19941)
def mgh19942 : aw_H := [(81, mgx16063), (89, mgx494), (90, .inr (.inl (0, 240, [], []))), (92, .inr (.inl (0, 8, [], []))), (93, .inr (.inl (0, 8, [], []))), (94, mgx6473)]
def mgn6327_452 : Nat × aw_S := (46, [(0, .inl 81), (1, .inr (false, [(0, 3)])), (2, .inr (false, [(0, 0)]))], [], mgh19942)
def mgx19943 : aw_A := ms_o [(0, 8)] [(0, 4)] ar_t32 ar_t32 [(0, 180)] [(36, 36)] [(17, 60)] [(1, 5)] [(4, 4)]
def mgh19944 : aw_H := [(81, mgx19943), (89, mgx494), (90, .inr (.inl (0, 240, [], []))), (92, .inr (.inl (0, 8, [], []))), (93, .inr (.inl (0, 8, [], []))), (94, mgx6473)]
def mgn6327_453 : Nat × aw_S := (46, [(0, .inl 81), (1, .inr (false, [(0, 3)])), (2, .inr (false, [(1, 1)]))], [], mgh19944)
def mgh19945 : aw_H := [(81, mgx16066), (89, mgx494), (90, .inr (.inl (0, 240, [], []))), (92, .inr (.inl (0, 8, [], []))), (93, .inr (.inl (0, 8, [], []))), (94, mgx6473)]
def mgn6327_454 : Nat × aw_S := (46, [(0, .inl 81), (1, .inr (false, [(0, 3)])), (2, .inr (false, [(0, 0)]))], [], mgh19945)
def mgn6327_455 : Nat × aw_S := (46, [(0, .inl 81), (1, .inr (false, [(0, 3)])), (2, .inr (false, [(0, 0)]))], [], mgh19933)
def mgn6327_456 : Nat × aw_S := (46, [(0, .inl 81), (1, .inr (false, [(0, 3)])), (2, .inr (false, [(0, 0)]))], [], mgh19930)
def mgx19946 : aw_A := ms_o [(0, 8)] [(0, 4)] ar_t32 ar_t32 [(0, 180)] [(39, 39)] [(11, 60)] [(1, 8)] [(2, 2)]
def mgh19947 : aw_H := [(81, mgx19946), (89, mgx494), (90, .inr (.inl (0, 240, [], []))), (92, .inr (.inl (0, 8, [], []))), (93, .inr (.inl (0, 8, [], []))), (94, mgx6150)]
def mgn6327_457 : Nat × aw_S := (46, [(0, .inl 81), (1, .inr (false, [(0, 3)])), (2, .inr (false, [(1, 1)]))], [], mgh19947)
def mgn6327_458 : Nat × aw_S := (46, [(0, .inl 81), (1, .inr (false, [(0, 3)])), (2, .inr (false, [(0, 0)]))], [], mgh19837)
def mgh19948 : aw_H := [(81, mgx16080), (89, mgx494), (90, .inr (.inl (0, 240, [], []))), (92, .inr (.inl (0, 8, [], []))), (93, .inr (.inl (0, 8, [], []))), (94, mgx6362)]
def mgn6327_459 : Nat × aw_S := (86, [(0, .inl 81), (1, .inr (false, [(0, 3)])), (2, .inr (false, [(1, 1)]))], [], mgh19948)
def mgx19949 : aw_A := ms_o [(0, 8)] [(0, 4)] ar_t32 ar_t32 [(0, 180)] [(32, 32)] [(11, 60)] [(1, 6)] [(2, 2)]
def mgh19950 : aw_H := [(81, mgx19949), (89, mgx494), (90, .inr (.inl (0, 240, [], []))), (92, .inr (.inl (0, 8, [], []))), (93, .inr (.inl (0, 8, [], []))), (94, mgx6150)]
def mgn6327_460 : Nat × aw_S := (46, [(0, .inl 81), (1, .inr (false, [(0, 3)])), (2, .inr (false, [(1, 1)]))], [], mgh19950)
def mgn6327_461 : Nat × aw_S := (46, [(0, .inl 81), (1, .inr (false, [(0, 3)])), (2, .inr (false, [(0, 0)]))], [], mgh19852)
def mgh19951 : aw_H := [(81, mgx16126), (89, mgx494), (90, .inr (.inl (0, 240, [], []))), (92, .inr (.inl (0, 8, [], []))), (93, .inr (.inl (0, 8, [], []))), (94, mgx6362)]
def mgn6327_462 : Nat × aw_S := (86, [(0, .inl 81), (1, .inr (false, [(0, 3)])), (2, .inr (false, [(1, 1)]))], [], mgh19951)
def mgx19952 : aw_A := ms_o [(0, 8)] [(0, 4)] ar_t32 ar_t32 [(0, 180)] [(31, 31)] [(11, 60)] [(1, 6)] [(2, 2)]
def mgh19953 : aw_H := [(81, mgx19952), (89, mgx494), (90, .inr (.inl (0, 240, [], []))), (92, .inr (.inl (0, 8, [], []))), (93, .inr (.inl (0, 8, [], []))), (94, mgx6150)]
def mgn6327_463 : Nat × aw_S := (46, [(0, .inl 81), (1, .inr (false, [(0, 3)])), (2, .inr (false, [(1, 1)]))], [], mgh19953)
def mgn6327_464 : Nat × aw_S := (46, [(0, .inl 81), (1, .inr (false, [(0, 3)])), (2, .inr (false, [(0, 0)]))], [], mgh19834)
def mgn6327_465 : Nat × aw_S := (46, [(0, .inl 81), (1, .inr (false, [(0, 3)])), (2, .inr (false, [(0, 0)]))], [], mgh19846)
def mgn6327_466 : Nat × aw_S := (46, [(0, .inl 81), (1, .inr (false, [(0, 3)])), (2, .inr (false, [(0, 0)]))], [], mgh19855)
def mgh19954 : aw_H := [(81, mgx16184), (89, mgx494), (90, .inr (.inl (0, 240, [], []))), (92, .inr (.inl (0, 8, [], []))), (93, .inr (.inl (0, 8, [], []))), (94, mgx6362)]
def mgn6327_467 : Nat × aw_S := (86, [(0, .inl 81), (1, .inr (false, [(0, 3)])), (2, .inr (false, [(1, 1)]))], [], mgh19954)
def mgx19955 : aw_A := ms_o [(0, 8)] [(0, 4)] ar_t32 ar_t32 [(0, 180)] [(37, 37)] [(14, 60)] [(1, 6)] [(3, 3)]
def mgh19956 : aw_H := [(81, mgx19955), (89, mgx494), (90, .inr (.inl (0, 240, [], []))), (92, .inr (.inl (0, 8, [], []))), (93, .inr (.inl (0, 8, [], []))), (94, mgx6362)]
def mgn6327_468 : Nat × aw_S := (46, [(0, .inl 81), (1, .inr (false, [(0, 3)])), (2, .inr (false, [(1, 1)]))], [], mgh19956)
def mgh19957 : aw_H := [(81, mgx16252), (89, mgx494), (90, .inr (.inl (0, 240, [], []))), (92, .inr (.inl (0, 8, [], []))), (93, .inr (.inl (0, 8, [], []))), (94, mgx6473)]
def mgn6327_469 : Nat × aw_S := (86, [(0, .inl 81), (1, .inr (false, [(0, 3)])), (2, .inr (false, [(1, 1)]))], [], mgh19957)
def mgx19958 : aw_A := ms_o [(0, 8)] [(0, 4)] ar_t32 ar_t32 [(0, 180)] [(35, 35)] [(14, 60)] [(1, 6)] [(3, 3)]
def mgh19959 : aw_H := [(81, mgx19958), (89, mgx494), (90, .inr (.inl (0, 240, [], []))), (92, .inr (.inl (0, 8, [], []))), (93, .inr (.inl (0, 8, [], []))), (94, mgx6362)]
def mgn6327_470 : Nat × aw_S := (46, [(0, .inl 81), (1, .inr (false, [(0, 3)])), (2, .inr (false, [(1, 1)]))], [], mgh19959)
def mgh19960 : aw_H := [(81, mgx16302), (89, mgx494), (90, .inr (.inl (0, 240, [], []))), (92, .inr (.inl (0, 8, [], []))), (93, .inr (.inl (0, 8, [], []))), (94, mgx6473)]
def mgn6327_471 : Nat × aw_S := (86, [(0, .inl 81), (1, .inr (false, [(0, 3)])), (2, .inr (false, [(1, 1)]))], [], mgh19960)
def mgx19961 : aw_A := ms_o [(0, 8)] [(0, 4)] ar_t32 ar_t32 [(0, 180)] [(38, 38)] [(14, 60)] [(1, 7)] [(3, 3)]
def mgh19962 : aw_H := [(81, mgx19961), (89, mgx494), (90, .inr (.inl (0, 240, [], []))), (92, .inr (.inl (0, 8, [], []))), (93, .inr (.inl (0, 8, [], []))), (94, mgx6362)]
def mgn6327_472 : Nat × aw_S := (46, [(0, .inl 81), (1, .inr (false, [(0, 3)])), (2, .inr (false, [(1, 1)]))], [], mgh19962)
def mgh19963 : aw_H := [(81, mgx16354), (89, mgx494), (90, .inr (.inl (0, 240, [], []))), (92, .inr (.inl (0, 8, [], []))), (93, .inr (.inl (0, 8, [], []))), (94, mgx6473)]
def mgn6327_473 : Nat × aw_S := (86, [(0, .inl 81), (1, .inr (false, [(0, 3)])), (2, .inr (false, [(1, 1)]))], [], mgh19963)
def mgx19964 : aw_A := ms_o [(0, 8)] [(0, 4)] ar_t32 ar_t32 [(0, 180)] [(39, 39)] [(14, 60)] [(1, 7)] [(3, 3)]
def mgh19965 : aw_H := [(81, mgx19964), (89, mgx494), (90, .inr (.inl (0, 240, [], []))), (92, .inr (.inl (0, 8, [], []))), (93, .inr (.inl (0, 8, [], []))), (94, mgx6362)]
def mgn6327_474 : Nat × aw_S := (46, [(0, .inl 81), (1, .inr (false, [(0, 3)])), (2, .inr (false, [(1, 1)]))], [], mgh19965)
def mgh19966 : aw_H := [(81, mgx16402), (89, mgx494), (90, .inr (.inl (0, 240, [], []))), (92, .inr (.inl (0, 8, [], []))), (93, .inr (.inl (0, 8, [], []))), (94, mgx6473)]
def mgn6327_475 : Nat × aw_S := (86, [(0, .inl 81), (1, .inr (false, [(0, 3)])), (2, .inr (false, [(1, 1)]))], [], mgh19966)
def mgn6327_476 : Nat × aw_S := (46, [(0, .inl 81), (1, .inr (false, [(0, 3)])), (2, .inr (false, [(0, 0)]))], [], mgh19918)
def mgx19967 : aw_A := ms_o [(0, 8)] [(0, 4)] ar_t32 ar_t32 [(0, 180)] [(36, 36)] [(14, 60)] [(1, 6)] [(3, 3)]
def mgh19968 : aw_H := [(81, mgx19967), (89, mgx494), (90, .inr (.inl (0, 240, [], []))), (92, .inr (.inl (0, 8, [], []))), (93, .inr (.inl (0, 8, [], []))), (94, mgx6362)]
def mgn6327_477 : Nat × aw_S := (46, [(0, .inl 81), (1, .inr (false, [(0, 3)])), (2, .inr (false, [(1, 1)]))], [], mgh19968)
def mgn6327_478 : Nat × aw_S := (46, [(0, .inl 81), (1, .inr (false, [(0, 3)])), (2, .inr (false, [(0, 0)]))], [], mgh19915)
def mgn6327_479 : Nat × aw_S := (46, [(0, .inl 81), (1, .inr (false, [(0, 3)])), (2, .inr (false, [(0, 0)]))], [], mgh19912)
def mgh19969 : aw_H := [(81, mgx16446), (89, mgx494), (90, .inr (.inl (0, 240, [], []))), (92, .inr (.inl (0, 8, [], []))), (93, .inr (.inl (0, 8, [], []))), (94, mgx6473)]
def mgn6327_480 : Nat × aw_S := (86, [(0, .inl 81), (1, .inr (false, [(0, 3)])), (2, .inr (false, [(1, 1)]))], [], mgh19969)
def mgx19970 : aw_A := ms_o [(0, 8)] [(0, 4)] ar_t32 ar_t32 [(0, 180)] [(34, 34)] [(14, 60)] [(1, 6)] [(3, 3)]
def mgh19971 : aw_H := [(81, mgx19970), (89, mgx494), (90, .inr (.inl (0, 240, [], []))), (92, .inr (.inl (0, 8, [], []))), (93, .inr (.inl (0, 8, [], []))), (94, mgx6362)]
def mgn6327_481 : Nat × aw_S := (46, [(0, .inl 81), (1, .inr (false, [(0, 3)])), (2, .inr (false, [(1, 1)]))], [], mgh19971)
def mgn6327_482 : Nat × aw_S := (46, [(0, .inl 81), (1, .inr (false, [(0, 3)])), (2, .inr (false, [(0, 0)]))], [], mgh19909)
def mgh19972 : aw_H := [(81, mgx16496), (89, mgx494), (90, .inr (.inl (0, 240, [], []))), (92, .inr (.inl (0, 8, [], []))), (93, .inr (.inl (0, 8, [], []))), (94, mgx6473)]
def mgn6327_483 : Nat × aw_S := (86, [(0, .inl 81), (1, .inr (false, [(0, 3)])), (2, .inr (false, [(1, 1)]))], [], mgh19972)
def mgx19973 : aw_A := ms_o [(0, 8)] [(0, 4)] ar_t32 ar_t32 [(0, 180)] [(40, 40)] [(17, 60)] [(1, 6)] [(4, 4)]
def mgh19974 : aw_H := [(81, mgx19973), (89, mgx494), (90, .inr (.inl (0, 240, [], []))), (92, .inr (.inl (0, 8, [], []))), (93, .inr (.inl (0, 8, [], []))), (94, mgx6473)]
def mgn6327_484 : Nat × aw_S := (46, [(0, .inl 81), (1, .inr (false, [(0, 3)])), (2, .inr (false, [(1, 1)]))], [], mgh19974)
def mgh19975 : aw_H := [(81, mgx16547), (89, mgx494), (90, .inr (.inl (0, 240, [], []))), (92, .inr (.inl (0, 8, [], []))), (93, .inr (.inl (0, 8, [], []))), (94, mgx6473)]
def mgn6327_485 : Nat × aw_S := (46, [(0, .inl 81), (1, .inr (false, [(0, 3)])), (2, .inr (false, [(0, 0)]))], [], mgh19975)
def mgx19976 : aw_A := ms_o [(0, 8)] [(0, 4)] ar_t32 ar_t32 [(0, 180)] [(38, 38)] [(17, 60)] [(1, 6)] [(4, 4)]
def mgh19977 : aw_H := [(81, mgx19976), (89, mgx494), (90, .inr (.inl (0, 240, [], []))), (92, .inr (.inl (0, 8, [], []))), (93, .inr (.inl (0, 8, [], []))), (94, mgx6473)]
def mgn6327_486 : Nat × aw_S := (46, [(0, .inl 81), (1, .inr (false, [(0, 3)])), (2, .inr (false, [(1, 1)]))], [], mgh19977)
def mgh19978 : aw_H := [(81, mgx16550), (89, mgx494), (90, .inr (.inl (0, 240, [], []))), (92, .inr (.inl (0, 8, [], []))), (93, .inr (.inl (0, 8, [], []))), (94, mgx6473)]
def mgn6327_487 : Nat × aw_S := (46, [(0, .inl 81), (1, .inr (false, [(0, 3)])), (2, .inr (false, [(0, 0)]))], [], mgh19978)
def mgx19979 : aw_A := ms_o [(0, 8)] [(0, 4)] ar_t32 ar_t32 [(0, 180)] [(39, 39)] [(17, 60)] [(1, 6)] [(4, 4)]
def mgh19980 : aw_H := [(81, mgx19979), (89, mgx494), (90, .inr (.inl (0, 240, [], []))), (92, .inr (.inl (0, 8, [], []))), (93, .inr (.inl (0, 8, [], []))), (94, mgx6473)]
def mgn6327_488 : Nat × aw_S := (46, [(0, .inl 81), (1, .inr (false, [(0, 3)])), (2, .inr (false, [(1, 1)]))], [], mgh19980)
def mgh19981 : aw_H := [(81, mgx16553), (89, mgx494), (90, .inr (.inl (0, 240, [], []))), (92, .inr (.inl (0, 8, [], []))), (93, .inr (.inl (0, 8, [], []))), (94, mgx6473)]
def mgn6327_489 : Nat × aw_S := (46, [(0, .inl 81), (1, .inr (false, [(0, 3)])), (2, .inr (false, [(0, 0)]))], [], mgh19981)
def mgx19982 : aw_A := ms_o [(0, 8)] [(0, 4)] ar_t32 ar_t32 [(0, 180)] [(42, 42)] [(17, 60)] [(1, 7)] [(4, 4)]
def mgh19983 : aw_H := [(81, mgx19982), (89, mgx494), (90, .inr (.inl (0, 240, [], []))), (92, .inr (.inl (0, 8, [], []))), (93, .inr (.inl (0, 8, [], []))), (94, mgx6473)]
def mgn6327_490 : Nat × aw_S := (46, [(0, .inl 81), (1, .inr (false, [(0, 3)])), (2, .inr (false, [(1, 1)]))], [], mgh19983)
def mgh19984 : aw_H := [(81, mgx16556), (89, mgx494), (90, .inr (.inl (0, 240, [], []))), (92, .inr (.inl (0, 8, [], []))), (93, .inr (.inl (0, 8, [], []))), (94, mgx6473)]
def mgn6327_491 : Nat × aw_S := (46, [(0, .inl 81), (1, .inr (false, [(0, 3)])), (2, .inr (false, [(0, 0)]))], [], mgh19984)
def mgx19985 : aw_A := ms_o [(0, 8)] [(0, 4)] ar_t32 ar_t32 [(0, 180)] [(41, 41)] [(17, 60)] [(1, 7)] [(4, 4)]
def mgh19986 : aw_H := [(81, mgx19985), (89, mgx494), (90, .inr (.inl (0, 240, [], []))), (92, .inr (.inl (0, 8, [], []))), (93, .inr (.inl (0, 8, [], []))), (94, mgx6473)]
def mgn6327_492 : Nat × aw_S := (46, [(0, .inl 81), (1, .inr (false, [(0, 3)])), (2, .inr (false, [(1, 1)]))], [], mgh19986)
def mgh19987 : aw_H := [(81, mgx16559), (89, mgx494), (90, .inr (.inl (0, 240, [], []))), (92, .inr (.inl (0, 8, [], []))), (93, .inr (.inl (0, 8, [], []))), (94, mgx6473)]
def mgn6327_493 : Nat × aw_S := (46, [(0, .inl 81), (1, .inr (false, [(0, 3)])), (2, .inr (false, [(0, 0)]))], [], mgh19987)
def mgx19988 : aw_A := ms_o [(0, 8)] [(0, 4)] ar_t32 ar_t32 [(0, 180)] [(37, 37)] [(17, 60)] [(1, 6)] [(4, 4)]
def mgh19989 : aw_H := [(81, mgx19988), (89, mgx494), (90, .inr (.inl (0, 240, [], []))), (92, .inr (.inl (0, 8, [], []))), (93, .inr (.inl (0, 8, [], []))), (94, mgx6473)]
def mgn6327_494 : Nat × aw_S := (46, [(0, .inl 81), (1, .inr (false, [(0, 3)])), (2, .inr (false, [(1, 1)]))], [], mgh19989)
def mgh19990 : aw_H := [(81, mgx16562), (89, mgx494), (90, .inr (.inl (0, 240, [], []))), (92, .inr (.inl (0, 8, [], []))), (93, .inr (.inl (0, 8, [], []))), (94, mgx6473)]
def mgn6327_495 : Nat × aw_S := (46, [(0, .inl 81), (1, .inr (false, [(0, 3)])), (2, .inr (false, [(0, 0)]))], [], mgh19990)
def mgn6327_496 : Nat × aw_S := (46, [(0, .inl 81), (1, .inr (false, [(0, 3)])), (2, .inr (false, [(0, 0)]))], [], mgh19951)
def mgn6327_497 : Nat × aw_S := (46, [(0, .inl 81), (1, .inr (false, [(0, 3)])), (2, .inr (false, [(0, 0)]))], [], mgh19954)
def mgx19991 : aw_A := ms_o [(0, 8)] [(0, 4)] ar_t32 ar_t32 [(0, 180)] [(40, 40)] [(14, 60)] [(1, 7)] [(3, 3)]
def mgh19992 : aw_H := [(81, mgx19991), (89, mgx494), (90, .inr (.inl (0, 240, [], []))), (92, .inr (.inl (0, 8, [], []))), (93, .inr (.inl (0, 8, [], []))), (94, mgx6362)]
def mgn6327_498 : Nat × aw_S := (46, [(0, .inl 81), (1, .inr (false, [(0, 3)])), (2, .inr (false, [(1, 1)]))], [], mgh19992)
def mgn6327_499 : Nat × aw_S := (46, [(0, .inl 81), (1, .inr (false, [(0, 3)])), (2, .inr (false, [(0, 0)]))], [], mgh19903)
def mgh19993 : aw_H := [(81, mgx16571), (89, mgx494), (90, .inr (.inl (0, 240, [], []))), (92, .inr (.inl (0, 8, [], []))), (93, .inr (.inl (0, 8, [], []))), (94, mgx6473)]
def mgn6327_500 : Nat × aw_S := (86, [(0, .inl 81), (1, .inr (false, [(0, 3)])), (2, .inr (false, [(1, 1)]))], [], mgh19993)
def mgx19994 : aw_A := ms_o [(0, 8)] [(0, 4)] ar_t32 ar_t32 [(0, 180)] [(43, 43)] [(17, 60)] [(1, 7)] [(4, 4)]
def mgh19995 : aw_H := [(81, mgx19994), (89, mgx494), (90, .inr (.inl (0, 240, [], []))), (92, .inr (.inl (0, 8, [], []))), (93, .inr (.inl (0, 8, [], []))), (94, mgx6473)]
def mgn6327_501 : Nat × aw_S := (46, [(0, .inl 81), (1, .inr (false, [(0, 3)])), (2, .inr (false, [(1, 1)]))], [], mgh19995)
def mgh19996 : aw_H := [(81, mgx16611), (89, mgx494), (90, .inr (.inl (0, 240, [], []))), (92, .inr (.inl (0, 8, [], []))), (93, .inr (.inl (0, 8, [], []))), (94, mgx6473)]
def mgn6327_502 : Nat × aw_S := (46, [(0, .inl 81), (1, .inr (false, [(0, 3)])), (2, .inr (false, [(0, 0)]))], [], mgh19996)
def mgx19997 : aw_A := ms_o [(0, 8)] [(0, 4)] ar_t32 ar_t32 [(0, 180)] [(42, 42)] [(14, 60)] [(1, 8)] [(3, 3)]
def mgh19998 : aw_H := [(81, mgx19997), (89, mgx494), (90, .inr (.inl (0, 240, [], []))), (92, .inr (.inl (0, 8, [], []))), (93, .inr (.inl (0, 8, [], []))), (94, mgx6362)]
def mgn6327_503 : Nat × aw_S := (46, [(0, .inl 81), (1, .inr (false, [(0, 3)])), (2, .inr (false, [(1, 1)]))], [], mgh19998)
def mgh19999 : aw_H := [(81, mgx16625), (89, mgx494), (90, .inr (.inl (0, 240, [], []))), (92, .inr (.inl (0, 8, [], []))), (93, .inr (.inl (0, 8, [], []))), (94, mgx6473)]
def mgn6327_504 : Nat × aw_S := (86, [(0, .inl 81), (1, .inr (false, [(0, 3)])), (2, .inr (false, [(1, 1)]))], [], mgh19999)
def mgx20000 : aw_A := ms_o [(0, 8)] [(0, 4)] ar_t32 ar_t32 [(0, 180)] [(41, 41)] [(14, 60)] [(1, 7)] [(3, 3)]
def mgh20001 : aw_H := [(81, mgx20000), (89, mgx494), (90, .inr (.inl (0, 240, [], []))), (92, .inr (.inl (0, 8, [], []))), (93, .inr (.inl (0, 8, [], []))), (94, mgx6362)]
def mgn6327_505 : Nat × aw_S := (46, [(0, .inl 81), (1, .inr (false, [(0, 3)])), (2, .inr (false, [(1, 1)]))], [], mgh20001)
def mgn6327_506 : Nat × aw_S := (46, [(0, .inl 81), (1, .inr (false, [(0, 3)])), (2, .inr (false, [(0, 0)]))], [], mgh19906)
def mgn6327_507 : Nat × aw_S := (46, [(0, .inl 81), (1, .inr (false, [(0, 3)])), (2, .inr (false, [(0, 0)]))], [], mgh19948)
def mgh20002 : aw_H := [(81, mgx16668), (89, mgx494), (90, .inr (.inl (0, 240, [], []))), (92, .inr (.inl (0, 8, [], []))), (93, .inr (.inl (0, 8, [], []))), (94, mgx6473)]
def mgn6327_508 : Nat × aw_S := (86, [(0, .inl 81), (1, .inr (false, [(0, 3)])), (2, .inr (false, [(1, 1)]))], [], mgh20002)
def mgx20003 : aw_A := ms_o [(0, 8)] [(0, 4)] ar_t32 ar_t32 [(0, 180)] [(45, 45)] [(17, 60)] [(1, 8)] [(4, 4)]
def mgh20004 : aw_H := [(81, mgx20003), (89, mgx494), (90, .inr (.inl (0, 240, [], []))), (92, .inr (.inl (0, 8, [], []))), (93, .inr (.inl (0, 8, [], []))), (94, mgx6473)]
def mgn6327_509 : Nat × aw_S := (46, [(0, .inl 81), (1, .inr (false, [(0, 3)])), (2, .inr (false, [(1, 1)]))], [], mgh20004)
def mgh20005 : aw_H := [(81, mgx16706), (89, mgx494), (90, .inr (.inl (0, 240, [], []))), (92, .inr (.inl (0, 8, [], []))), (93, .inr (.inl (0, 8, [], []))), (94, mgx6473)]
def mgn6327_510 : Nat × aw_S := (46, [(0, .inl 81), (1, .inr (false, [(0, 3)])), (2, .inr (false, [(0, 0)]))], [], mgh20005)
def mgx20006 : aw_A := ms_o [(0, 8)] [(0, 4)] ar_t32 ar_t32 [(0, 180)] [(44, 44)] [(17, 60)] [(1, 7)] [(4, 4)]
def mgh20007 : aw_H := [(81, mgx20006), (89, mgx494), (90, .inr (.inl (0, 240, [], []))), (92, .inr (.inl (0, 8, [], []))), (93, .inr (.inl (0, 8, [], []))), (94, mgx6473)]
def mgn6327_511 : Nat × aw_S := (46, [(0, .inl 81), (1, .inr (false, [(0, 3)])), (2, .inr (false, [(1, 1)]))], [], mgh20007)
def mgh20008 : aw_H := [(81, mgx16709), (89, mgx494), (90, .inr (.inl (0, 240, [], []))), (92, .inr (.inl (0, 8, [], []))), (93, .inr (.inl (0, 8, [], []))), (94, mgx6473)]
def mgn6327_512 : Nat × aw_S := (46, [(0, .inl 81), (1, .inr (false, [(0, 3)])), (2, .inr (false, [(0, 0)]))], [], mgh20008)
def mgn6327_513 : Nat × aw_S := (46, [(0, .inl 81), (1, .inr (false, [(0, 3)])), (2, .inr (false, [(0, 0)]))], [], mgh19722)
def mgx20009 : aw_A := ms_o [(0, 8)] [(0, 4)] ar_t32 ar_t32 [(0, 180)] [(36, 36)] [(1, 60)] [(0, 8)] [(0, 0)]
def mgh20010 : aw_H := [(81, mgx20009), (89, mgx494), (90, .inr (.inl (0, 240, [], []))), (92, .inr (.inl (0, 8, [], []))), (93, .inr (.inl (0, 8, [], []))), (94, mgx4446)]
def mgn6327_514 : Nat × aw_S := (46, [(0, .inl 81), (1, .inr (false, [(0, 3)])), (2, .inr (false, [(1, 1)]))], [], mgh20010)
def mgh20011 : aw_H := [(81, mgx14078), (89, mgx494), (90, .inr (.inl (0, 240, [], []))), (92, .inr (.inl (0, 8, [], []))), (93, .inr (.inl (0, 8, [], []))), (94, mgx4449)]
def mgn6327_515 : Nat × aw_S := (86, [(0, .inl 81), (1, .inr (false, [(0, 3)])), (2, .inr (false, [(1, 1)]))], [], mgh20011)
def mgh20012 : aw_H := [(81, mgx13181), (89, mgx494), (90, .inr (.inl (0, 240, [], []))), (92, .inr (.inl (0, 8, [], []))), (93, .inr (.inl (0, 8, [], []))), (94, mgx4446)]
def mgn6327_516 : Nat × aw_S := (86, [(0, .inl 81), (1, .inr (false, [(0, 3)])), (2, .inr (false, [(1, 1)]))], [], mgh20012)
def mgx20013 : aw_A := ms_o [(0, 8)] [(0, 4)] ar_t32 ar_t32 [(0, 180)] [(34, 34)] [(1, 60)] [(0, 8)] [(0, 0)]
def mgh20014 : aw_H := [(81, mgx20013), (89, mgx494), (90, .inr (.inl (0, 240, [], []))), (92, .inr (.inl (0, 8, [], []))), (93, .inr (.inl (0, 8, [], []))), (94, mgx4446)]
def mgn6327_517 : Nat × aw_S := (46, [(0, .inl 81), (1, .inr (false, [(0, 3)])), (2, .inr (false, [(1, 1)]))], [], mgh20014)
def mgh20015 : aw_H := [(81, mgx13176), (89, mgx494), (90, .inr (.inl (0, 240, [], []))), (92, .inr (.inl (0, 8, [], []))), (93, .inr (.inl (0, 8, [], []))), (94, mgx4446)]
def mgn6327_518 : Nat × aw_S := (86, [(0, .inl 81), (1, .inr (false, [(0, 3)])), (2, .inr (false, [(1, 1)]))], [], mgh20015)
def mgx20016 : aw_A := ms_o [(0, 8)] [(0, 4)] ar_t32 ar_t32 [(0, 180)] [(38, 38)] [(1, 60)] [(0, 8)] [(0, 0)]
def mgh20017 : aw_H := [(81, mgx20016), (89, mgx494), (90, .inr (.inl (0, 240, [], []))), (92, .inr (.inl (0, 8, [], []))), (93, .inr (.inl (0, 8, [], []))), (94, mgx4446)]
def mgn6327_519 : Nat × aw_S := (46, [(0, .inl 81), (1, .inr (false, [(0, 3)])), (2, .inr (false, [(1, 1)]))], [], mgh20017)
def mgx20018 : aw_A := ms_o [(0, 8)] [(0, 4)] ar_t32 ar_t32 [(0, 180)] [(38, 38)] [(-1, 60)] [(0, 8)] [(0, 0)]
def mgh20019 : aw_H := [(81, mgx20018), (89, mgx494), (90, .inr (.inl (0, 240, [], []))), (92, .inr (.inl (0, 8, [], []))), (93, .inr (.inl (0, 8, [], []))), (94, mgx4446)]
def mgn6327_520 : Nat × aw_S := (46, [(0, .inl 81), (1, .inr (false, [(0, 3)])), (2, .inr (false, [(0, 0)]))], [], mgh20019)
def mgh20020 : aw_H := [(81, mgx16866), (89, mgx494), (90, .inr (.inl (0, 240, [], []))), (92, .inr (.inl (0, 8, [], []))), (93, .inr (.inl (0, 8, [], []))), (94, mgx4449)]
def mgn6327_521 : Nat × aw_S := (86, [(0, .inl 81), (1, .inr (false, [(0, 3)])), (2, .inr (false, [(1, 1)]))], [], mgh20020)
def mgh20021 : aw_H := [(81, mgx16859), (89, mgx494), (90, .inr (.inl (0, 240, [], []))), (92, .inr (.inl (0, 8, [], []))), (93, .inr (.inl (0, 8, [], []))), (94, mgx4446)]
def mgn6327_522 : Nat × aw_S := (86, [(0, .inl 81), (1, .inr (false, [(0, 3)])), (2, .inr (false, [(1, 1)]))], [], mgh20021)
def mgx20022 : aw_A := ms_o [(0, 8)] [(0, 4)] ar_t32 ar_t32 [(0, 180)] [(40, 40)] [(1, 60)] [(0, 8)] [(0, 0)]
def mgh20023 : aw_H := [(81, mgx20022), (89, mgx494), (90, .inr (.inl (0, 240, [], []))), (92, .inr (.inl (0, 8, [], []))), (93, .inr (.inl (0, 8, [], []))), (94, mgx4446)]
def mgn6327_523 : Nat × aw_S := (46, [(0, .inl 81), (1, .inr (false, [(0, 3)])), (2, .inr (false, [(1, 1)]))], [], mgh20023)
def mgh20024 : aw_H := [(81, mgx16955), (89, mgx494), (90, .inr (.inl (0, 240, [], []))), (92, .inr (.inl (0, 8, [], []))), (93, .inr (.inl (0, 8, [], []))), (94, mgx4446)]
def mgn6327_524 : Nat × aw_S := (86, [(0, .inl 81), (1, .inr (false, [(0, 3)])), (2, .inr (false, [(1, 1)]))], [], mgh20024)
def mgh20025 : aw_H := [(81, mgx16965), (89, mgx494), (90, .inr (.inl (0, 240, [], []))), (92, .inr (.inl (0, 8, [], []))), (93, .inr (.inl (0, 8, [], []))), (94, mgx4449)]
def mgn6327_525 : Nat × aw_S := (86, [(0, .inl 81), (1, .inr (false, [(0, 3)])), (2, .inr (false, [(1, 1)]))], [], mgh20025)
def mgx20026 : aw_A := ms_o [(0, 8)] [(0, 4)] ar_t32 ar_t32 [(0, 180)] [(39, 39)] [(1, 60)] [(0, 8)] [(0, 0)]
def mgh20027 : aw_H := [(81, mgx20026), (89, mgx494), (90, .inr (.inl (0, 240, [], []))), (92, .inr (.inl (0, 8, [], []))), (93, .inr (.inl (0, 8, [], []))), (94, mgx4446)]
def mgn6327_526 : Nat × aw_S := (46, [(0, .inl 81), (1, .inr (false, [(0, 3)])), (2, .inr (false, [(1, 1)]))], [], mgh20027)
def mgx20028 : aw_A := ms_o [(0, 8)] [(0, 4)] ar_t32 ar_t32 [(0, 180)] [(39, 39)] [(-1, 60)] [(0, 8)] [(0, 0)]
def mgh20029 : aw_H := [(81, mgx20028), (89, mgx494), (90, .inr (.inl (0, 240, [], []))), (92, .inr (.inl (0, 8, [], []))), (93, .inr (.inl (0, 8, [], []))), (94, mgx4446)]
def mgn6327_527 : Nat × aw_S := (46, [(0, .inl 81), (1, .inr (false, [(0, 3)])), (2, .inr (false, [(0, 0)]))], [], mgh20029)
def mgx20030 : aw_A := ms_o [(0, 8)] [(0, 4)] ar_t32 ar_t32 [(0, 180)] [(40, 40)] [(-1, 60)] [(0, 8)] [(0, 0)]
def mgh20031 : aw_H := [(81, mgx20030), (89, mgx494), (90, .inr (.inl (0, 240, [], []))), (92, .inr (.inl (0, 8, [], []))), (93, .inr (.inl (0, 8, [], []))), (94, mgx4446)]
def mgn6327_528 : Nat × aw_S := (46, [(0, .inl 81), (1, .inr (false, [(0, 3)])), (2, .inr (false, [(0, 0)]))], [], mgh20031)
def mgh20032 : aw_H := [(81, mgx17046), (89, mgx494), (90, .inr (.inl (0, 240, [], []))), (92, .inr (.inl (0, 8, [], []))), (93, .inr (.inl (0, 8, [], []))), (94, mgx4449)]
def mgn6327_529 : Nat × aw_S := (86, [(0, .inl 81), (1, .inr (false, [(0, 3)])), (2, .inr (false, [(1, 1)]))], [], mgh20032)
def mgh20033 : aw_H := [(81, mgx16962), (89, mgx494), (90, .inr (.inl (0, 240, [], []))), (92, .inr (.inl (0, 8, [], []))), (93, .inr (.inl (0, 8, [], []))), (94, mgx4446)]
def mgn6327_530 : Nat × aw_S := (86, [(0, .inl 81), (1, .inr (false, [(0, 3)])), (2, .inr (false, [(1, 1)]))], [], mgh20033)
def mgx20034 : aw_A := ms_o [(0, 8)] [(0, 4)] ar_t32 ar_t32 [(0, 180)] [(44, 44)] [(1, 60)] [(0, 8)] [(0, 0)]
def mgh20035 : aw_H := [(81, mgx20034), (89, mgx494), (90, .inr (.inl (0, 240, [], []))), (92, .inr (.inl (0, 8, [], []))), (93, .inr (.inl (0, 8, [], []))), (94, mgx4446)]
def mgn6327_531 : Nat × aw_S := (46, [(0, .inl 81), (1, .inr (false, [(0, 3)])), (2, .inr (false, [(1, 1)]))], [], mgh20035)
def mgh20036 : aw_H := [(81, mgx17151), (89, mgx494), (90, .inr (.inl (0, 240, [], []))), (92, .inr (.inl (0, 8, [], []))), (93, .inr (.inl (0, 8, [], []))), (94, mgx4449)]
def mgn6327_532 : Nat × aw_S := (86, [(0, .inl 81), (1, .inr (false, [(0, 3)])), (2, .inr (false, [(1, 1)]))], [], mgh20036)
def mgh20037 : aw_H := [(81, mgx17134), (89, mgx494), (90, .inr (.inl (0, 240, [], []))), (92, .inr (.inl (0, 8, [], []))), (93, .inr (.inl (0, 8, [], []))), (94, mgx4446)]
def mgn6327_533 : Nat × aw_S := (86, [(0, .inl 81), (1, .inr (false, [(0, 3)])), (2, .inr (false, [(1, 1)]))], [], mgh20037)
def mgx20038 : aw_A := ms_o [(0, 8)] [(0, 4)] ar_t32 ar_t32 [(0, 180)] [(43, 43)] [(1, 60)] [(0, 8)] [(0, 0)]
def mgh20039 : aw_H := [(81, mgx20038), (89, mgx494), (90, .inr (.inl (0, 240, [], []))), (92, .inr (.inl (0, 8, [], []))), (93, .inr (.inl (0, 8, [], []))), (94, mgx4446)]
def mgn6327_534 : Nat × aw_S := (46, [(0, .inl 81), (1, .inr (false, [(0, 3)])), (2, .inr (false, [(1, 1)]))], [], mgh20039)
def mgh20040 : aw_H := [(81, mgx17218), (89, mgx494), (90, .inr (.inl (0, 240, [], []))), (92, .inr (.inl (0, 8, [], []))), (93, .inr (.inl (0, 8, [], []))), (94, mgx4449)]
def mgn6327_535 : Nat × aw_S := (86, [(0, .inl 81), (1, .inr (false, [(0, 3)])), (2, .inr (false, [(1, 1)]))], [], mgh20040)
def mgh20041 : aw_H := [(81, mgx17147), (89, mgx494), (90, .inr (.inl (0, 240, [], []))), (92, .inr (.inl (0, 8, [], []))), (93, .inr (.inl (0, 8, [], []))), (94, mgx4446)]
def mgn6327_536 : Nat × aw_S := (86, [(0, .inl 81), (1, .inr (false, [(0, 3)])), (2, .inr (false, [(1, 1)]))], [], mgh20041)
def mgx20042 : aw_A := ms_o [(0, 8)] [(0, 4)] ar_t32 ar_t32 [(0, 180)] [(41, 41)] [(1, 60)] [(0, 8)] [(0, 0)]
def mgh20043 : aw_H := [(81, mgx20042), (89, mgx494), (90, .inr (.inl (0, 240, [], []))), (92, .inr (.inl (0, 8, [], []))), (93, .inr (.inl (0, 8, [], []))), (94, mgx4446)]
def mgn6327_537 : Nat × aw_S := (46, [(0, .inl 81), (1, .inr (false, [(0, 3)])), (2, .inr (false, [(1, 1)]))], [], mgh20043)
def mgx20044 : aw_A := ms_o [(0, 8)] [(0, 4)] ar_t32 ar_t32 [(0, 180)] [(41, 41)] [(-1, 60)] [(0, 8)] [(0, 0)]
def mgh20045 : aw_H := [(81, mgx20044), (89, mgx494), (90, .inr (.inl (0, 240, [], []))), (92, .inr (.inl (0, 8, [], []))), (93, .inr (.inl (0, 8, [], []))), (94, mgx4446)]
def mgn6327_538 : Nat × aw_S := (46, [(0, .inl 81), (1, .inr (false, [(0, 3)])), (2, .inr (false, [(0, 0)]))], [], mgh20045)
def mgh20046 : aw_H := [(81, mgx17285), (89, mgx494), (90, .inr (.inl (0, 240, [], []))), (92, .inr (.inl (0, 8, [], []))), (93, .inr (.inl (0, 8, [], []))), (94, mgx4449)]
def mgn6327_539 : Nat × aw_S := (86, [(0, .inl 81), (1, .inr (false, [(0, 3)])), (2, .inr (false, [(1, 1)]))], [], mgh20046)
def mgh20047 : aw_H := [(81, mgx17142), (89, mgx494), (90, .inr (.inl (0, 240, [], []))), (92, .inr (.inl (0, 8, [], []))), (93, .inr (.inl (0, 8, [], []))), (94, mgx4446)]
def mgn6327_540 : Nat × aw_S := (86, [(0, .inl 81), (1, .inr (false, [(0, 3)])), (2, .inr (false, [(1, 1)]))], [], mgh20047)
def mgx20048 : aw_A := ms_o [(0, 8)] [(0, 4)] ar_t32 ar_t32 [(0, 180)] [(45, 45)] [(1, 60)] [(0, 8)] [(0, 0)]
def mgh20049 : aw_H := [(81, mgx20048), (89, mgx494), (90, .inr (.inl (0, 240, [], []))), (92, .inr (.inl (0, 8, [], []))), (93, .inr (.inl (0, 8, [], []))), (94, mgx4446)]
def mgn6327_541 : Nat × aw_S := (46, [(0, .inl 81), (1, .inr (false, [(0, 3)])), (2, .inr (false, [(1, 1)]))], [], mgh20049)
def mgh20050 : aw_H := [(81, mgx17357), (89, mgx494), (90, .inr (.inl (0, 240, [], []))), (92, .inr (.inl (0, 8, [], []))), (93, .inr (.inl (0, 8, [], []))), (94, mgx4446)]
def mgn6327_542 : Nat × aw_S := (86, [(0, .inl 81), (1, .inr (false, [(0, 3)])), (2, .inr (false, [(1, 1)]))], [], mgh20050)
def mgh20051 : aw_H := [(81, mgx17364), (89, mgx494), (90, .inr (.inl (0, 240, [], []))), (92, .inr (.inl (0, 8, [], []))), (93, .inr (.inl (0, 8, [], []))), (94, mgx4449)]
def mgn6327_543 : Nat × aw_S := (86, [(0, .inl 81), (1, .inr (false, [(0, 3)])), (2, .inr (false, [(1, 1)]))], [], mgh20051)
def mgx20052 : aw_A := ms_o [(0, 8)] [(0, 4)] ar_t32 ar_t32 [(0, 180)] [(42, 42)] [(1, 60)] [(0, 8)] [(0, 0)]
def mgh20053 : aw_H := [(81, mgx20052), (89, mgx494), (90, .inr (.inl (0, 240, [], []))), (92, .inr (.inl (0, 8, [], []))), (93, .inr (.inl (0, 8, [], []))), (94, mgx4446)]
def mgn6327_544 : Nat × aw_S := (46, [(0, .inl 81), (1, .inr (false, [(0, 3)])), (2, .inr (false, [(1, 1)]))], [], mgh20053)
def mgx20054 : aw_A := ms_o [(0, 8)] [(0, 4)] ar_t32 ar_t32 [(0, 180)] [(43, 43)] [(-1, 60)] [(0, 8)] [(0, 0)]
def mgh20055 : aw_H := [(81, mgx20054), (89, mgx494), (90, .inr (.inl (0, 240, [], []))), (92, .inr (.inl (0, 8, [], []))), (93, .inr (.inl (0, 8, [], []))), (94, mgx4446)]
def mgn6327_545 : Nat × aw_S := (46, [(0, .inl 81), (1, .inr (false, [(0, 3)])), (2, .inr (false, [(0, 0)]))], [], mgh20055)
def mgx20056 : aw_A := ms_o [(0, 8)] [(0, 4)] ar_t32 ar_t32 [(0, 180)] [(42, 42)] [(-1, 60)] [(0, 8)] [(0, 0)]
def mgh20057 : aw_H := [(81, mgx20056), (89, mgx494), (90, .inr (.inl (0, 240, [], []))), (92, .inr (.inl (0, 8, [], []))), (93, .inr (.inl (0, 8, [], []))), (94, mgx4446)]
def mgn6327_546 : Nat × aw_S := (46, [(0, .inl 81), (1, .inr (false, [(0, 3)])), (2, .inr (false, [(0, 0)]))], [], mgh20057)
def mgh20058 : aw_H := [(81, mgx17144), (89, mgx494), (90, .inr (.inl (0, 240, [], []))), (92, .inr (.inl (0, 8, [], []))), (93, .inr (.inl (0, 8, [], []))), (94, mgx4446)]
def mgn6327_547 : Nat × aw_S := (86, [(0, .inl 81), (1, .inr (false, [(0, 3)])), (2, .inr (false, [(1, 1)]))], [], mgh20058)
def mgx20059 : aw_A := ms_o [(0, 8)] [(0, 4)] ar_t32 ar_t32 [(0, 180)] [(49, 49)] [(1, 60)] [(0, 8)] [(0, 0)]
def mgh20060 : aw_H := [(81, mgx20059), (89, mgx494), (90, .inr (.inl (0, 240, [], []))), (92, .inr (.inl (0, 8, [], []))), (93, .inr (.inl (0, 8, [], []))), (94, mgx4446)]
def mgn6327_548 : Nat × aw_S := (46, [(0, .inl 81), (1, .inr (false, [(0, 3)])), (2, .inr (false, [(1, 1)]))], [], mgh20060)
def mgh20061 : aw_H := [(81, mgx17484), (89, mgx494), (90, .inr (.inl (0, 240, [], []))), (92, .inr (.inl (0, 8, [], []))), (93, .inr (.inl (0, 8, [], []))), (94, mgx4449)]
def mgn6327_549 : Nat × aw_S := (86, [(0, .inl 81), (1, .inr (false, [(0, 3)])), (2, .inr (false, [(1, 1)]))], [], mgh20061)
def mgh20062 : aw_H := [(81, mgx17467), (89, mgx494), (90, .inr (.inl (0, 240, [], []))), (92, .inr (.inl (0, 8, [], []))), (93, .inr (.inl (0, 8, [], []))), (94, mgx4446)]
def mgn6327_550 : Nat × aw_S := (86, [(0, .inl 81), (1, .inr (false, [(0, 3)])), (2, .inr (false, [(1, 1)]))], [], mgh20062)
def mgx20063 : aw_A := ms_o [(0, 8)] [(0, 4)] ar_t32 ar_t32 [(0, 180)] [(47, 47)] [(1, 60)] [(0, 8)] [(0, 0)]
def mgh20064 : aw_H := [(81, mgx20063), (89, mgx494), (90, .inr (.inl (0, 240, [], []))), (92, .inr (.inl (0, 8, [], []))), (93, .inr (.inl (0, 8, [], []))), (94, mgx4446)]
def mgn6327_551 : Nat × aw_S := (46, [(0, .inl 81), (1, .inr (false, [(0, 3)])), (2, .inr (false, [(1, 1)]))], [], mgh20064)
def mgh20065 : aw_H := [(81, mgx17477), (89, mgx494), (90, .inr (.inl (0, 240, [], []))), (92, .inr (.inl (0, 8, [], []))), (93, .inr (.inl (0, 8, [], []))), (94, mgx4446)]
def mgn6327_552 : Nat × aw_S := (86, [(0, .inl 81), (1, .inr (false, [(0, 3)])), (2, .inr (false, [(1, 1)]))], [], mgh20065)
def mgh20066 : aw_H := [(81, mgx17531), (89, mgx494), (90, .inr (.inl (0, 240, [], []))), (92, .inr (.inl (0, 8, [], []))), (93, .inr (.inl (0, 8, [], []))), (94, mgx4449)]
def mgn6327_553 : Nat × aw_S := (86, [(0, .inl 81), (1, .inr (false, [(0, 3)])), (2, .inr (false, [(1, 1)]))], [], mgh20066)
def mgx20067 : aw_A := ms_o [(0, 8)] [(0, 4)] ar_t32 ar_t32 [(0, 180)] [(48, 48)] [(1, 60)] [(0, 8)] [(0, 0)]
def mgh20068 : aw_H := [(81, mgx20067), (89, mgx494), (90, .inr (.inl (0, 240, [], []))), (92, .inr (.inl (0, 8, [], []))), (93, .inr (.inl (0, 8, [], []))), (94, mgx4446)]
def mgn6327_554 : Nat × aw_S := (46, [(0, .inl 81), (1, .inr (false, [(0, 3)])), (2, .inr (false, [(1, 1)]))], [], mgh20068)
def mgh20069 : aw_H := [(81, mgx17582), (89, mgx494), (90, .inr (.inl (0, 240, [], []))), (92, .inr (.inl (0, 8, [], []))), (93, .inr (.inl (0, 8, [], []))), (94, mgx4449)]
def mgn6327_555 : Nat × aw_S := (86, [(0, .inl 81), (1, .inr (false, [(0, 3)])), (2, .inr (false, [(1, 1)]))], [], mgh20069)
def mgh20070 : aw_H := [(81, mgx17480), (89, mgx494), (90, .inr (.inl (0, 240, [], []))), (92, .inr (.inl (0, 8, [], []))), (93, .inr (.inl (0, 8, [], []))), (94, mgx4446)]
def mgn6327_556 : Nat × aw_S := (86, [(0, .inl 81), (1, .inr (false, [(0, 3)])), (2, .inr (false, [(1, 1)]))], [], mgh20070)
def mgx20071 : aw_A := ms_o [(0, 8)] [(0, 4)] ar_t32 ar_t32 [(0, 180)] [(46, 46)] [(1, 60)] [(0, 8)] [(0, 0)]
def mgh20072 : aw_H := [(81, mgx20071), (89, mgx494), (90, .inr (.inl (0, 240, [], []))), (92, .inr (.inl (0, 8, [], []))), (93, .inr (.inl (0, 8, [], []))), (94, mgx4446)]
def mgn6327_557 : Nat × aw_S := (46, [(0, .inl 81), (1, .inr (false, [(0, 3)])), (2, .inr (false, [(1, 1)]))], [], mgh20072)
def mgx20073 : aw_A := ms_o [(0, 8)] [(0, 4)] ar_t32 ar_t32 [(0, 180)] [(49, 49)] [(-1, 60)] [(0, 8)] [(0, 0)]
def mgh20074 : aw_H := [(81, mgx20073), (89, mgx494), (90, .inr (.inl (0, 240, [], []))), (92, .inr (.inl (0, 8, [], []))), (93, .inr (.inl (0, 8, [], []))), (94, mgx4446)]
def mgn6327_558 : Nat × aw_S := (46, [(0, .inl 81), (1, .inr (false, [(0, 3)])), (2, .inr (false, [(0, 0)]))], [], mgh20074)
def mgx20075 : aw_A := ms_o [(0, 8)] [(0, 4)] ar_t32 ar_t32 [(0, 180)] [(46, 46)] [(-1, 60)] [(0, 8)] [(0, 0)]
def mgh20076 : aw_H := [(81, mgx20075), (89, mgx494), (90, .inr (.inl (0, 240, [], []))), (92, .inr (.inl (0, 8, [], []))), (93, .inr (.inl (0, 8, [], []))), (94, mgx4446)]
def mgn6327_559 : Nat × aw_S := (46, [(0, .inl 81), (1, .inr (false, [(0, 3)])), (2, .inr (false, [(0, 0)]))], [], mgh20076)
def mgx20077 : aw_A := ms_o [(0, 8)] [(0, 4)] ar_t32 ar_t32 [(0, 180)] [(48, 48)] [(-1, 60)] [(0, 8)] [(0, 0)]
def mgh20078 : aw_H := [(81, mgx20077), (89, mgx494), (90, .inr (.inl (0, 240, [], []))), (92, .inr (.inl (0, 8, [], []))), (93, .inr (.inl (0, 8, [], []))), (94, mgx4446)]
def mgn6327_560 : Nat × aw_S := (46, [(0, .inl 81), (1, .inr (false, [(0, 3)])), (2, .inr (false, [(0, 0)]))], [], mgh20078)
def mgx20079 : aw_A := ms_o [(0, 8)] [(0, 4)] ar_t32 ar_t32 [(0, 180)] [(47, 47)] [(-1, 60)] [(0, 8)] [(0, 0)]
def mgh20080 : aw_H := [(81, mgx20079), (89, mgx494), (90, .inr (.inl (0, 240, [], []))), (92, .inr (.inl (0, 8, [], []))), (93, .inr (.inl (0, 8, [], []))), (94, mgx4446)]
def mgn6327_561 : Nat × aw_S := (46, [(0, .inl 81), (1, .inr (false, [(0, 3)])), (2, .inr (false, [(0, 0)]))], [], mgh20080)
def mgh20081 : aw_H := [(81, mgx17628), (89, mgx494), (90, .inr (.inl (0, 240, [], []))), (92, .inr (.inl (0, 8, [], []))), (93, .inr (.inl (0, 8, [], []))), (94, mgx4449)]
def mgn6327_562 : Nat × aw_S := (86, [(0, .inl 81), (1, .inr (false, [(0, 3)])), (2, .inr (false, [(1, 1)]))], [], mgh20081)
def mgh20082 : aw_H := [(81, mgx17475), (89, mgx494), (90, .inr (.inl (0, 240, [], []))), (92, .inr (.inl (0, 8, [], []))), (93, .inr (.inl (0, 8, [], []))), (94, mgx4446)]
def mgn6327_563 : Nat × aw_S := (86, [(0, .inl 81), (1, .inr (false, [(0, 3)])), (2, .inr (false, [(1, 1)]))], [], mgh20082)
def mgx20083 : aw_A := ms_o [(0, 8)] [(0, 4)] ar_t32 ar_t32 [(0, 180)] [(53, 53)] [(1, 60)] [(0, 8)] [(0, 0)]
def mgh20084 : aw_H := [(81, mgx20083), (89, mgx494), (90, .inr (.inl (0, 240, [], []))), (92, .inr (.inl (0, 8, [], []))), (93, .inr (.inl (0, 8, [], []))), (94, mgx4446)]
def mgn6327_564 : Nat × aw_S := (46, [(0, .inl 81), (1, .inr (false, [(0, 3)])), (2, .inr (false, [(1, 1)]))], [], mgh20084)
def mgh20085 : aw_H := [(81, mgx17704), (89, mgx494), (90, .inr (.inl (0, 240, [], []))), (92, .inr (.inl (0, 8, [], []))), (93, .inr (.inl (0, 8, [], []))), (94, mgx4449)]
def mgn6327_565 : Nat × aw_S := (86, [(0, .inl 81), (1, .inr (false, [(0, 3)])), (2, .inr (false, [(1, 1)]))], [], mgh20085)
def mgh20086 : aw_H := [(81, mgx17687), (89, mgx494), (90, .inr (.inl (0, 240, [], []))), (92, .inr (.inl (0, 8, [], []))), (93, .inr (.inl (0, 8, [], []))), (94, mgx4446)]
def mgn6327_566 : Nat × aw_S := (86, [(0, .inl 81), (1, .inr (false, [(0, 3)])), (2, .inr (false, [(1, 1)]))], [], mgh20086)
def mgx20087 : aw_A := ms_o [(0, 8)] [(0, 4)] ar_t32 ar_t32 [(0, 180)] [(50, 50)] [(1, 60)] [(0, 8)] [(0, 0)]
def mgh20088 : aw_H := [(81, mgx20087), (89, mgx494), (90, .inr (.inl (0, 240, [], []))), (92, .inr (.inl (0, 8, [], []))), (93, .inr (.inl (0, 8, [], []))), (94, mgx4446)]
def mgn6327_567 : Nat × aw_S := (46, [(0, .inl 81), (1, .inr (false, [(0, 3)])), (2, .inr (false, [(1, 1)]))], [], mgh20088)
def mgh20089 : aw_H := [(81, mgx17735), (89, mgx494), (90, .inr (.inl (0, 240, [], []))), (92, .inr (.inl (0, 8, [], []))), (93, .inr (.inl (0, 8, [], []))), (94, mgx4449)]
def mgn6327_568 : Nat × aw_S := (86, [(0, .inl 81), (1, .inr (false, [(0, 3)])), (2, .inr (false, [(1, 1)]))], [], mgh20089)
def mgh20090 : aw_H := [(81, mgx17695), (89, mgx494), (90, .inr (.inl (0, 240, [], []))), (92, .inr (.inl (0, 8, [], []))), (93, .inr (.inl (0, 8, [], []))), (94, mgx4446)]
def mgn6327_569 : Nat × aw_S := (86, [(0, .inl 81), (1, .inr (false, [(0, 3)])), (2, .inr (false, [(1, 1)]))], [], mgh20090)
def mgx20091 : aw_A := ms_o [(0, 8)] [(0, 4)] ar_t32 ar_t32 [(0, 180)] [(54, 54)] [(1, 60)] [(0, 8)] [(0, 0)]
def mgh20092 : aw_H := [(81, mgx20091), (89, mgx494), (90, .inr (.inl (0, 240, [], []))), (92, .inr (.inl (0, 8, [], []))), (93, .inr (.inl (0, 8, [], []))), (94, mgx4446)]
def mgn6327_570 : Nat × aw_S := (46, [(0, .inl 81), (1, .inr (false, [(0, 3)])), (2, .inr (false, [(1, 1)]))], [], mgh20092)
def mgh20093 : aw_H := [(81, mgx17779), (89, mgx494), (90, .inr (.inl (0, 240, [], []))), (92, .inr (.inl (0, 8, [], []))), (93, .inr (.inl (0, 8, [], []))), (94, mgx4449)]
def mgn6327_571 : Nat × aw_S := (86, [(0, .inl 81), (1, .inr (false, [(0, 3)])), (2, .inr (false, [(1, 1)]))], [], mgh20093)
def mgh20094 : aw_H := [(81, mgx17771), (89, mgx494), (90, .inr (.inl (0, 240, [], []))), (92, .inr (.inl (0, 8, [], []))), (93, .inr (.inl (0, 8, [], []))), (94, mgx4446)]
def mgn6327_572 : Nat × aw_S := (86, [(0, .inl 81), (1, .inr (false, [(0, 3)])), (2, .inr (false, [(1, 1)]))], [], mgh20094)
def mgx20095 : aw_A := ms_o [(0, 8)] [(0, 4)] ar_t32 ar_t32 [(0, 180)] [(50, 50)] [(-1, 60)] [(0, 8)] [(0, 0)]
def mgh20096 : aw_H := [(81, mgx20095), (89, mgx494), (90, .inr (.inl (0, 240, [], []))), (92, .inr (.inl (0, 8, [], []))), (93, .inr (.inl (0, 8, [], []))), (94, mgx4446)]
def mgn6327_573 : Nat × aw_S := (46, [(0, .inl 81), (1, .inr (false, [(0, 3)])), (2, .inr (false, [(0, 0)]))], [], mgh20096)
def mgx20097 : aw_A := ms_o [(0, 8)] [(0, 4)] ar_t32 ar_t32 [(0, 180)] [(52, 52)] [(1, 60)] [(0, 8)] [(0, 0)]
def mgh20098 : aw_H := [(81, mgx20097), (89, mgx494), (90, .inr (.inl (0, 240, [], []))), (92, .inr (.inl (0, 8, [], []))), (93, .inr (.inl (0, 8, [], []))), (94, mgx4446)]
def mgn6327_574 : Nat × aw_S := (46, [(0, .inl 81), (1, .inr (false, [(0, 3)])), (2, .inr (false, [(1, 1)]))], [], mgh20098)
def mgh20099 : aw_H := [(81, mgx17803), (89, mgx494), (90, .inr (.inl (0, 240, [], []))), (92, .inr (.inl (0, 8, [], []))), (93, .inr (.inl (0, 8, [], []))), (94, mgx4449)]
def mgn6327_575 : Nat × aw_S := (86, [(0, .inl 81), (1, .inr (false, [(0, 3)])), (2, .inr (false, [(1, 1)]))], [], mgh20099)
def mgh20100 : aw_H := [(81, mgx17700), (89, mgx494), (90, .inr (.inl (0, 240, [], []))), (92, .inr (.inl (0, 8, [], []))), (93, .inr (.inl (0, 8, [], []))), (94, mgx4446)]
def mgn6327_576 : Nat × aw_S := (86, [(0, .inl 81), (1, .inr (false, [(0, 3)])), (2, .inr (false, [(1, 1)]))], [], mgh20100)
def mgh20101 : aw_H := [(81, mgx17424), (89, mgx494), (90, .inr (.inl (0, 240, [], []))), (92, .inr (.inl (0, 8, [], []))), (93, .inr (.inl (0, 8, [], []))), (94, mgx4449)]
def mgn6327_577 : Nat × aw_S := (86, [(0, .inl 81), (1, .inr (false, [(0, 3)])), (2, .inr (false, [(1, 1)]))], [], mgh20101)
def mgx20102 : aw_A := ms_o [(0, 8)] [(0, 4)] ar_t32 ar_t32 [(0, 180)] [(44, 44)] [(-1, 60)] [(0, 8)] [(0, 0)]
def mgh20103 : aw_H := [(81, mgx20102), (89, mgx494), (90, .inr (.inl (0, 240, [], []))), (92, .inr (.inl (0, 8, [], []))), (93, .inr (.inl (0, 8, [], []))), (94, mgx4446)]
def mgn6327_578 : Nat × aw_S := (46, [(0, .inl 81), (1, .inr (false, [(0, 3)])), (2, .inr (false, [(0, 0)]))], [], mgh20103)
def mgx20104 : aw_A := ms_o [(0, 8)] [(0, 4)] ar_t32 ar_t32 [(0, 180)] [(45, 45)] [(-1, 60)] [(0, 8)] [(0, 0)]
def mgh20105 : aw_H := [(81, mgx20104), (89, mgx494), (90, .inr (.inl (0, 240, [], []))), (92, .inr (.inl (0, 8, [], []))), (93, .inr (.inl (0, 8, [], []))), (94, mgx4446)]
def mgn6327_579 : Nat × aw_S := (46, [(0, .inl 81), (1, .inr (false, [(0, 3)])), (2, .inr (false, [(0, 0)]))], [], mgh20105)
def mgx20106 : aw_A := ms_o [(0, 8)] [(0, 4)] ar_t32 ar_t32 [(0, 180)] [(51, 51)] [(1, 60)] [(0, 8)] [(0, 0)]
def mgh20107 : aw_H := [(81, mgx20106), (89, mgx494), (90, .inr (.inl (0, 240, [], []))), (92, .inr (.inl (0, 8, [], []))), (93, .inr (.inl (0, 8, [], []))), (94, mgx4446)]
def mgn6327_580 : Nat × aw_S := (46, [(0, .inl 81), (1, .inr (false, [(0, 3)])), (2, .inr (false, [(1, 1)]))], [], mgh20107)
def mgh20108 : aw_H := [(81, mgx17865), (89, mgx494), (90, .inr (.inl (0, 240, [], []))), (92, .inr (.inl (0, 8, [], []))), (93, .inr (.inl (0, 8, [], []))), (94, mgx4449)]
def mgn6327_581 : Nat × aw_S := (86, [(0, .inl 81), (1, .inr (false, [(0, 3)])), (2, .inr (false, [(1, 1)]))], [], mgh20108)
def mgh20109 : aw_H := [(81, mgx17697), (89, mgx494), (90, .inr (.inl (0, 240, [], []))), (92, .inr (.inl (0, 8, [], []))), (93, .inr (.inl (0, 8, [], []))), (94, mgx4446)]
def mgn6327_582 : Nat × aw_S := (86, [(0, .inl 81), (1, .inr (false, [(0, 3)])), (2, .inr (false, [(1, 1)]))], [], mgh20109)
def mgx20110 : aw_A := ms_o [(0, 8)] [(0, 4)] ar_t32 ar_t32 [(0, 180)] [(57, 57)] [(1, 60)] [(0, 8)] [(0, 0)]
def mgh20111 : aw_H := [(81, mgx20110), (89, mgx494), (90, .inr (.inl (0, 240, [], []))), (92, .inr (.inl (0, 8, [], []))), (93, .inr (.inl (0, 8, [], []))), (94, mgx4446)]
def mgn6327_583 : Nat × aw_S := (46, [(0, .inl 81), (1, .inr (false, [(0, 3)])), (2, .inr (false, [(1, 1)]))], [], mgh20111)
def mgh20112 : aw_H := [(81, mgx17909), (89, mgx494), (90, .inr (.inl (0, 240, [], []))), (92, .inr (.inl (0, 8, [], []))), (93, .inr (.inl (0, 8, [], []))), (94, mgx4449)]
def mgn6327_584 : Nat × aw_S := (86, [(0, .inl 81), (1, .inr (false, [(0, 3)])), (2, .inr (false, [(1, 1)]))], [], mgh20112)
def mgx20113 : aw_A := ms_o [(0, 8)] [(0, 4)] ar_t32 ar_t32 [(0, 180)] [(56, 56)] [(1, 60)] [(0, 8)] [(0, 0)]
def mgh20114 : aw_H := [(81, mgx20113), (89, mgx494), (90, .inr (.inl (0, 240, [], []))), (92, .inr (.inl (0, 8, [], []))), (93, .inr (.inl (0, 8, [], []))), (94, mgx4446)]
def mgn6327_585 : Nat × aw_S := (46, [(0, .inl 81), (1, .inr (false, [(0, 3)])), (2, .inr (false, [(1, 1)]))], [], mgh20114)
def mgh20115 : aw_H := [(81, mgx17924), (89, mgx494), (90, .inr (.inl (0, 240, [], []))), (92, .inr (.inl (0, 8, [], []))), (93, .inr (.inl (0, 8, [], []))), (94, mgx4449)]
def mgn6327_586 : Nat × aw_S := (86, [(0, .inl 81), (1, .inr (false, [(0, 3)])), (2, .inr (false, [(1, 1)]))], [], mgh20115)
def mgh20116 : aw_H := [(81, mgx17905), (89, mgx494), (90, .inr (.inl (0, 240, [], []))), (92, .inr (.inl (0, 8, [], []))), (93, .inr (.inl (0, 8, [], []))), (94, mgx4446)]
def mgn6327_587 : Nat × aw_S := (86, [(0, .inl 81), (1, .inr (false, [(0, 3)])), (2, .inr (false, [(1, 1)]))], [], mgh20116)
def mgx20117 : aw_A := ms_o [(0, 8)] [(0, 4)] ar_t32 ar_t32 [(0, 180)] [(58, 58)] [(1, 60)] [(0, 8)] [(0, 0)]
def mgh20118 : aw_H := [(81, mgx20117), (89, mgx494), (90, .inr (.inl (0, 240, [], []))), (92, .inr (.inl (0, 8, [], []))), (93, .inr (.inl (0, 8, [], []))), (94, mgx4446)]
def mgn6327_588 : Nat × aw_S := (46, [(0, .inl 81), (1, .inr (false, [(0, 3)])), (2, .inr (false, [(1, 1)]))], [], mgh20118)
def mgx20119 : aw_A := ms_o [(0, 8)] [(0, 4)] ar_t32 ar_t32 [(0, 180)] [(55, 55)] [(1, 60)] [(0, 8)] [(0, 0)]
def mgh20120 : aw_H := [(81, mgx20119), (89, mgx494), (90, .inr (.inl (0, 240, [], []))), (92, .inr (.inl (0, 8, [], []))), (93, .inr (.inl (0, 8, [], []))), (94, mgx4446)]
def mgn6327_589 : Nat × aw_S := (46, [(0, .inl 81), (1, .inr (false, [(0, 3)])), (2, .inr (false, [(1, 1)]))], [], mgh20120)
def mgh20121 : aw_H := [(81, mgx17903), (89, mgx494), (90, .inr (.inl (0, 240, [], []))), (92, .inr (.inl (0, 8, [], []))), (93, .inr (.inl (0, 8, [], []))), (94, mgx4446)]
def mgn6327_590 : Nat × aw_S := (86, [(0, .inl 81), (1, .inr (false, [(0, 3)])), (2, .inr (false, [(1, 1)]))], [], mgh20121)
def mgx20122 : aw_A := ms_o [(0, 8)] [(0, 4)] ar_t32 ar_t32 [(0, 180)] [(60, 60)] [(1, 60)] [(0, 8)] [(0, 0)]
def mgh20123 : aw_H := [(81, mgx20122), (89, mgx494), (90, .inr (.inl (0, 240, [], []))), (92, .inr (.inl (0, 8, [], []))), (93, .inr (.inl (0, 8, [], []))), (94, mgx4446)]
def mgn6327_591 : Nat × aw_S := (46, [(0, .inl 81), (1, .inr (false, [(0, 3)])), (2, .inr (false, [(1, 1)]))], [], mgh20123)
def mgx20124 : aw_A := ms_o [(0, 8)] [(0, 4)] ar_t32 ar_t32 [(0, 180)] [(59, 59)] [(1, 60)] [(0, 8)] [(0, 0)]
def mgh20125 : aw_H := [(81, mgx20124), (89, mgx494), (90, .inr (.inl (0, 240, [], []))), (92, .inr (.inl (0, 8, [], []))), (93, .inr (.inl (0, 8, [], []))), (94, mgx4446)]
def mgn6327_592 : Nat × aw_S := (46, [(0, .inl 81), (1, .inr (false, [(0, 3)])), (2, .inr (false, [(1, 1)]))], [], mgh20125)
def mgx20126 : aw_A := ms_o [(0, 8)] [(0, 4)] ar_t32 ar_t32 [(0, 180)] [(60, 60)] [(-1, 60)] [(0, 8)] [(0, 0)]
def mgh20127 : aw_H := [(81, mgx20126), (89, mgx494), (90, .inr (.inl (0, 240, [], []))), (92, .inr (.inl (0, 8, [], []))), (93, .inr (.inl (0, 8, [], []))), (94, mgx4446)]
def mgn6327_593 : Nat × aw_S := (46, [(0, .inl 81), (1, .inr (false, [(0, 3)])), (2, .inr (false, [(0, 0)]))], [], mgh20127)
def mgx20128 : aw_A := ms_o [(0, 8)] [(0, 4)] ar_t32 ar_t32 [(0, 180)] [(59, 59)] [(-1, 60)] [(0, 8)] [(0, 0)]
def mgh20129 : aw_H := [(81, mgx20128), (89, mgx494), (90, .inr (.inl (0, 240, [], []))), (92, .inr (.inl (0, 8, [], []))), (93, .inr (.inl (0, 8, [], []))), (94, mgx4446)]
def mgn6327_594 : Nat × aw_S := (46, [(0, .inl 81), (1, .inr (false, [(0, 3)])), (2, .inr (false, [(0, 0)]))], [], mgh20129)
def mgh20130 : aw_H := [(81, mgx17944), (89, mgx494), (90, .inr (.inl (0, 240, [], []))), (92, .inr (.inl (0, 8, [], []))), (93, .inr (.inl (0, 8, [], []))), (94, mgx4449)]
def mgn6327_595 : Nat × aw_S := (86, [(0, .inl 81), (1, .inr (false, [(0, 3)])), (2, .inr (false, [(1, 1)]))], [], mgh20130)
def mgx20131 : aw_A := ms_o [(0, 8)] [(0, 4)] ar_t32 ar_t32 [(0, 180)] [(57, 57)] [(-1, 60)] [(0, 8)] [(0, 0)]
def mgh20132 : aw_H := [(81, mgx20131), (89, mgx494), (90, .inr (.inl (0, 240, [], []))), (92, .inr (.inl (0, 8, [], []))), (93, .inr (.inl (0, 8, [], []))), (94, mgx4446)]
def mgn6327_596 : Nat × aw_S := (46, [(0, .inl 81), (1, .inr (false, [(0, 3)])), (2, .inr (false, [(0, 0)]))], [], mgh20132)
def mgx20133 : aw_A := ms_o [(0, 8)] [(0, 4)] ar_t32 ar_t32 [(0, 180)] [(55, 55)] [(-1, 60)] [(0, 8)] [(0, 0)]
def mgh20134 : aw_H := [(81, mgx20133), (89, mgx494), (90, .inr (.inl (0, 240, [], []))), (92, .inr (.inl (0, 8, [], []))), (93, .inr (.inl (0, 8, [], []))), (94, mgx4446)]
def mgn6327_597 : Nat × aw_S := (46, [(0, .inl 81), (1, .inr (false, [(0, 3)])), (2, .inr (false, [(0, 0)]))], [], mgh20134)
def mgx20135 : aw_A := ms_o [(0, 8)] [(0, 4)] ar_t32 ar_t32 [(0, 180)] [(56, 56)] [(-1, 60)] [(0, 8)] [(0, 0)]
def mgh20136 : aw_H := [(81, mgx20135), (89, mgx494), (90, .inr (.inl (0, 240, [], []))), (92, .inr (.inl (0, 8, [], []))), (93, .inr (.inl (0, 8, [], []))), (94, mgx4446)]
def mgn6327_598 : Nat × aw_S := (46, [(0, .inl 81), (1, .inr (false, [(0, 3)])), (2, .inr (false, [(0, 0)]))], [], mgh20136)
def mgx20137 : aw_A := ms_o [(0, 8)] [(0, 4)] ar_t32 ar_t32 [(0, 180)] [(58, 58)] [(-1, 60)] [(0, 8)] [(0, 0)]
def mgh20138 : aw_H := [(81, mgx20137), (89, mgx494), (90, .inr (.inl (0, 240, [], []))), (92, .inr (.inl (0, 8, [], []))), (93, .inr (.inl (0, 8, [], []))), (94, mgx4446)]
def mgn6327_599 : Nat × aw_S := (46, [(0, .inl 81), (1, .inr (false, [(0, 3)])), (2, .inr (false, [(0, 0)]))], [], mgh20138)
def mgx20139 : aw_A := ms_o [(0, 8)] [(0, 4)] ar_t32 ar_t32 [(0, 180)] [(53, 53)] [(-1, 60)] [(0, 8)] [(0, 0)]
def mgh20140 : aw_H := [(81, mgx20139), (89, mgx494), (90, .inr (.inl (0, 240, [], []))), (92, .inr (.inl (0, 8, [], []))), (93, .inr (.inl (0, 8, [], []))), (94, mgx4446)]
def mgn6327_600 : Nat × aw_S := (46, [(0, .inl 81), (1, .inr (false, [(0, 3)])), (2, .inr (false, [(0, 0)]))], [], mgh20140)
def mgx20141 : aw_A := ms_o [(0, 8)] [(0, 4)] ar_t32 ar_t32 [(0, 180)] [(52, 52)] [(-1, 60)] [(0, 8)] [(0, 0)]
def mgh20142 : aw_H := [(81, mgx20141), (89, mgx494), (90, .inr (.inl (0, 240, [], []))), (92, .inr (.inl (0, 8, [], []))), (93, .inr (.inl (0, 8, [], []))), (94, mgx4446)]
def mgn6327_601 : Nat × aw_S := (46, [(0, .inl 81), (1, .inr (false, [(0, 3)])), (2, .inr (false, [(0, 0)]))], [], mgh20142)
def mgx20143 : aw_A := ms_o [(0, 8)] [(0, 4)] ar_t32 ar_t32 [(0, 180)] [(51, 51)] [(-1, 60)] [(0, 8)] [(0, 0)]
def mgh20144 : aw_H := [(81, mgx20143), (89, mgx494), (90, .inr (.inl (0, 240, [], []))), (92, .inr (.inl (0, 8, [], []))), (93, .inr (.inl (0, 8, [], []))), (94, mgx4446)]
def mgn6327_602 : Nat × aw_S := (46, [(0, .inl 81), (1, .inr (false, [(0, 3)])), (2, .inr (false, [(0, 0)]))], [], mgh20144)
def mgx20145 : aw_A := ms_o [(0, 8)] [(0, 4)] ar_t32 ar_t32 [(0, 180)] [(54, 54)] [(-1, 60)] [(0, 8)] [(0, 0)]
def mgh20146 : aw_H := [(81, mgx20145), (89, mgx494), (90, .inr (.inl (0, 240, [], []))), (92, .inr (.inl (0, 8, [], []))), (93, .inr (.inl (0, 8, [], []))), (94, mgx4446)]
def mgn6327_603 : Nat × aw_S := (46, [(0, .inl 81), (1, .inr (false, [(0, 3)])), (2, .inr (false, [(0, 0)]))], [], mgh20146)
def mgx20147 : aw_A := ms_o [(0, 8)] [(0, 4)] ar_t32 ar_t32 [(0, 180)] [(37, 37)] [(-1, 60)] [(0, 8)] [(0, 0)]
def mgh20148 : aw_H := [(81, mgx20147), (89, mgx494), (90, .inr (.inl (0, 240, [], []))), (92, .inr (.inl (0, 8, [], []))), (93, .inr (.inl (0, 8, [], []))), (94, mgx4446)]
def mgn6327_604 : Nat × aw_S := (46, [(0, .inl 81), (1, .inr (false, [(0, 3)])), (2, .inr (false, [(0, 0)]))], [], mgh20148)
def mgx20149 : aw_A := ms_o [(0, 8)] [(0, 4)] ar_t32 ar_t32 [(0, 180)] [(34, 34)] [(-1, 60)] [(0, 8)] [(0, 0)]
def mgh20150 : aw_H := [(81, mgx20149), (89, mgx494), (90, .inr (.inl (0, 240, [], []))), (92, .inr (.inl (0, 8, [], []))), (93, .inr (.inl (0, 8, [], []))), (94, mgx4446)]
def mgn6327_605 : Nat × aw_S := (46, [(0, .inl 81), (1, .inr (false, [(0, 3)])), (2, .inr (false, [(0, 0)]))], [], mgh20150)
def mgx20151 : aw_A := ms_o [(0, 8)] [(0, 4)] ar_t32 ar_t32 [(0, 180)] [(36, 36)] [(-1, 60)] [(0, 8)] [(0, 0)]
def mgh20152 : aw_H := [(81, mgx20151), (89, mgx494), (90, .inr (.inl (0, 240, [], []))), (92, .inr (.inl (0, 8, [], []))), (93, .inr (.inl (0, 8, [], []))), (94, mgx4446)]
def mgn6327_606 : Nat × aw_S := (46, [(0, .inl 81), (1, .inr (false, [(0, 3)])), (2, .inr (false, [(0, 0)]))], [], mgh20152)
def mgh20153 : aw_H := [(81, mgx14075), (89, mgx494), (90, .inr (.inl (0, 240, [], []))), (92, .inr (.inl (0, 8, [], []))), (93, .inr (.inl (0, 8, [], []))), (94, mgx4449)]
def mgn6327_607 : Nat × aw_S := (86, [(0, .inl 81), (1, .inr (false, [(0, 3)])), (2, .inr (false, [(1, 1)]))], [], mgh20153)
def mgx20154 : aw_A := ms_o [(0, 8)] [(0, 4)] ar_t32 ar_t32 [(0, 180)] [(46, 46)] [(8, 60)] [(1, 8)] [(1, 1)]
def mgh20155 : aw_H := [(81, mgx20154), (89, mgx494), (90, .inr (.inl (0, 240, [], []))), (92, .inr (.inl (0, 8, [], []))), (93, .inr (.inl (0, 8, [], []))), (94, mgx4449)]
def mgn6327_608 : Nat × aw_S := (46, [(0, .inl 81), (1, .inr (false, [(0, 3)])), (2, .inr (false, [(1, 1)]))], [], mgh20155)
def mgh20156 : aw_H := [(81, mgx18009), (89, mgx494), (90, .inr (.inl (0, 240, [], []))), (92, .inr (.inl (0, 8, [], []))), (93, .inr (.inl (0, 8, [], []))), (94, mgx6150)]
def mgn6327_609 : Nat × aw_S := (86, [(0, .inl 81), (1, .inr (false, [(0, 3)])), (2, .inr (false, [(1, 1)]))], [], mgh20156)
def mgx20157 : aw_A := ms_o [(0, 8)] [(0, 4)] ar_t32 ar_t32 [(0, 180)] [(59, 59)] [(8, 60)] [(1, 8)] [(1, 1)]
def mgh20158 : aw_H := [(81, mgx20157), (89, mgx494), (90, .inr (.inl (0, 240, [], []))), (92, .inr (.inl (0, 8, [], []))), (93, .inr (.inl (0, 8, [], []))), (94, mgx4449)]
def mgn6327_610 : Nat × aw_S := (46, [(0, .inl 81), (1, .inr (false, [(0, 3)])), (2, .inr (false, [(1, 1)]))], [], mgh20158)
def mgx20159 : aw_A := ms_o [(0, 8)] [(0, 4)] ar_t32 ar_t32 [(0, 180)] [(51, 51)] [(8, 60)] [(1, 8)] [(1, 1)]
def mgh20160 : aw_H := [(81, mgx20159), (89, mgx494), (90, .inr (.inl (0, 240, [], []))), (92, .inr (.inl (0, 8, [], []))), (93, .inr (.inl (0, 8, [], []))), (94, mgx4449)]
def mgn6327_611 : Nat × aw_S := (46, [(0, .inl 81), (1, .inr (false, [(0, 3)])), (2, .inr (false, [(1, 1)]))], [], mgh20160)
def mgh20161 : aw_H := [(81, mgx18042), (89, mgx494), (90, .inr (.inl (0, 240, [], []))), (92, .inr (.inl (0, 8, [], []))), (93, .inr (.inl (0, 8, [], []))), (94, mgx6150)]
def mgn6327_612 : Nat × aw_S := (86, [(0, .inl 81), (1, .inr (false, [(0, 3)])), (2, .inr (false, [(1, 1)]))], [], mgh20161)
def mgx20162 : aw_A := ms_o [(0, 8)] [(0, 4)] ar_t32 ar_t32 [(0, 180)] [(37, 37)] [(8, 60)] [(1, 8)] [(1, 1)]
def mgh20163 : aw_H := [(81, mgx20162), (89, mgx494), (90, .inr (.inl (0, 240, [], []))), (92, .inr (.inl (0, 8, [], []))), (93, .inr (.inl (0, 8, [], []))), (94, mgx4449)]
def mgn6327_613 : Nat × aw_S := (46, [(0, .inl 81), (1, .inr (false, [(0, 3)])), (2, .inr (false, [(1, 1)]))], [], mgh20163)
def mgh20164 : aw_H := [(81, mgx16071), (89, mgx494), (90, .inr (.inl (0, 240, [], []))), (92, .inr (.inl (0, 8, [], []))), (93, .inr (.inl (0, 8, [], []))), (94, mgx6150)]
def mgn6327_614 : Nat × aw_S := (86, [(0, .inl 81), (1, .inr (false, [(0, 3)])), (2, .inr (false, [(1, 1)]))], [], mgh20164)
def mgx20165 : aw_A := ms_o [(0, 8)] [(0, 4)] ar_t32 ar_t32 [(0, 180)] [(40, 40)] [(11, 60)] [(1, 8)] [(2, 2)]
def mgh20166 : aw_H := [(81, mgx20165), (89, mgx494), (90, .inr (.inl (0, 240, [], []))), (92, .inr (.inl (0, 8, [], []))), (93, .inr (.inl (0, 8, [], []))), (94, mgx6150)]
def mgn6327_615 : Nat × aw_S := (46, [(0, .inl 81), (1, .inr (false, [(0, 3)])), (2, .inr (false, [(1, 1)]))], [], mgh20166)
def mgh20167 : aw_H := [(81, mgx16616), (89, mgx494), (90, .inr (.inl (0, 240, [], []))), (92, .inr (.inl (0, 8, [], []))), (93, .inr (.inl (0, 8, [], []))), (94, mgx6362)]
def mgn6327_616 : Nat × aw_S := (86, [(0, .inl 81), (1, .inr (false, [(0, 3)])), (2, .inr (false, [(1, 1)]))], [], mgh20167)
def mgx20168 : aw_A := ms_o [(0, 8)] [(0, 4)] ar_t32 ar_t32 [(0, 180)] [(43, 43)] [(14, 60)] [(1, 8)] [(3, 3)]
def mgh20169 : aw_H := [(81, mgx20168), (89, mgx494), (90, .inr (.inl (0, 240, [], []))), (92, .inr (.inl (0, 8, [], []))), (93, .inr (.inl (0, 8, [], []))), (94, mgx6362)]
def mgn6327_617 : Nat × aw_S := (46, [(0, .inl 81), (1, .inr (false, [(0, 3)])), (2, .inr (false, [(1, 1)]))], [], mgh20169)
def mgn6327_618 : Nat × aw_S := (46, [(0, .inl 81), (1, .inr (false, [(0, 3)])), (2, .inr (false, [(0, 0)]))], [], mgh20167)
def mgh20170 : aw_H := [(81, mgx18151), (89, mgx494), (90, .inr (.inl (0, 240, [], []))), (92, .inr (.inl (0, 8, [], []))), (93, .inr (.inl (0, 8, [], []))), (94, mgx6473)]
def mgn6327_619 : Nat × aw_S := (86, [(0, .inl 81), (1, .inr (false, [(0, 3)])), (2, .inr (false, [(1, 1)]))], [], mgh20170)
def mgx20171 : aw_A := ms_o [(0, 8)] [(0, 4)] ar_t32 ar_t32 [(0, 180)] [(46, 46)] [(17, 60)] [(1, 8)] [(4, 4)]
def mgh20172 : aw_H := [(81, mgx20171), (89, mgx494), (90, .inr (.inl (0, 240, [], []))), (92, .inr (.inl (0, 8, [], []))), (93, .inr (.inl (0, 8, [], []))), (94, mgx6473)]
def mgn6327_620 : Nat × aw_S := (46, [(0, .inl 81), (1, .inr (false, [(0, 3)])), (2, .inr (false, [(1, 1)]))], [], mgh20172)
def mgh20173 : aw_H := [(81, mgx18185), (89, mgx494), (90, .inr (.inl (0, 240, [], []))), (92, .inr (.inl (0, 8, [], []))), (93, .inr (.inl (0, 8, [], []))), (94, mgx6473)]
def mgn6327_621 : Nat × aw_S := (46, [(0, .inl 81), (1, .inr (false, [(0, 3)])), (2, .inr (false, [(0, 0)]))], [], mgh20173)
def mgn6327_622 : Nat × aw_S := (46, [(0, .inl 81), (1, .inr (false, [(0, 3)])), (2, .inr (false, [(0, 0)]))], [], mgh20164)
def mgn6327_623 : Nat × aw_S := (46, [(0, .inl 81), (1, .inr (false, [(0, 3)])), (2, .inr (false, [(0, 0)]))], [], mgh20153)
def mgx20174 : aw_A := ms_o [(0, 8)] [(0, 4)] ar_t32 ar_t32 [(0, 180)] [(54, 54)] [(8, 60)] [(1, 8)] [(1, 1)]
def mgh20175 : aw_H := [(81, mgx20174), (89, mgx494), (90, .inr (.inl (0, 240, [], []))), (92, .inr (.inl (0, 8, [], []))), (93, .inr (.inl (0, 8, [], []))), (94, mgx4449)]
def mgn6327_624 : Nat × aw_S := (46, [(0, .inl 81), (1, .inr (false, [(0, 3)])), (2, .inr (false, [(1, 1)]))], [], mgh20175)
def mgh20176 : aw_H := [(81, mgx18191), (89, mgx494), (90, .inr (.inl (0, 240, [], []))), (92, .inr (.inl (0, 8, [], []))), (93, .inr (.inl (0, 8, [], []))), (94, mgx6150)]
def mgn6327_625 : Nat × aw_S := (86, [(0, .inl 81), (1, .inr (false, [(0, 3)])), (2, .inr (false, [(1, 1)]))], [], mgh20176)
def mgx20177 : aw_A := ms_o [(0, 8)] [(0, 4)] ar_t32 ar_t32 [(0, 180)] [(58, 58)] [(8, 60)] [(1, 8)] [(1, 1)]
def mgh20178 : aw_H := [(81, mgx20177), (89, mgx494), (90, .inr (.inl (0, 240, [], []))), (92, .inr (.inl (0, 8, [], []))), (93, .inr (.inl (0, 8, [], []))), (94, mgx4449)]
def mgn6327_626 : Nat × aw_S := (46, [(0, .inl 81), (1, .inr (false, [(0, 3)])), (2, .inr (false, [(1, 1)]))], [], mgh20178)
def mgn6327_627 : Nat × aw_S := (46, [(0, .inl 81), (1, .inr (false, [(0, 3)])), (2, .inr (false, [(0, 0)]))], [], mgh20112)
def mgx20179 : aw_A := ms_o [(0, 8)] [(0, 4)] ar_t32 ar_t32 [(0, 180)] [(38, 38)] [(8, 60)] [(1, 8)] [(1, 1)]
def mgh20180 : aw_H := [(81, mgx20179), (89, mgx494), (90, .inr (.inl (0, 240, [], []))), (92, .inr (.inl (0, 8, [], []))), (93, .inr (.inl (0, 8, [], []))), (94, mgx4449)]
def mgn6327_628 : Nat × aw_S := (46, [(0, .inl 81), (1, .inr (false, [(0, 3)])), (2, .inr (false, [(1, 1)]))], [], mgh20180)
def mgh20181 : aw_H := [(81, mgx16073), (89, mgx494), (90, .inr (.inl (0, 240, [], []))), (92, .inr (.inl (0, 8, [], []))), (93, .inr (.inl (0, 8, [], []))), (94, mgx6150)]
def mgn6327_629 : Nat × aw_S := (86, [(0, .inl 81), (1, .inr (false, [(0, 3)])), (2, .inr (false, [(1, 1)]))], [], mgh20181)
def mgx20182 : aw_A := ms_o [(0, 8)] [(0, 4)] ar_t32 ar_t32 [(0, 180)] [(41, 41)] [(11, 60)] [(1, 8)] [(2, 2)]
def mgh20183 : aw_H := [(81, mgx20182), (89, mgx494), (90, .inr (.inl (0, 240, [], []))), (92, .inr (.inl (0, 8, [], []))), (93, .inr (.inl (0, 8, [], []))), (94, mgx6150)]
def mgn6327_630 : Nat × aw_S := (46, [(0, .inl 81), (1, .inr (false, [(0, 3)])), (2, .inr (false, [(1, 1)]))], [], mgh20183)
def mgh20184 : aw_H := [(81, mgx16618), (89, mgx494), (90, .inr (.inl (0, 240, [], []))), (92, .inr (.inl (0, 8, [], []))), (93, .inr (.inl (0, 8, [], []))), (94, mgx6362)]
def mgn6327_631 : Nat × aw_S := (86, [(0, .inl 81), (1, .inr (false, [(0, 3)])), (2, .inr (false, [(1, 1)]))], [], mgh20184)
def mgx20185 : aw_A := ms_o [(0, 8)] [(0, 4)] ar_t32 ar_t32 [(0, 180)] [(44, 44)] [(14, 60)] [(1, 8)] [(3, 3)]
def mgh20186 : aw_H := [(81, mgx20185), (89, mgx494), (90, .inr (.inl (0, 240, [], []))), (92, .inr (.inl (0, 8, [], []))), (93, .inr (.inl (0, 8, [], []))), (94, mgx6362)]
def mgn6327_632 : Nat × aw_S := (46, [(0, .inl 81), (1, .inr (false, [(0, 3)])), (2, .inr (false, [(1, 1)]))], [], mgh20186)
def mgh20187 : aw_H := [(81, mgx18293), (89, mgx494), (90, .inr (.inl (0, 240, [], []))), (92, .inr (.inl (0, 8, [], []))), (93, .inr (.inl (0, 8, [], []))), (94, mgx6473)]
def mgn6327_633 : Nat × aw_S := (86, [(0, .inl 81), (1, .inr (false, [(0, 3)])), (2, .inr (false, [(1, 1)]))], [], mgh20187)
def mgx20188 : aw_A := ms_o [(0, 8)] [(0, 4)] ar_t32 ar_t32 [(0, 180)] [(47, 47)] [(17, 60)] [(1, 8)] [(4, 4)]
def mgh20189 : aw_H := [(81, mgx20188), (89, mgx494), (90, .inr (.inl (0, 240, [], []))), (92, .inr (.inl (0, 8, [], []))), (93, .inr (.inl (0, 8, [], []))), (94, mgx6473)]
def mgn6327_634 : Nat × aw_S := (46, [(0, .inl 81), (1, .inr (false, [(0, 3)])), (2, .inr (false, [(1, 1)]))], [], mgh20189)
def mgh20190 : aw_H := [(81, mgx18325), (89, mgx494), (90, .inr (.inl (0, 240, [], []))), (92, .inr (.inl (0, 8, [], []))), (93, .inr (.inl (0, 8, [], []))), (94, mgx6473)]
def mgn6327_635 : Nat × aw_S := (46, [(0, .inl 81), (1, .inr (false, [(0, 3)])), (2, .inr (false, [(0, 0)]))], [], mgh20190)
def mgn6327_636 : Nat × aw_S := (46, [(0, .inl 81), (1, .inr (false, [(0, 3)])), (2, .inr (false, [(0, 0)]))], [], mgh20184)
def mgn6327_637 : Nat × aw_S := (46, [(0, .inl 81), (1, .inr (false, [(0, 3)])), (2, .inr (false, [(0, 0)]))], [], mgh20181)
def mgn6327_638 : Nat × aw_S := (46, [(0, .inl 81), (1, .inr (false, [(0, 3)])), (2, .inr (false, [(0, 0)]))], [], mgh19797)
def mgx20191 : aw_A := ms_o [(0, 8)] [(0, 4)] ar_t32 ar_t32 [(0, 180)] [(50, 50)] [(8, 60)] [(1, 8)] [(1, 1)]
def mgh20192 : aw_H := [(81, mgx20191), (89, mgx494), (90, .inr (.inl (0, 240, [], []))), (92, .inr (.inl (0, 8, [], []))), (93, .inr (.inl (0, 8, [], []))), (94, mgx4449)]
def mgn6327_639 : Nat × aw_S := (46, [(0, .inl 81), (1, .inr (false, [(0, 3)])), (2, .inr (false, [(1, 1)]))], [], mgh20192)
def mgh20193 : aw_H := [(81, mgx18331), (89, mgx494), (90, .inr (.inl (0, 240, [], []))), (92, .inr (.inl (0, 8, [], []))), (93, .inr (.inl (0, 8, [], []))), (94, mgx6150)]
def mgn6327_640 : Nat × aw_S := (86, [(0, .inl 81), (1, .inr (false, [(0, 3)])), (2, .inr (false, [(1, 1)]))], [], mgh20193)
def mgx20194 : aw_A := ms_o [(0, 8)] [(0, 4)] ar_t32 ar_t32 [(0, 180)] [(49, 49)] [(8, 60)] [(1, 8)] [(1, 1)]
def mgh20195 : aw_H := [(81, mgx20194), (89, mgx494), (90, .inr (.inl (0, 240, [], []))), (92, .inr (.inl (0, 8, [], []))), (93, .inr (.inl (0, 8, [], []))), (94, mgx4449)]
def mgn6327_641 : Nat × aw_S := (46, [(0, .inl 81), (1, .inr (false, [(0, 3)])), (2, .inr (false, [(1, 1)]))], [], mgh20195)
def mgh20196 : aw_H := [(81, mgx18353), (89, mgx494), (90, .inr (.inl (0, 240, [], []))), (92, .inr (.inl (0, 8, [], []))), (93, .inr (.inl (0, 8, [], []))), (94, mgx6150)]
def mgn6327_642 : Nat × aw_S := (86, [(0, .inl 81), (1, .inr (false, [(0, 3)])), (2, .inr (false, [(1, 1)]))], [], mgh20196)
def mgn6327_643 : Nat × aw_S := (46, [(0, .inl 81), (1, .inr (false, [(0, 3)])), (2, .inr (false, [(0, 0)]))], [], mgh20069)
def mgx20197 : aw_A := ms_o [(0, 8)] [(0, 4)] ar_t32 ar_t32 [(0, 180)] [(41, 41)] [(8, 60)] [(1, 8)] [(1, 1)]
def mgh20198 : aw_H := [(81, mgx20197), (89, mgx494), (90, .inr (.inl (0, 240, [], []))), (92, .inr (.inl (0, 8, [], []))), (93, .inr (.inl (0, 8, [], []))), (94, mgx4449)]
def mgn6327_644 : Nat × aw_S := (46, [(0, .inl 81), (1, .inr (false, [(0, 3)])), (2, .inr (false, [(1, 1)]))], [], mgh20198)
def mgh20199 : aw_H := [(81, mgx18249), (89, mgx494), (90, .inr (.inl (0, 240, [], []))), (92, .inr (.inl (0, 8, [], []))), (93, .inr (.inl (0, 8, [], []))), (94, mgx6150)]
def mgn6327_645 : Nat × aw_S := (86, [(0, .inl 81), (1, .inr (false, [(0, 3)])), (2, .inr (false, [(1, 1)]))], [], mgh20199)
def mgx20200 : aw_A := ms_o [(0, 8)] [(0, 4)] ar_t32 ar_t32 [(0, 180)] [(53, 53)] [(8, 60)] [(1, 8)] [(1, 1)]
def mgh20201 : aw_H := [(81, mgx20200), (89, mgx494), (90, .inr (.inl (0, 240, [], []))), (92, .inr (.inl (0, 8, [], []))), (93, .inr (.inl (0, 8, [], []))), (94, mgx4449)]
def mgn6327_646 : Nat × aw_S := (46, [(0, .inl 81), (1, .inr (false, [(0, 3)])), (2, .inr (false, [(1, 1)]))], [], mgh20201)
def mgh20202 : aw_H := [(81, mgx18415), (89, mgx494), (90, .inr (.inl (0, 240, [], []))), (92, .inr (.inl (0, 8, [], []))), (93, .inr (.inl (0, 8, [], []))), (94, mgx6150)]
def mgn6327_647 : Nat × aw_S := (86, [(0, .inl 81), (1, .inr (false, [(0, 3)])), (2, .inr (false, [(1, 1)]))], [], mgh20202)
def mgx20203 : aw_A := ms_o [(0, 8)] [(0, 4)] ar_t32 ar_t32 [(0, 180)] [(48, 48)] [(8, 60)] [(1, 8)] [(1, 1)]
def mgh20204 : aw_H := [(81, mgx20203), (89, mgx494), (90, .inr (.inl (0, 240, [], []))), (92, .inr (.inl (0, 8, [], []))), (93, .inr (.inl (0, 8, [], []))), (94, mgx4449)]
def mgn6327_648 : Nat × aw_S := (46, [(0, .inl 81), (1, .inr (false, [(0, 3)])), (2, .inr (false, [(1, 1)]))], [], mgh20204)
def mgh20205 : aw_H := [(81, mgx18431), (89, mgx494), (90, .inr (.inl (0, 240, [], []))), (92, .inr (.inl (0, 8, [], []))), (93, .inr (.inl (0, 8, [], []))), (94, mgx6150)]
def mgn6327_649 : Nat × aw_S := (86, [(0, .inl 81), (1, .inr (false, [(0, 3)])), (2, .inr (false, [(1, 1)]))], [], mgh20205)
def mgn6327_650 : Nat × aw_S := (46, [(0, .inl 81), (1, .inr (false, [(0, 3)])), (2, .inr (false, [(0, 0)]))], [], mgh20066)
def mgx20206 : aw_A := ms_o [(0, 8)] [(0, 4)] ar_t32 ar_t32 [(0, 180)] [(43, 43)] [(8, 60)] [(1, 8)] [(1, 1)]
def mgh20207 : aw_H := [(81, mgx20206), (89, mgx494), (90, .inr (.inl (0, 240, [], []))), (92, .inr (.inl (0, 8, [], []))), (93, .inr (.inl (0, 8, [], []))), (94, mgx4449)]
def mgn6327_651 : Nat × aw_S := (46, [(0, .inl 81), (1, .inr (false, [(0, 3)])), (2, .inr (false, [(1, 1)]))], [], mgh20207)
def mgh20208 : aw_H := [(81, mgx18457), (89, mgx494), (90, .inr (.inl (0, 240, [], []))), (92, .inr (.inl (0, 8, [], []))), (93, .inr (.inl (0, 8, [], []))), (94, mgx6150)]
def mgn6327_652 : Nat × aw_S := (86, [(0, .inl 81), (1, .inr (false, [(0, 3)])), (2, .inr (false, [(1, 1)]))], [], mgh20208)
def mgx20209 : aw_A := ms_o [(0, 8)] [(0, 4)] ar_t32 ar_t32 [(0, 180)] [(44, 44)] [(8, 60)] [(1, 8)] [(1, 1)]
def mgh20210 : aw_H := [(81, mgx20209), (89, mgx494), (90, .inr (.inl (0, 240, [], []))), (92, .inr (.inl (0, 8, [], []))), (93, .inr (.inl (0, 8, [], []))), (94, mgx4449)]
def mgn6327_653 : Nat × aw_S := (46, [(0, .inl 81), (1, .inr (false, [(0, 3)])), (2, .inr (false, [(1, 1)]))], [], mgh20210)
def mgh20211 : aw_H := [(81, mgx18493), (89, mgx494), (90, .inr (.inl (0, 240, [], []))), (92, .inr (.inl (0, 8, [], []))), (93, .inr (.inl (0, 8, [], []))), (94, mgx6150)]
def mgn6327_654 : Nat × aw_S := (86, [(0, .inl 81), (1, .inr (false, [(0, 3)])), (2, .inr (false, [(1, 1)]))], [], mgh20211)
def mgx20212 : aw_A := ms_o [(0, 8)] [(0, 4)] ar_t32 ar_t32 [(0, 180)] [(60, 60)] [(8, 60)] [(1, 8)] [(1, 1)]
def mgh20213 : aw_H := [(81, mgx20212), (89, mgx494), (90, .inr (.inl (0, 240, [], []))), (92, .inr (.inl (0, 8, [], []))), (93, .inr (.inl (0, 8, [], []))), (94, mgx4449)]
def mgn6327_655 : Nat × aw_S := (46, [(0, .inl 81), (1, .inr (false, [(0, 3)])), (2, .inr (false, [(1, 1)]))], [], mgh20213)
def mgx20214 : aw_A := ms_o [(0, 8)] [(0, 4)] ar_t32 ar_t32 [(0, 180)] [(45, 45)] [(8, 60)] [(1, 8)] [(1, 1)]
def mgh20215 : aw_H := [(81, mgx20214), (89, mgx494), (90, .inr (.inl (0, 240, [], []))), (92, .inr (.inl (0, 8, [], []))), (93, .inr (.inl (0, 8, [], []))), (94, mgx4449)]
def mgn6327_656 : Nat × aw_S := (46, [(0, .inl 81), (1, .inr (false, [(0, 3)])), (2, .inr (false, [(1, 1)]))], [], mgh20215)
def mgh20216 : aw_H := [(81, mgx18527), (89, mgx494), (90, .inr (.inl (0, 240, [], []))), (92, .inr (.inl (0, 8, [], []))), (93, .inr (.inl (0, 8, [], []))), (94, mgx6150)]
def mgn6327_657 : Nat × aw_S := (86, [(0, .inl 81), (1, .inr (false, [(0, 3)])), (2, .inr (false, [(1, 1)]))], [], mgh20216)
def mgn6327_658 : Nat × aw_S := (46, [(0, .inl 81), (1, .inr (false, [(0, 3)])), (2, .inr (false, [(0, 0)]))], [], mgh20101)
def mgn6327_659 : Nat × aw_S := (46, [(0, .inl 81), (1, .inr (false, [(0, 3)])), (2, .inr (false, [(0, 0)]))], [], mgh20040)
def mgx20217 : aw_A := ms_o [(0, 8)] [(0, 4)] ar_t32 ar_t32 [(0, 180)] [(57, 57)] [(8, 60)] [(1, 8)] [(1, 1)]
def mgh20218 : aw_H := [(81, mgx20217), (89, mgx494), (90, .inr (.inl (0, 240, [], []))), (92, .inr (.inl (0, 8, [], []))), (93, .inr (.inl (0, 8, [], []))), (94, mgx4449)]
def mgn6327_660 : Nat × aw_S := (46, [(0, .inl 81), (1, .inr (false, [(0, 3)])), (2, .inr (false, [(1, 1)]))], [], mgh20218)
def mgn6327_661 : Nat × aw_S := (46, [(0, .inl 81), (1, .inr (false, [(0, 3)])), (2, .inr (false, [(0, 0)]))], [], mgh20115)
def mgh20219 : aw_H := [(81, mgx18559), (89, mgx494), (90, .inr (.inl (0, 240, [], []))), (92, .inr (.inl (0, 8, [], []))), (93, .inr (.inl (0, 8, [], []))), (94, mgx6150)]
def mgn6327_662 : Nat × aw_S := (86, [(0, .inl 81), (1, .inr (false, [(0, 3)])), (2, .inr (false, [(1, 1)]))], [], mgh20219)
def mgx20220 : aw_A := ms_o [(0, 8)] [(0, 4)] ar_t32 ar_t32 [(0, 180)] [(52, 52)] [(8, 60)] [(1, 8)] [(1, 1)]
def mgh20221 : aw_H := [(81, mgx20220), (89, mgx494), (90, .inr (.inl (0, 240, [], []))), (92, .inr (.inl (0, 8, [], []))), (93, .inr (.inl (0, 8, [], []))), (94, mgx4449)]
def mgn6327_663 : Nat × aw_S := (46, [(0, .inl 81), (1, .inr (false, [(0, 3)])), (2, .inr (false, [(1, 1)]))], [], mgh20221)
def mgn6327_664 : Nat × aw_S := (46, [(0, .inl 81), (1, .inr (false, [(0, 3)])), (2, .inr (false, [(0, 0)]))], [], mgh20089)
def mgh20222 : aw_H := [(81, mgx18567), (89, mgx494), (90, .inr (.inl (0, 240, [], []))), (92, .inr (.inl (0, 8, [], []))), (93, .inr (.inl (0, 8, [], []))), (94, mgx6150)]
def mgn6327_665 : Nat × aw_S := (86, [(0, .inl 81), (1, .inr (false, [(0, 3)])), (2, .inr (false, [(1, 1)]))], [], mgh20222)
def mgn6327_666 : Nat × aw_S := (46, [(0, .inl 81), (1, .inr (false, [(0, 3)])), (2, .inr (false, [(0, 0)]))], [], mgh20061)
def mgn6327_667 : Nat × aw_S := (46, [(0, .inl 81), (1, .inr (false, [(0, 3)])), (2, .inr (false, [(0, 0)]))], [], mgh20108)
def mgx20223 : aw_A := ms_o [(0, 8)] [(0, 4)] ar_t32 ar_t32 [(0, 180)] [(56, 56)] [(8, 60)] [(1, 8)] [(1, 1)]
def mgh20224 : aw_H := [(81, mgx20223), (89, mgx494), (90, .inr (.inl (0, 240, [], []))), (92, .inr (.inl (0, 8, [], []))), (93, .inr (.inl (0, 8, [], []))), (94, mgx4449)]
def mgn6327_668 : Nat × aw_S := (46, [(0, .inl 81), (1, .inr (false, [(0, 3)])), (2, .inr (false, [(1, 1)]))], [], mgh20224)
def mgn6327_669 : Nat × aw_S := (46, [(0, .inl 81), (1, .inr (false, [(0, 3)])), (2, .inr (false, [(0, 0)]))], [], mgh20130)
def mgh20225 : aw_H := [(81, mgx18585), (89, mgx494), (90, .inr (.inl (0, 240, [], []))), (92, .inr (.inl (0, 8, [], []))), (93, .inr (.inl (0, 8, [], []))), (94, mgx6150)]
def mgn6327_670 : Nat × aw_S := (86, [(0, .inl 81), (1, .inr (false, [(0, 3)])), (2, .inr (false, [(1, 1)]))], [], mgh20225)
def mgx20226 : aw_A := ms_o [(0, 8)] [(0, 4)] ar_t32 ar_t32 [(0, 180)] [(55, 55)] [(8, 60)] [(1, 8)] [(1, 1)]
def mgh20227 : aw_H := [(81, mgx20226), (89, mgx494), (90, .inr (.inl (0, 240, [], []))), (92, .inr (.inl (0, 8, [], []))), (93, .inr (.inl (0, 8, [], []))), (94, mgx4449)]
def mgn6327_671 : Nat × aw_S := (46, [(0, .inl 81), (1, .inr (false, [(0, 3)])), (2, .inr (false, [(1, 1)]))], [], mgh20227)
def mgh20228 : aw_H := [(81, mgx18595), (89, mgx494), (90, .inr (.inl (0, 240, [], []))), (92, .inr (.inl (0, 8, [], []))), (93, .inr (.inl (0, 8, [], []))), (94, mgx6150)]
def mgn6327_672 : Nat × aw_S := (86, [(0, .inl 81), (1, .inr (false, [(0, 3)])), (2, .inr (false, [(1, 1)]))], [], mgh20228)
def mgn6327_673 : Nat × aw_S := (46, [(0, .inl 81), (1, .inr (false, [(0, 3)])), (2, .inr (false, [(0, 0)]))], [], mgh20085)
def mgn6327_674 : Nat × aw_S := (46, [(0, .inl 81), (1, .inr (false, [(0, 3)])), (2, .inr (false, [(0, 0)]))], [], mgh20099)
def mgn6327_675 : Nat × aw_S := (46, [(0, .inl 81), (1, .inr (false, [(0, 3)])), (2, .inr (false, [(0, 0)]))], [], mgh20093)
def mgx20229 : aw_A := ms_o [(0, 8)] [(0, 4)] ar_t32 ar_t32 [(0, 180)] [(40, 40)] [(8, 60)] [(1, 8)] [(1, 1)]
def mgh20230 : aw_H := [(81, mgx20229), (89, mgx494), (90, .inr (.inl (0, 240, [], []))), (92, .inr (.inl (0, 8, [], []))), (93, .inr (.inl (0, 8, [], []))), (94, mgx4449)]
def mgn6327_676 : Nat × aw_S := (46, [(0, .inl 81), (1, .inr (false, [(0, 3)])), (2, .inr (false, [(1, 1)]))], [], mgh20230)
def mgh20231 : aw_H := [(81, mgx18105), (89, mgx494), (90, .inr (.inl (0, 240, [], []))), (92, .inr (.inl (0, 8, [], []))), (93, .inr (.inl (0, 8, [], []))), (94, mgx6150)]
def mgn6327_677 : Nat × aw_S := (86, [(0, .inl 81), (1, .inr (false, [(0, 3)])), (2, .inr (false, [(1, 1)]))], [], mgh20231)
def mgx20232 : aw_A := ms_o [(0, 8)] [(0, 4)] ar_t32 ar_t32 [(0, 180)] [(39, 39)] [(8, 60)] [(1, 8)] [(1, 1)]
def mgh20233 : aw_H := [(81, mgx20232), (89, mgx494), (90, .inr (.inl (0, 240, [], []))), (92, .inr (.inl (0, 8, [], []))), (93, .inr (.inl (0, 8, [], []))), (94, mgx4449)]
def mgn6327_678 : Nat × aw_S := (46, [(0, .inl 81), (1, .inr (false, [(0, 3)])), (2, .inr (false, [(1, 1)]))], [], mgh20233)
def mgh20234 : aw_H := [(81, mgx16076), (89, mgx494), (90, .inr (.inl (0, 240, [], []))), (92, .inr (.inl (0, 8, [], []))), (93, .inr (.inl (0, 8, [], []))), (94, mgx6150)]
def mgn6327_679 : Nat × aw_S := (86, [(0, .inl 81), (1, .inr (false, [(0, 3)])), (2, .inr (false, [(1, 1)]))], [], mgh20234)
def mgx20235 : aw_A := ms_o [(0, 8)] [(0, 4)] ar_t32 ar_t32 [(0, 180)] [(42, 42)] [(11, 60)] [(1, 8)] [(2, 2)]
def mgh20236 : aw_H := [(81, mgx20235), (89, mgx494), (90, .inr (.inl (0, 240, [], []))), (92, .inr (.inl (0, 8, [], []))), (93, .inr (.inl (0, 8, [], []))), (94, mgx6150)]
def mgn6327_680 : Nat × aw_S := (46, [(0, .inl 81), (1, .inr (false, [(0, 3)])), (2, .inr (false, [(1, 1)]))], [], mgh20236)
def mgh20237 : aw_H := [(81, mgx16621), (89, mgx494), (90, .inr (.inl (0, 240, [], []))), (92, .inr (.inl (0, 8, [], []))), (93, .inr (.inl (0, 8, [], []))), (94, mgx6362)]
def mgn6327_681 : Nat × aw_S := (86, [(0, .inl 81), (1, .inr (false, [(0, 3)])), (2, .inr (false, [(1, 1)]))], [], mgh20237)
def mgx20238 : aw_A := ms_o [(0, 8)] [(0, 4)] ar_t32 ar_t32 [(0, 180)] [(45, 45)] [(14, 60)] [(1, 8)] [(3, 3)]
def mgh20239 : aw_H := [(81, mgx20238), (89, mgx494), (90, .inr (.inl (0, 240, [], []))), (92, .inr (.inl (0, 8, [], []))), (93, .inr (.inl (0, 8, [], []))), (94, mgx6362)]
def mgn6327_682 : Nat × aw_S := (46, [(0, .inl 81), (1, .inr (false, [(0, 3)])), (2, .inr (false, [(1, 1)]))], [], mgh20239)
def mgn6327_683 : Nat × aw_S := (46, [(0, .inl 81), (1, .inr (false, [(0, 3)])), (2, .inr (false, [(0, 0)]))], [], mgh20237)
def mgh20240 : aw_H := [(81, mgx18724), (89, mgx494), (90, .inr (.inl (0, 240, [], []))), (92, .inr (.inl (0, 8, [], []))), (93, .inr (.inl (0, 8, [], []))), (94, mgx6473)]
def mgn6327_684 : Nat × aw_S := (86, [(0, .inl 81), (1, .inr (false, [(0, 3)])), (2, .inr (false, [(1, 1)]))], [], mgh20240)
def mgx20241 : aw_A := ms_o [(0, 8)] [(0, 4)] ar_t32 ar_t32 [(0, 180)] [(48, 48)] [(17, 60)] [(1, 8)] [(4, 4)]
def mgh20242 : aw_H := [(81, mgx20241), (89, mgx494), (90, .inr (.inl (0, 240, [], []))), (92, .inr (.inl (0, 8, [], []))), (93, .inr (.inl (0, 8, [], []))), (94, mgx6473)]
def mgn6327_685 : Nat × aw_S := (46, [(0, .inl 81), (1, .inr (false, [(0, 3)])), (2, .inr (false, [(1, 1)]))], [], mgh20242)
def mgh20243 : aw_H := [(81, mgx18754), (89, mgx494), (90, .inr (.inl (0, 240, [], []))), (92, .inr (.inl (0, 8, [], []))), (93, .inr (.inl (0, 8, [], []))), (94, mgx6473)]
def mgn6327_686 : Nat × aw_S := (46, [(0, .inl 81), (1, .inr (false, [(0, 3)])), (2, .inr (false, [(0, 0)]))], [], mgh20243)
def mgn6327_687 : Nat × aw_S := (46, [(0, .inl 81), (1, .inr (false, [(0, 3)])), (2, .inr (false, [(0, 0)]))], [], mgh20234)
def mgx20244 : aw_A := ms_o [(0, 8)] [(0, 4)] ar_t32 ar_t32 [(0, 180)] [(43, 43)] [(11, 60)] [(1, 8)] [(2, 2)]
def mgh20245 : aw_H := [(81, mgx20244), (89, mgx494), (90, .inr (.inl (0, 240, [], []))), (92, .inr (.inl (0, 8, [], []))), (93, .inr (.inl (0, 8, [], []))), (94, mgx6150)]
def mgn6327_688 : Nat × aw_S := (46, [(0, .inl 81), (1, .inr (false, [(0, 3)])), (2, .inr (false, [(1, 1)]))], [], mgh20245)
def mgn6327_689 : Nat × aw_S := (46, [(0, .inl 81), (1, .inr (false, [(0, 3)])), (2, .inr (false, [(0, 0)]))], [], mgh20231)
def mgh20246 : aw_H := [(81, mgx18147), (89, mgx494), (90, .inr (.inl (0, 240, [], []))), (92, .inr (.inl (0, 8, [], []))), (93, .inr (.inl (0, 8, [], []))), (94, mgx6362)]
def mgn6327_690 : Nat × aw_S := (86, [(0, .inl 81), (1, .inr (false, [(0, 3)])), (2, .inr (false, [(1, 1)]))], [], mgh20246)
def mgx20247 : aw_A := ms_o [(0, 8)] [(0, 4)] ar_t32 ar_t32 [(0, 180)] [(46, 46)] [(14, 60)] [(1, 8)] [(3, 3)]
def mgh20248 : aw_H := [(81, mgx20247), (89, mgx494), (90, .inr (.inl (0, 240, [], []))), (92, .inr (.inl (0, 8, [], []))), (93, .inr (.inl (0, 8, [], []))), (94, mgx6362)]
def mgn6327_691 : Nat × aw_S := (46, [(0, .inl 81), (1, .inr (false, [(0, 3)])), (2, .inr (false, [(1, 1)]))], [], mgh20248)
def mgh20249 : aw_H := [(81, mgx18797), (89, mgx494), (90, .inr (.inl (0, 240, [], []))), (92, .inr (.inl (0, 8, [], []))), (93, .inr (.inl (0, 8, [], []))), (94, mgx6473)]
def mgn6327_692 : Nat × aw_S := (86, [(0, .inl 81), (1, .inr (false, [(0, 3)])), (2, .inr (false, [(1, 1)]))], [], mgh20249)
def mgx20250 : aw_A := ms_o [(0, 8)] [(0, 4)] ar_t32 ar_t32 [(0, 180)] [(49, 49)] [(17, 60)] [(1, 8)] [(4, 4)]
def mgh20251 : aw_H := [(81, mgx20250), (89, mgx494), (90, .inr (.inl (0, 240, [], []))), (92, .inr (.inl (0, 8, [], []))), (93, .inr (.inl (0, 8, [], []))), (94, mgx6473)]
def mgn6327_693 : Nat × aw_S := (46, [(0, .inl 81), (1, .inr (false, [(0, 3)])), (2, .inr (false, [(1, 1)]))], [], mgh20251)
def mgh20252 : aw_H := [(81, mgx18825), (89, mgx494), (90, .inr (.inl (0, 240, [], []))), (92, .inr (.inl (0, 8, [], []))), (93, .inr (.inl (0, 8, [], []))), (94, mgx6473)]
def mgn6327_694 : Nat × aw_S := (46, [(0, .inl 81), (1, .inr (false, [(0, 3)])), (2, .inr (false, [(0, 0)]))], [], mgh20252)
def mgn6327_695 : Nat × aw_S := (46, [(0, .inl 81), (1, .inr (false, [(0, 3)])), (2, .inr (false, [(0, 0)]))], [], mgh20246)
def mgx20253 : aw_A := ms_o [(0, 8)] [(0, 4)] ar_t32 ar_t32 [(0, 180)] [(44, 44)] [(11, 60)] [(1, 8)] [(2, 2)]
def mgh20254 : aw_H := [(81, mgx20253), (89, mgx494), (90, .inr (.inl (0, 240, [], []))), (92, .inr (.inl (0, 8, [], []))), (93, .inr (.inl (0, 8, [], []))), (94, mgx6150)]
def mgn6327_696 : Nat × aw_S := (46, [(0, .inl 81), (1, .inr (false, [(0, 3)])), (2, .inr (false, [(1, 1)]))], [], mgh20254)
def mgn6327_697 : Nat × aw_S := (46, [(0, .inl 81), (1, .inr (false, [(0, 3)])), (2, .inr (false, [(0, 0)]))], [], mgh20199)
def mgh20255 : aw_H := [(81, mgx18289), (89, mgx494), (90, .inr (.inl (0, 240, [], []))), (92, .inr (.inl (0, 8, [], []))), (93, .inr (.inl (0, 8, [], []))), (94, mgx6362)]
def mgn6327_698 : Nat × aw_S := (86, [(0, .inl 81), (1, .inr (false, [(0, 3)])), (2, .inr (false, [(1, 1)]))], [], mgh20255)
def mgx20256 : aw_A := ms_o [(0, 8)] [(0, 4)] ar_t32 ar_t32 [(0, 180)] [(47, 47)] [(14, 60)] [(1, 8)] [(3, 3)]
def mgh20257 : aw_H := [(81, mgx20256), (89, mgx494), (90, .inr (.inl (0, 240, [], []))), (92, .inr (.inl (0, 8, [], []))), (93, .inr (.inl (0, 8, [], []))), (94, mgx6362)]
def mgn6327_699 : Nat × aw_S := (46, [(0, .inl 81), (1, .inr (false, [(0, 3)])), (2, .inr (false, [(1, 1)]))], [], mgh20257)
def mgn6327_700 : Nat × aw_S := (46, [(0, .inl 81), (1, .inr (false, [(0, 3)])), (2, .inr (false, [(0, 0)]))], [], mgh20255)
def mgh20258 : aw_H := [(81, mgx18864), (89, mgx494), (90, .inr (.inl (0, 240, [], []))), (92, .inr (.inl (0, 8, [], []))), (93, .inr (.inl (0, 8, [], []))), (94, mgx6473)]
def mgn6327_701 : Nat × aw_S := (86, [(0, .inl 81), (1, .inr (false, [(0, 3)])), (2, .inr (false, [(1, 1)]))], [], mgh20258)
def mgx20259 : aw_A := ms_o [(0, 8)] [(0, 4)] ar_t32 ar_t32 [(0, 180)] [(50, 50)] [(17, 60)] [(1, 8)] [(4, 4)]
def mgh20260 : aw_H := [(81, mgx20259), (89, mgx494), (90, .inr (.inl (0, 240, [], []))), (92, .inr (.inl (0, 8, [], []))), (93, .inr (.inl (0, 8, [], []))), (94, mgx6473)]
def mgn6327_702 : Nat × aw_S := (46, [(0, .inl 81), (1, .inr (false, [(0, 3)])), (2, .inr (false, [(1, 1)]))], [], mgh20260)
def mgh20261 : aw_H := [(81, mgx18890), (89, mgx494), (90, .inr (.inl (0, 240, [], []))), (92, .inr (.inl (0, 8, [], []))), (93, .inr (.inl (0, 8, [], []))), (94, mgx6473)]
def mgn6327_703 : Nat × aw_S := (46, [(0, .inl 81), (1, .inr (false, [(0, 3)])), (2, .inr (false, [(0, 0)]))], [], mgh20261)
def mgn6327_704 : Nat × aw_S := (46, [(0, .inl 81), (1, .inr (false, [(0, 3)])), (2, .inr (false, [(0, 0)]))], [], mgh19793)
def mgn6327_705 : Nat × aw_S := (46, [(0, .inl 81), (1, .inr (false, [(0, 3)])), (2, .inr (false, [(0, 0)]))], [], mgh20011)
def mgn6327_706 : Nat × aw_S := (46, [(0, .inl 81), (1, .inr (false, [(0, 3)])), (2, .inr (false, [(0, 0)]))], [], mgh20020)
def mgx20262 : aw_A := ms_o [(0, 8)] [(0, 4)] ar_t32 ar_t32 [(0, 180)] [(42, 42)] [(8, 60)] [(1, 8)] [(1, 1)]
def mgh20263 : aw_H := [(81, mgx20262), (89, mgx494), (90, .inr (.inl (0, 240, [], []))), (92, .inr (.inl (0, 8, [], []))), (93, .inr (.inl (0, 8, [], []))), (94, mgx4449)]
def mgn6327_707 : Nat × aw_S := (46, [(0, .inl 81), (1, .inr (false, [(0, 3)])), (2, .inr (false, [(1, 1)]))], [], mgh20263)
def mgn6327_708 : Nat × aw_S := (46, [(0, .inl 81), (1, .inr (false, [(0, 3)])), (2, .inr (false, [(0, 0)]))], [], mgh20025)
def mgn6327_709 : Nat × aw_S := (46, [(0, .inl 81), (1, .inr (false, [(0, 3)])), (2, .inr (false, [(0, 0)]))], [], mgh20032)
def mgh20264 : aw_H := [(81, mgx18684), (89, mgx494), (90, .inr (.inl (0, 240, [], []))), (92, .inr (.inl (0, 8, [], []))), (93, .inr (.inl (0, 8, [], []))), (94, mgx6150)]
def mgn6327_710 : Nat × aw_S := (86, [(0, .inl 81), (1, .inr (false, [(0, 3)])), (2, .inr (false, [(1, 1)]))], [], mgh20264)
def mgx20265 : aw_A := ms_o [(0, 8)] [(0, 4)] ar_t32 ar_t32 [(0, 180)] [(47, 47)] [(11, 60)] [(1, 8)] [(2, 2)]
def mgh20266 : aw_H := [(81, mgx20265), (89, mgx494), (90, .inr (.inl (0, 240, [], []))), (92, .inr (.inl (0, 8, [], []))), (93, .inr (.inl (0, 8, [], []))), (94, mgx6150)]
def mgn6327_711 : Nat × aw_S := (46, [(0, .inl 81), (1, .inr (false, [(0, 3)])), (2, .inr (false, [(1, 1)]))], [], mgh20266)
def mgh20267 : aw_H := [(81, mgx18860), (89, mgx494), (90, .inr (.inl (0, 240, [], []))), (92, .inr (.inl (0, 8, [], []))), (93, .inr (.inl (0, 8, [], []))), (94, mgx6362)]
def mgn6327_712 : Nat × aw_S := (86, [(0, .inl 81), (1, .inr (false, [(0, 3)])), (2, .inr (false, [(1, 1)]))], [], mgh20267)
def mgx20268 : aw_A := ms_o [(0, 8)] [(0, 4)] ar_t32 ar_t32 [(0, 180)] [(46, 46)] [(11, 60)] [(1, 8)] [(2, 2)]
def mgh20269 : aw_H := [(81, mgx20268), (89, mgx494), (90, .inr (.inl (0, 240, [], []))), (92, .inr (.inl (0, 8, [], []))), (93, .inr (.inl (0, 8, [], []))), (94, mgx6150)]
def mgn6327_713 : Nat × aw_S := (46, [(0, .inl 81), (1, .inr (false, [(0, 3)])), (2, .inr (false, [(1, 1)]))], [], mgh20269)
def mgh20270 : aw_H := [(81, mgx18793), (89, mgx494), (90, .inr (.inl (0, 240, [], []))), (92, .inr (.inl (0, 8, [], []))), (93, .inr (.inl (0, 8, [], []))), (94, mgx6362)]
def mgn6327_714 : Nat × aw_S := (86, [(0, .inl 81), (1, .inr (false, [(0, 3)])), (2, .inr (false, [(1, 1)]))], [], mgh20270)
def mgx20271 : aw_A := ms_o [(0, 8)] [(0, 4)] ar_t32 ar_t32 [(0, 180)] [(49, 49)] [(11, 60)] [(1, 8)] [(2, 2)]
def mgh20272 : aw_H := [(81, mgx20271), (89, mgx494), (90, .inr (.inl (0, 240, [], []))), (92, .inr (.inl (0, 8, [], []))), (93, .inr (.inl (0, 8, [], []))), (94, mgx6150)]
def mgn6327_715 : Nat × aw_S := (46, [(0, .inl 81), (1, .inr (false, [(0, 3)])), (2, .inr (false, [(1, 1)]))], [], mgh20272)
def mgh20273 : aw_H := [(81, mgx18985), (89, mgx494), (90, .inr (.inl (0, 240, [], []))), (92, .inr (.inl (0, 8, [], []))), (93, .inr (.inl (0, 8, [], []))), (94, mgx6362)]
def mgn6327_716 : Nat × aw_S := (86, [(0, .inl 81), (1, .inr (false, [(0, 3)])), (2, .inr (false, [(1, 1)]))], [], mgh20273)
def mgx20274 : aw_A := ms_o [(0, 8)] [(0, 4)] ar_t32 ar_t32 [(0, 180)] [(48, 48)] [(11, 60)] [(1, 8)] [(2, 2)]
def mgh20275 : aw_H := [(81, mgx20274), (89, mgx494), (90, .inr (.inl (0, 240, [], []))), (92, .inr (.inl (0, 8, [], []))), (93, .inr (.inl (0, 8, [], []))), (94, mgx6150)]
def mgn6327_717 : Nat × aw_S := (46, [(0, .inl 81), (1, .inr (false, [(0, 3)])), (2, .inr (false, [(1, 1)]))], [], mgh20275)
def mgn6327_718 : Nat × aw_S := (46, [(0, .inl 81), (1, .inr (false, [(0, 3)])), (2, .inr (false, [(0, 0)]))], [], mgh20156)
def mgh20276 : aw_H := [(81, mgx19010), (89, mgx494), (90, .inr (.inl (0, 240, [], []))), (92, .inr (.inl (0, 8, [], []))), (93, .inr (.inl (0, 8, [], []))), (94, mgx6362)]
def mgn6327_719 : Nat × aw_S := (86, [(0, .inl 81), (1, .inr (false, [(0, 3)])), (2, .inr (false, [(1, 1)]))], [], mgh20276)
def mgn6327_720 : Nat × aw_S := (46, [(0, .inl 81), (1, .inr (false, [(0, 3)])), (2, .inr (false, [(0, 0)]))], [], mgh20216)
def mgx20277 : aw_A := ms_o [(0, 8)] [(0, 4)] ar_t32 ar_t32 [(0, 180)] [(45, 45)] [(11, 60)] [(1, 8)] [(2, 2)]
def mgh20278 : aw_H := [(81, mgx20277), (89, mgx494), (90, .inr (.inl (0, 240, [], []))), (92, .inr (.inl (0, 8, [], []))), (93, .inr (.inl (0, 8, [], []))), (94, mgx6150)]
def mgn6327_721 : Nat × aw_S := (46, [(0, .inl 81), (1, .inr (false, [(0, 3)])), (2, .inr (false, [(1, 1)]))], [], mgh20278)
def mgn6327_722 : Nat × aw_S := (46, [(0, .inl 81), (1, .inr (false, [(0, 3)])), (2, .inr (false, [(0, 0)]))], [], mgh20264)
def mgn6327_723 : Nat × aw_S := (46, [(0, .inl 81), (1, .inr (false, [(0, 3)])), (2, .inr (false, [(0, 0)]))], [], mgh20208)
def mgn6327_724 : Nat × aw_S := (46, [(0, .inl 81), (1, .inr (false, [(0, 3)])), (2, .inr (false, [(0, 0)]))], [], mgh20211)
def mgh20279 : aw_H := [(81, mgx18720), (89, mgx494), (90, .inr (.inl (0, 240, [], []))), (92, .inr (.inl (0, 8, [], []))), (93, .inr (.inl (0, 8, [], []))), (94, mgx6362)]
def mgn6327_725 : Nat × aw_S := (86, [(0, .inl 81), (1, .inr (false, [(0, 3)])), (2, .inr (false, [(1, 1)]))], [], mgh20279)
def mgx20280 : aw_A := ms_o [(0, 8)] [(0, 4)] ar_t32 ar_t32 [(0, 180)] [(50, 50)] [(14, 60)] [(1, 8)] [(3, 3)]
def mgh20281 : aw_H := [(81, mgx20280), (89, mgx494), (90, .inr (.inl (0, 240, [], []))), (92, .inr (.inl (0, 8, [], []))), (93, .inr (.inl (0, 8, [], []))), (94, mgx6362)]
def mgn6327_726 : Nat × aw_S := (46, [(0, .inl 81), (1, .inr (false, [(0, 3)])), (2, .inr (false, [(1, 1)]))], [], mgh20281)
def mgh20282 : aw_H := [(81, mgx19066), (89, mgx494), (90, .inr (.inl (0, 240, [], []))), (92, .inr (.inl (0, 8, [], []))), (93, .inr (.inl (0, 8, [], []))), (94, mgx6473)]
def mgn6327_727 : Nat × aw_S := (86, [(0, .inl 81), (1, .inr (false, [(0, 3)])), (2, .inr (false, [(1, 1)]))], [], mgh20282)
def mgx20283 : aw_A := ms_o [(0, 8)] [(0, 4)] ar_t32 ar_t32 [(0, 180)] [(52, 52)] [(14, 60)] [(1, 8)] [(3, 3)]
def mgh20284 : aw_H := [(81, mgx20283), (89, mgx494), (90, .inr (.inl (0, 240, [], []))), (92, .inr (.inl (0, 8, [], []))), (93, .inr (.inl (0, 8, [], []))), (94, mgx6362)]
def mgn6327_728 : Nat × aw_S := (46, [(0, .inl 81), (1, .inr (false, [(0, 3)])), (2, .inr (false, [(1, 1)]))], [], mgh20284)
def mgh20285 : aw_H := [(81, mgx19094), (89, mgx494), (90, .inr (.inl (0, 240, [], []))), (92, .inr (.inl (0, 8, [], []))), (93, .inr (.inl (0, 8, [], []))), (94, mgx6473)]
def mgn6327_729 : Nat × aw_S := (86, [(0, .inl 81), (1, .inr (false, [(0, 3)])), (2, .inr (false, [(1, 1)]))], [], mgh20285)
def mgx20286 : aw_A := ms_o [(0, 8)] [(0, 4)] ar_t32 ar_t32 [(0, 180)] [(51, 51)] [(14, 60)] [(1, 8)] [(3, 3)]
def mgh20287 : aw_H := [(81, mgx20286), (89, mgx494), (90, .inr (.inl (0, 240, [], []))), (92, .inr (.inl (0, 8, [], []))), (93, .inr (.inl (0, 8, [], []))), (94, mgx6362)]
def mgn6327_730 : Nat × aw_S := (46, [(0, .inl 81), (1, .inr (false, [(0, 3)])), (2, .inr (false, [(1, 1)]))], [], mgh20287)
def mgn6327_731 : Nat × aw_S := (46, [(0, .inl 81), (1, .inr (false, [(0, 3)])), (2, .inr (false, [(0, 0)]))], [], mgh20273)
def mgh20288 : aw_H := [(81, mgx19114), (89, mgx494), (90, .inr (.inl (0, 240, [], []))), (92, .inr (.inl (0, 8, [], []))), (93, .inr (.inl (0, 8, [], []))), (94, mgx6473)]
def mgn6327_732 : Nat × aw_S := (86, [(0, .inl 81), (1, .inr (false, [(0, 3)])), (2, .inr (false, [(1, 1)]))], [], mgh20288)
def mgx20289 : aw_A := ms_o [(0, 8)] [(0, 4)] ar_t32 ar_t32 [(0, 180)] [(49, 49)] [(14, 60)] [(1, 8)] [(3, 3)]
def mgh20290 : aw_H := [(81, mgx20289), (89, mgx494), (90, .inr (.inl (0, 240, [], []))), (92, .inr (.inl (0, 8, [], []))), (93, .inr (.inl (0, 8, [], []))), (94, mgx6362)]
def mgn6327_733 : Nat × aw_S := (46, [(0, .inl 81), (1, .inr (false, [(0, 3)])), (2, .inr (false, [(1, 1)]))], [], mgh20290)
def mgn6327_734 : Nat × aw_S := (46, [(0, .inl 81), (1, .inr (false, [(0, 3)])), (2, .inr (false, [(0, 0)]))], [], mgh20276)
def mgh20291 : aw_H := [(81, mgx19134), (89, mgx494), (90, .inr (.inl (0, 240, [], []))), (92, .inr (.inl (0, 8, [], []))), (93, .inr (.inl (0, 8, [], []))), (94, mgx6473)]
def mgn6327_735 : Nat × aw_S := (86, [(0, .inl 81), (1, .inr (false, [(0, 3)])), (2, .inr (false, [(1, 1)]))], [], mgh20291)
def mgx20292 : aw_A := ms_o [(0, 8)] [(0, 4)] ar_t32 ar_t32 [(0, 180)] [(48, 48)] [(14, 60)] [(1, 8)] [(3, 3)]
def mgh20293 : aw_H := [(81, mgx20292), (89, mgx494), (90, .inr (.inl (0, 240, [], []))), (92, .inr (.inl (0, 8, [], []))), (93, .inr (.inl (0, 8, [], []))), (94, mgx6362)]
def mgn6327_736 : Nat × aw_S := (46, [(0, .inl 81), (1, .inr (false, [(0, 3)])), (2, .inr (false, [(1, 1)]))], [], mgh20293)
def mgn6327_737 : Nat × aw_S := (46, [(0, .inl 81), (1, .inr (false, [(0, 3)])), (2, .inr (false, [(0, 0)]))], [], mgh20270)
def mgn6327_738 : Nat × aw_S := (46, [(0, .inl 81), (1, .inr (false, [(0, 3)])), (2, .inr (false, [(0, 0)]))], [], mgh20267)
def mgn6327_739 : Nat × aw_S := (46, [(0, .inl 81), (1, .inr (false, [(0, 3)])), (2, .inr (false, [(0, 0)]))], [], mgh20279)
def mgh20294 : aw_H := [(81, mgx19158), (89, mgx494), (90, .inr (.inl (0, 240, [], []))), (92, .inr (.inl (0, 8, [], []))), (93, .inr (.inl (0, 8, [], []))), (94, mgx6473)]
def mgn6327_740 : Nat × aw_S := (86, [(0, .inl 81), (1, .inr (false, [(0, 3)])), (2, .inr (false, [(1, 1)]))], [], mgh20294)
def mgx20295 : aw_A := ms_o [(0, 8)] [(0, 4)] ar_t32 ar_t32 [(0, 180)] [(51, 51)] [(17, 60)] [(1, 8)] [(4, 4)]
def mgh20296 : aw_H := [(81, mgx20295), (89, mgx494), (90, .inr (.inl (0, 240, [], []))), (92, .inr (.inl (0, 8, [], []))), (93, .inr (.inl (0, 8, [], []))), (94, mgx6473)]
def mgn6327_741 : Nat × aw_S := (46, [(0, .inl 81), (1, .inr (false, [(0, 3)])), (2, .inr (false, [(1, 1)]))], [], mgh20296)
def mgh20297 : aw_H := [(81, mgx19181), (89, mgx494), (90, .inr (.inl (0, 240, [], []))), (92, .inr (.inl (0, 8, [], []))), (93, .inr (.inl (0, 8, [], []))), (94, mgx6473)]
def mgn6327_742 : Nat × aw_S := (46, [(0, .inl 81), (1, .inr (false, [(0, 3)])), (2, .inr (false, [(0, 0)]))], [], mgh20297)
def mgx20298 : aw_A := ms_o [(0, 8)] [(0, 4)] ar_t32 ar_t32 [(0, 180)] [(55, 55)] [(17, 60)] [(1, 8)] [(4, 4)]
def mgh20299 : aw_H := [(81, mgx20298), (89, mgx494), (90, .inr (.inl (0, 240, [], []))), (92, .inr (.inl (0, 8, [], []))), (93, .inr (.inl (0, 8, [], []))), (94, mgx6473)]
def mgn6327_743 : Nat × aw_S := (46, [(0, .inl 81), (1, .inr (false, [(0, 3)])), (2, .inr (false, [(1, 1)]))], [], mgh20299)
def mgh20300 : aw_H := [(81, mgx19184), (89, mgx494), (90, .inr (.inl (0, 240, [], []))), (92, .inr (.inl (0, 8, [], []))), (93, .inr (.inl (0, 8, [], []))), (94, mgx6473)]
def mgn6327_744 : Nat × aw_S := (46, [(0, .inl 81), (1, .inr (false, [(0, 3)])), (2, .inr (false, [(0, 0)]))], [], mgh20300)
def mgx20301 : aw_A := ms_o [(0, 8)] [(0, 4)] ar_t32 ar_t32 [(0, 180)] [(52, 52)] [(17, 60)] [(1, 8)] [(4, 4)]
def mgh20302 : aw_H := [(81, mgx20301), (89, mgx494), (90, .inr (.inl (0, 240, [], []))), (92, .inr (.inl (0, 8, [], []))), (93, .inr (.inl (0, 8, [], []))), (94, mgx6473)]
def mgn6327_745 : Nat × aw_S := (46, [(0, .inl 81), (1, .inr (false, [(0, 3)])), (2, .inr (false, [(1, 1)]))], [], mgh20302)
def mgh20303 : aw_H := [(81, mgx19187), (89, mgx494), (90, .inr (.inl (0, 240, [], []))), (92, .inr (.inl (0, 8, [], []))), (93, .inr (.inl (0, 8, [], []))), (94, mgx6473)]
def mgn6327_746 : Nat × aw_S := (46, [(0, .inl 81), (1, .inr (false, [(0, 3)])), (2, .inr (false, [(0, 0)]))], [], mgh20303)
def mgx20304 : aw_A := ms_o [(0, 8)] [(0, 4)] ar_t32 ar_t32 [(0, 180)] [(53, 53)] [(17, 60)] [(1, 8)] [(4, 4)]
def mgh20305 : aw_H := [(81, mgx20304), (89, mgx494), (90, .inr (.inl (0, 240, [], []))), (92, .inr (.inl (0, 8, [], []))), (93, .inr (.inl (0, 8, [], []))), (94, mgx6473)]
def mgn6327_747 : Nat × aw_S := (46, [(0, .inl 81), (1, .inr (false, [(0, 3)])), (2, .inr (false, [(1, 1)]))], [], mgh20305)
def mgh20306 : aw_H := [(81, mgx19190), (89, mgx494), (90, .inr (.inl (0, 240, [], []))), (92, .inr (.inl (0, 8, [], []))), (93, .inr (.inl (0, 8, [], []))), (94, mgx6473)]
def mgn6327_748 : Nat × aw_S := (46, [(0, .inl 81), (1, .inr (false, [(0, 3)])), (2, .inr (false, [(0, 0)]))], [], mgh20306)
def mgx20307 : aw_A := ms_o [(0, 8)] [(0, 4)] ar_t32 ar_t32 [(0, 180)] [(54, 54)] [(17, 60)] [(1, 8)] [(4, 4)]
def mgh20308 : aw_H := [(81, mgx20307), (89, mgx494), (90, .inr (.inl (0, 240, [], []))), (92, .inr (.inl (0, 8, [], []))), (93, .inr (.inl (0, 8, [], []))), (94, mgx6473)]
def mgn6327_749 : Nat × aw_S := (46, [(0, .inl 81), (1, .inr (false, [(0, 3)])), (2, .inr (false, [(1, 1)]))], [], mgh20308)
def mgh20309 : aw_H := [(81, mgx19193), (89, mgx494), (90, .inr (.inl (0, 240, [], []))), (92, .inr (.inl (0, 8, [], []))), (93, .inr (.inl (0, 8, [], []))), (94, mgx6473)]
def mgn6327_750 : Nat × aw_S := (46, [(0, .inl 81), (1, .inr (false, [(0, 3)])), (2, .inr (false, [(0, 0)]))], [], mgh20309)
def mgn6327_751 : Nat × aw_S := (46, [(0, .inl 81), (1, .inr (false, [(0, 3)])), (2, .inr (false, [(0, 0)]))], [], mgh20046)
def mgx20310 : aw_A := ms_o [(0, 8)] [(0, 4)] ar_t32 ar_t32 [(0, 180)] [(47, 47)] [(8, 60)] [(1, 8)] [(1, 1)]
def mgh20311 : aw_H := [(81, mgx20310), (89, mgx494), (90, .inr (.inl (0, 240, [], []))), (92, .inr (.inl (0, 8, [], []))), (93, .inr (.inl (0, 8, [], []))), (94, mgx4449)]
def mgn6327_752 : Nat × aw_S := (46, [(0, .inl 81), (1, .inr (false, [(0, 3)])), (2, .inr (false, [(1, 1)]))], [], mgh20311)
def mgh20312 : aw_H := [(81, mgx18929), (89, mgx494), (90, .inr (.inl (0, 240, [], []))), (92, .inr (.inl (0, 8, [], []))), (93, .inr (.inl (0, 8, [], []))), (94, mgx6150)]
def mgn6327_753 : Nat × aw_S := (86, [(0, .inl 81), (1, .inr (false, [(0, 3)])), (2, .inr (false, [(1, 1)]))], [], mgh20312)
def mgx20313 : aw_A := ms_o [(0, 8)] [(0, 4)] ar_t32 ar_t32 [(0, 180)] [(56, 56)] [(11, 60)] [(1, 8)] [(2, 2)]
def mgh20314 : aw_H := [(81, mgx20313), (89, mgx494), (90, .inr (.inl (0, 240, [], []))), (92, .inr (.inl (0, 8, [], []))), (93, .inr (.inl (0, 8, [], []))), (94, mgx6150)]
def mgn6327_754 : Nat × aw_S := (46, [(0, .inl 81), (1, .inr (false, [(0, 3)])), (2, .inr (false, [(1, 1)]))], [], mgh20314)
def mgh20315 : aw_H := [(81, mgx19223), (89, mgx494), (90, .inr (.inl (0, 240, [], []))), (92, .inr (.inl (0, 8, [], []))), (93, .inr (.inl (0, 8, [], []))), (94, mgx6362)]
def mgn6327_755 : Nat × aw_S := (86, [(0, .inl 81), (1, .inr (false, [(0, 3)])), (2, .inr (false, [(1, 1)]))], [], mgh20315)
def mgx20316 : aw_A := ms_o [(0, 8)] [(0, 4)] ar_t32 ar_t32 [(0, 180)] [(58, 58)] [(11, 60)] [(1, 8)] [(2, 2)]
def mgh20317 : aw_H := [(81, mgx20316), (89, mgx494), (90, .inr (.inl (0, 240, [], []))), (92, .inr (.inl (0, 8, [], []))), (93, .inr (.inl (0, 8, [], []))), (94, mgx6150)]
def mgn6327_756 : Nat × aw_S := (46, [(0, .inl 81), (1, .inr (false, [(0, 3)])), (2, .inr (false, [(1, 1)]))], [], mgh20317)
def mgx20318 : aw_A := ms_o [(0, 8)] [(0, 4)] ar_t32 ar_t32 [(0, 180)] [(54, 54)] [(11, 60)] [(1, 8)] [(2, 2)]
def mgh20319 : aw_H := [(81, mgx20318), (89, mgx494), (90, .inr (.inl (0, 240, [], []))), (92, .inr (.inl (0, 8, [], []))), (93, .inr (.inl (0, 8, [], []))), (94, mgx6150)]
def mgn6327_757 : Nat × aw_S := (46, [(0, .inl 81), (1, .inr (false, [(0, 3)])), (2, .inr (false, [(1, 1)]))], [], mgh20319)
def mgh20320 : aw_H := [(81, mgx19236), (89, mgx494), (90, .inr (.inl (0, 240, [], []))), (92, .inr (.inl (0, 8, [], []))), (93, .inr (.inl (0, 8, [], []))), (94, mgx6362)]
def mgn6327_758 : Nat × aw_S := (86, [(0, .inl 81), (1, .inr (false, [(0, 3)])), (2, .inr (false, [(1, 1)]))], [], mgh20320)
def mgx20321 : aw_A := ms_o [(0, 8)] [(0, 4)] ar_t32 ar_t32 [(0, 180)] [(55, 55)] [(11, 60)] [(1, 8)] [(2, 2)]
def mgh20322 : aw_H := [(81, mgx20321), (89, mgx494), (90, .inr (.inl (0, 240, [], []))), (92, .inr (.inl (0, 8, [], []))), (93, .inr (.inl (0, 8, [], []))), (94, mgx6150)]
def mgn6327_759 : Nat × aw_S := (46, [(0, .inl 81), (1, .inr (false, [(0, 3)])), (2, .inr (false, [(1, 1)]))], [], mgh20322)
def mgh20323 : aw_H := [(81, mgx19250), (89, mgx494), (90, .inr (.inl (0, 240, [], []))), (92, .inr (.inl (0, 8, [], []))), (93, .inr (.inl (0, 8, [], []))), (94, mgx6362)]
def mgn6327_760 : Nat × aw_S := (86, [(0, .inl 81), (1, .inr (false, [(0, 3)])), (2, .inr (false, [(1, 1)]))], [], mgh20323)
def mgn6327_761 : Nat × aw_S := (46, [(0, .inl 81), (1, .inr (false, [(0, 3)])), (2, .inr (false, [(0, 0)]))], [], mgh20202)
def mgx20324 : aw_A := ms_o [(0, 8)] [(0, 4)] ar_t32 ar_t32 [(0, 180)] [(50, 50)] [(11, 60)] [(1, 8)] [(2, 2)]
def mgh20325 : aw_H := [(81, mgx20324), (89, mgx494), (90, .inr (.inl (0, 240, [], []))), (92, .inr (.inl (0, 8, [], []))), (93, .inr (.inl (0, 8, [], []))), (94, mgx6150)]
def mgn6327_762 : Nat × aw_S := (46, [(0, .inl 81), (1, .inr (false, [(0, 3)])), (2, .inr (false, [(1, 1)]))], [], mgh20325)
def mgh20326 : aw_H := [(81, mgx19063), (89, mgx494), (90, .inr (.inl (0, 240, [], []))), (92, .inr (.inl (0, 8, [], []))), (93, .inr (.inl (0, 8, [], []))), (94, mgx6362)]
def mgn6327_763 : Nat × aw_S := (86, [(0, .inl 81), (1, .inr (false, [(0, 3)])), (2, .inr (false, [(1, 1)]))], [], mgh20326)
def mgx20327 : aw_A := ms_o [(0, 8)] [(0, 4)] ar_t32 ar_t32 [(0, 180)] [(53, 53)] [(14, 60)] [(1, 8)] [(3, 3)]
def mgh20328 : aw_H := [(81, mgx20327), (89, mgx494), (90, .inr (.inl (0, 240, [], []))), (92, .inr (.inl (0, 8, [], []))), (93, .inr (.inl (0, 8, [], []))), (94, mgx6362)]
def mgn6327_764 : Nat × aw_S := (46, [(0, .inl 81), (1, .inr (false, [(0, 3)])), (2, .inr (false, [(1, 1)]))], [], mgh20328)
def mgh20329 : aw_H := [(81, mgx19283), (89, mgx494), (90, .inr (.inl (0, 240, [], []))), (92, .inr (.inl (0, 8, [], []))), (93, .inr (.inl (0, 8, [], []))), (94, mgx6473)]
def mgn6327_765 : Nat × aw_S := (86, [(0, .inl 81), (1, .inr (false, [(0, 3)])), (2, .inr (false, [(1, 1)]))], [], mgh20329)
def mgx20330 : aw_A := ms_o [(0, 8)] [(0, 4)] ar_t32 ar_t32 [(0, 180)] [(56, 56)] [(17, 60)] [(1, 8)] [(4, 4)]
def mgh20331 : aw_H := [(81, mgx20330), (89, mgx494), (90, .inr (.inl (0, 240, [], []))), (92, .inr (.inl (0, 8, [], []))), (93, .inr (.inl (0, 8, [], []))), (94, mgx6473)]
def mgn6327_766 : Nat × aw_S := (46, [(0, .inl 81), (1, .inr (false, [(0, 3)])), (2, .inr (false, [(1, 1)]))], [], mgh20331)
def mgh20332 : aw_H := [(81, mgx19297), (89, mgx494), (90, .inr (.inl (0, 240, [], []))), (92, .inr (.inl (0, 8, [], []))), (93, .inr (.inl (0, 8, [], []))), (94, mgx6473)]
def mgn6327_767 : Nat × aw_S := (46, [(0, .inl 81), (1, .inr (false, [(0, 3)])), (2, .inr (false, [(0, 0)]))], [], mgh20332)
def mgn6327_768 : Nat × aw_S := (46, [(0, .inl 81), (1, .inr (false, [(0, 3)])), (2, .inr (false, [(0, 0)]))], [], mgh20326)
def mgn6327_769 : Nat × aw_S := (46, [(0, .inl 81), (1, .inr (false, [(0, 3)])), (2, .inr (false, [(0, 0)]))], [], mgh20312)
def mgx20333 : aw_A := ms_o [(0, 8)] [(0, 4)] ar_t32 ar_t32 [(0, 180)] [(51, 51)] [(11, 60)] [(1, 8)] [(2, 2)]
def mgh20334 : aw_H := [(81, mgx20333), (89, mgx494), (90, .inr (.inl (0, 240, [], []))), (92, .inr (.inl (0, 8, [], []))), (93, .inr (.inl (0, 8, [], []))), (94, mgx6150)]
def mgn6327_770 : Nat × aw_S := (46, [(0, .inl 81), (1, .inr (false, [(0, 3)])), (2, .inr (false, [(1, 1)]))], [], mgh20334)
def mgh20335 : aw_H := [(81, mgx19087), (89, mgx494), (90, .inr (.inl (0, 240, [], []))), (92, .inr (.inl (0, 8, [], []))), (93, .inr (.inl (0, 8, [], []))), (94, mgx6362)]
def mgn6327_771 : Nat × aw_S := (86, [(0, .inl 81), (1, .inr (false, [(0, 3)])), (2, .inr (false, [(1, 1)]))], [], mgh20335)
def mgx20336 : aw_A := ms_o [(0, 8)] [(0, 4)] ar_t32 ar_t32 [(0, 180)] [(54, 54)] [(14, 60)] [(1, 8)] [(3, 3)]
def mgh20337 : aw_H := [(81, mgx20336), (89, mgx494), (90, .inr (.inl (0, 240, [], []))), (92, .inr (.inl (0, 8, [], []))), (93, .inr (.inl (0, 8, [], []))), (94, mgx6362)]
def mgn6327_772 : Nat × aw_S := (46, [(0, .inl 81), (1, .inr (false, [(0, 3)])), (2, .inr (false, [(1, 1)]))], [], mgh20337)
def mgh20338 : aw_H := [(81, mgx19320), (89, mgx494), (90, .inr (.inl (0, 240, [], []))), (92, .inr (.inl (0, 8, [], []))), (93, .inr (.inl (0, 8, [], []))), (94, mgx6473)]
def mgn6327_773 : Nat × aw_S := (86, [(0, .inl 81), (1, .inr (false, [(0, 3)])), (2, .inr (false, [(1, 1)]))], [], mgh20338)
def mgx20339 : aw_A := ms_o [(0, 8)] [(0, 4)] ar_t32 ar_t32 [(0, 180)] [(57, 57)] [(17, 60)] [(1, 8)] [(4, 4)]
def mgh20340 : aw_H := [(81, mgx20339), (89, mgx494), (90, .inr (.inl (0, 240, [], []))), (92, .inr (.inl (0, 8, [], []))), (93, .inr (.inl (0, 8, [], []))), (94, mgx6473)]
def mgn6327_774 : Nat × aw_S := (46, [(0, .inl 81), (1, .inr (false, [(0, 3)])), (2, .inr (false, [(1, 1)]))], [], mgh20340)
def mgh20341 : aw_H := [(81, mgx19332), (89, mgx494), (90, .inr (.inl (0, 240, [], []))), (92, .inr (.inl (0, 8, [], []))), (93, .inr (.inl (0, 8, [], []))), (94, mgx6473)]
def mgn6327_775 : Nat × aw_S := (46, [(0, .inl 81), (1, .inr (false, [(0, 3)])), (2, .inr (false, [(0, 0)]))], [], mgh20341)
def mgn6327_776 : Nat × aw_S := (46, [(0, .inl 81), (1, .inr (false, [(0, 3)])), (2, .inr (false, [(0, 0)]))], [], mgh20335)
def mgn6327_777 : Nat × aw_S := (46, [(0, .inl 81), (1, .inr (false, [(0, 3)])), (2, .inr (false, [(0, 0)]))], [], mgh20205)
def mgx20342 : aw_A := ms_o [(0, 8)] [(0, 4)] ar_t32 ar_t32 [(0, 180)] [(59, 59)] [(11, 60)] [(1, 8)] [(2, 2)]
def mgh20343 : aw_H := [(81, mgx20342), (89, mgx494), (90, .inr (.inl (0, 240, [], []))), (92, .inr (.inl (0, 8, [], []))), (93, .inr (.inl (0, 8, [], []))), (94, mgx6150)]
def mgn6327_778 : Nat × aw_S := (46, [(0, .inl 81), (1, .inr (false, [(0, 3)])), (2, .inr (false, [(1, 1)]))], [], mgh20343)
def mgn6327_779 : Nat × aw_S := (46, [(0, .inl 81), (1, .inr (false, [(0, 3)])), (2, .inr (false, [(0, 0)]))], [], mgh20219)
def mgx20344 : aw_A := ms_o [(0, 8)] [(0, 4)] ar_t32 ar_t32 [(0, 180)] [(57, 57)] [(11, 60)] [(1, 8)] [(2, 2)]
def mgh20345 : aw_H := [(81, mgx20344), (89, mgx494), (90, .inr (.inl (0, 240, [], []))), (92, .inr (.inl (0, 8, [], []))), (93, .inr (.inl (0, 8, [], []))), (94, mgx6150)]
def mgn6327_780 : Nat × aw_S := (46, [(0, .inl 81), (1, .inr (false, [(0, 3)])), (2, .inr (false, [(1, 1)]))], [], mgh20345)
def mgn6327_781 : Nat × aw_S := (46, [(0, .inl 81), (1, .inr (false, [(0, 3)])), (2, .inr (false, [(0, 0)]))], [], mgh20176)
def mgn6327_782 : Nat × aw_S := (46, [(0, .inl 81), (1, .inr (false, [(0, 3)])), (2, .inr (false, [(0, 0)]))], [], mgh20225)
def mgh20346 : aw_H := [(81, mgx19341), (89, mgx494), (90, .inr (.inl (0, 240, [], []))), (92, .inr (.inl (0, 8, [], []))), (93, .inr (.inl (0, 8, [], []))), (94, mgx6362)]
def mgn6327_783 : Nat × aw_S := (86, [(0, .inl 81), (1, .inr (false, [(0, 3)])), (2, .inr (false, [(1, 1)]))], [], mgh20346)
def mgn6327_784 : Nat × aw_S := (46, [(0, .inl 81), (1, .inr (false, [(0, 3)])), (2, .inr (false, [(0, 0)]))], [], mgh20228)
def mgx20347 : aw_A := ms_o [(0, 8)] [(0, 4)] ar_t32 ar_t32 [(0, 180)] [(52, 52)] [(11, 60)] [(1, 8)] [(2, 2)]
def mgh20348 : aw_H := [(81, mgx20347), (89, mgx494), (90, .inr (.inl (0, 240, [], []))), (92, .inr (.inl (0, 8, [], []))), (93, .inr (.inl (0, 8, [], []))), (94, mgx6150)]
def mgn6327_785 : Nat × aw_S := (46, [(0, .inl 81), (1, .inr (false, [(0, 3)])), (2, .inr (false, [(1, 1)]))], [], mgh20348)
def mgn6327_786 : Nat × aw_S := (46, [(0, .inl 81), (1, .inr (false, [(0, 3)])), (2, .inr (false, [(0, 0)]))], [], mgh20196)
def mgh20349 : aw_H := [(81, mgx19090), (89, mgx494), (90, .inr (.inl (0, 240, [], []))), (92, .inr (.inl (0, 8, [], []))), (93, .inr (.inl (0, 8, [], []))), (94, mgx6362)]
def mgn6327_787 : Nat × aw_S := (86, [(0, .inl 81), (1, .inr (false, [(0, 3)])), (2, .inr (false, [(1, 1)]))], [], mgh20349)
def mgx20350 : aw_A := ms_o [(0, 8)] [(0, 4)] ar_t32 ar_t32 [(0, 180)] [(55, 55)] [(14, 60)] [(1, 8)] [(3, 3)]
def mgh20351 : aw_H := [(81, mgx20350), (89, mgx494), (90, .inr (.inl (0, 240, [], []))), (92, .inr (.inl (0, 8, [], []))), (93, .inr (.inl (0, 8, [], []))), (94, mgx6362)]
def mgn6327_788 : Nat × aw_S := (46, [(0, .inl 81), (1, .inr (false, [(0, 3)])), (2, .inr (false, [(1, 1)]))], [], mgh20351)
def mgh20352 : aw_H := [(81, mgx19363), (89, mgx494), (90, .inr (.inl (0, 240, [], []))), (92, .inr (.inl (0, 8, [], []))), (93, .inr (.inl (0, 8, [], []))), (94, mgx6473)]
def mgn6327_789 : Nat × aw_S := (86, [(0, .inl 81), (1, .inr (false, [(0, 3)])), (2, .inr (false, [(1, 1)]))], [], mgh20352)
def mgx20353 : aw_A := ms_o [(0, 8)] [(0, 4)] ar_t32 ar_t32 [(0, 180)] [(58, 58)] [(17, 60)] [(1, 8)] [(4, 4)]
def mgh20354 : aw_H := [(81, mgx20353), (89, mgx494), (90, .inr (.inl (0, 240, [], []))), (92, .inr (.inl (0, 8, [], []))), (93, .inr (.inl (0, 8, [], []))), (94, mgx6473)]
def mgn6327_790 : Nat × aw_S := (46, [(0, .inl 81), (1, .inr (false, [(0, 3)])), (2, .inr (false, [(1, 1)]))], [], mgh20354)
def mgh20355 : aw_H := [(81, mgx19372), (89, mgx494), (90, .inr (.inl (0, 240, [], []))), (92, .inr (.inl (0, 8, [], []))), (93, .inr (.inl (0, 8, [], []))), (94, mgx6473)]
def mgn6327_791 : Nat × aw_S := (46, [(0, .inl 81), (1, .inr (false, [(0, 3)])), (2, .inr (false, [(0, 0)]))], [], mgh20355)
def mgn6327_792 : Nat × aw_S := (46, [(0, .inl 81), (1, .inr (false, [(0, 3)])), (2, .inr (false, [(0, 0)]))], [], mgh20349)
def mgx20356 : aw_A := ms_o [(0, 8)] [(0, 4)] ar_t32 ar_t32 [(0, 180)] [(53, 53)] [(11, 60)] [(1, 8)] [(2, 2)]
def mgh20357 : aw_H := [(81, mgx20356), (89, mgx494), (90, .inr (.inl (0, 240, [], []))), (92, .inr (.inl (0, 8, [], []))), (93, .inr (.inl (0, 8, [], []))), (94, mgx6150)]
def mgn6327_793 : Nat × aw_S := (46, [(0, .inl 81), (1, .inr (false, [(0, 3)])), (2, .inr (false, [(1, 1)]))], [], mgh20357)
def mgh20358 : aw_H := [(81, mgx19279), (89, mgx494), (90, .inr (.inl (0, 240, [], []))), (92, .inr (.inl (0, 8, [], []))), (93, .inr (.inl (0, 8, [], []))), (94, mgx6362)]
def mgn6327_794 : Nat × aw_S := (86, [(0, .inl 81), (1, .inr (false, [(0, 3)])), (2, .inr (false, [(1, 1)]))], [], mgh20358)
def mgx20359 : aw_A := ms_o [(0, 8)] [(0, 4)] ar_t32 ar_t32 [(0, 180)] [(57, 57)] [(14, 60)] [(1, 8)] [(3, 3)]
def mgh20360 : aw_H := [(81, mgx20359), (89, mgx494), (90, .inr (.inl (0, 240, [], []))), (92, .inr (.inl (0, 8, [], []))), (93, .inr (.inl (0, 8, [], []))), (94, mgx6362)]
def mgn6327_795 : Nat × aw_S := (46, [(0, .inl 81), (1, .inr (false, [(0, 3)])), (2, .inr (false, [(1, 1)]))], [], mgh20360)
def mgh20361 : aw_H := [(81, mgx19390), (89, mgx494), (90, .inr (.inl (0, 240, [], []))), (92, .inr (.inl (0, 8, [], []))), (93, .inr (.inl (0, 8, [], []))), (94, mgx6473)]
def mgn6327_796 : Nat × aw_S := (86, [(0, .inl 81), (1, .inr (false, [(0, 3)])), (2, .inr (false, [(1, 1)]))], [], mgh20361)
def mgx20362 : aw_A := ms_o [(0, 8)] [(0, 4)] ar_t32 ar_t32 [(0, 180)] [(56, 56)] [(14, 60)] [(1, 8)] [(3, 3)]
def mgh20363 : aw_H := [(81, mgx20362), (89, mgx494), (90, .inr (.inl (0, 240, [], []))), (92, .inr (.inl (0, 8, [], []))), (93, .inr (.inl (0, 8, [], []))), (94, mgx6362)]
def mgn6327_797 : Nat × aw_S := (46, [(0, .inl 81), (1, .inr (false, [(0, 3)])), (2, .inr (false, [(1, 1)]))], [], mgh20363)
def mgn6327_798 : Nat × aw_S := (46, [(0, .inl 81), (1, .inr (false, [(0, 3)])), (2, .inr (false, [(0, 0)]))], [], mgh20320)
def mgn6327_799 : Nat × aw_S := (46, [(0, .inl 81), (1, .inr (false, [(0, 3)])), (2, .inr (false, [(0, 0)]))], [], mgh20358)
def mgh20364 : aw_H := [(81, mgx19398), (89, mgx494), (90, .inr (.inl (0, 240, [], []))), (92, .inr (.inl (0, 8, [], []))), (93, .inr (.inl (0, 8, [], []))), (94, mgx6473)]
def mgn6327_800 : Nat × aw_S := (86, [(0, .inl 81), (1, .inr (false, [(0, 3)])), (2, .inr (false, [(1, 1)]))], [], mgh20364)
def mgx20365 : aw_A := ms_o [(0, 8)] [(0, 4)] ar_t32 ar_t32 [(0, 180)] [(59, 59)] [(17, 60)] [(1, 8)] [(4, 4)]
def mgh20366 : aw_H := [(81, mgx20365), (89, mgx494), (90, .inr (.inl (0, 240, [], []))), (92, .inr (.inl (0, 8, [], []))), (93, .inr (.inl (0, 8, [], []))), (94, mgx6473)]
def mgn6327_801 : Nat × aw_S := (46, [(0, .inl 81), (1, .inr (false, [(0, 3)])), (2, .inr (false, [(1, 1)]))], [], mgh20366)
def mgh20367 : aw_H := [(81, mgx19405), (89, mgx494), (90, .inr (.inl (0, 240, [], []))), (92, .inr (.inl (0, 8, [], []))), (93, .inr (.inl (0, 8, [], []))), (94, mgx6473)]
def mgn6327_802 : Nat × aw_S := (46, [(0, .inl 81), (1, .inr (false, [(0, 3)])), (2, .inr (false, [(0, 0)]))], [], mgh20367)
def mgx20368 : aw_A := ms_o [(0, 8)] [(0, 4)] ar_t32 ar_t32 [(0, 180)] [(60, 60)] [(17, 60)] [(1, 8)] [(4, 4)]
def mgh20369 : aw_H := [(81, mgx20368), (89, mgx494), (90, .inr (.inl (0, 240, [], []))), (92, .inr (.inl (0, 8, [], []))), (93, .inr (.inl (0, 8, [], []))), (94, mgx6473)]
def mgn6327_803 : Nat × aw_S := (46, [(0, .inl 81), (1, .inr (false, [(0, 3)])), (2, .inr (false, [(1, 1)]))], [], mgh20369)
def mgx20370 : aw_A := ms_o [(0, 8)] [(0, 4)] ar_t32 ar_t32 [(0, 180)] [(59, 59)] [(14, 60)] [(1, 8)] [(3, 3)]
def mgh20371 : aw_H := [(81, mgx20370), (89, mgx494), (90, .inr (.inl (0, 240, [], []))), (92, .inr (.inl (0, 8, [], []))), (93, .inr (.inl (0, 8, [], []))), (94, mgx6362)]
def mgn6327_804 : Nat × aw_S := (46, [(0, .inl 81), (1, .inr (false, [(0, 3)])), (2, .inr (false, [(1, 1)]))], [], mgh20371)
def mgx20372 : aw_A := ms_o [(0, 8)] [(0, 4)] ar_t32 ar_t32 [(0, 180)] [(58, 58)] [(14, 60)] [(1, 8)] [(3, 3)]
def mgh20373 : aw_H := [(81, mgx20372), (89, mgx494), (90, .inr (.inl (0, 240, [], []))), (92, .inr (.inl (0, 8, [], []))), (93, .inr (.inl (0, 8, [], []))), (94, mgx6362)]
def mgn6327_805 : Nat × aw_S := (46, [(0, .inl 81), (1, .inr (false, [(0, 3)])), (2, .inr (false, [(1, 1)]))], [], mgh20373)
def mgn6327_806 : Nat × aw_S := (46, [(0, .inl 81), (1, .inr (false, [(0, 3)])), (2, .inr (false, [(0, 0)]))], [], mgh20346)
def mgn6327_807 : Nat × aw_S := (46, [(0, .inl 81), (1, .inr (false, [(0, 3)])), (2, .inr (false, [(0, 0)]))], [], mgh20323)
def mgn6327_808 : Nat × aw_S := (46, [(0, .inl 81), (1, .inr (false, [(0, 3)])), (2, .inr (false, [(0, 0)]))], [], mgh20315)
def mgx20374 : aw_A := ms_o [(0, 8)] [(0, 4)] ar_t32 ar_t32 [(0, 180)] [(60, 60)] [(14, 60)] [(1, 8)] [(3, 3)]
def mgh20375 : aw_H := [(81, mgx20374), (89, mgx494), (90, .inr (.inl (0, 240, [], []))), (92, .inr (.inl (0, 8, [], []))), (93, .inr (.inl (0, 8, [], []))), (94, mgx6362)]
def mgn6327_809 : Nat × aw_S := (46, [(0, .inl 81), (1, .inr (false, [(0, 3)])), (2, .inr (false, [(1, 1)]))], [], mgh20375)
def mgn6327_810 : Nat × aw_S := (46, [(0, .inl 81), (1, .inr (false, [(0, 3)])), (2, .inr (false, [(0, 0)]))], [], mgh20161)
def mgn6327_811 : Nat × aw_S := (46, [(0, .inl 81), (1, .inr (false, [(0, 3)])), (2, .inr (false, [(0, 0)]))], [], mgh20193)
def mgn6327_812 : Nat × aw_S := (46, [(0, .inl 81), (1, .inr (false, [(0, 3)])), (2, .inr (false, [(0, 0)]))], [], mgh20222)
def mgx20376 : aw_A := ms_o [(0, 8)] [(0, 4)] ar_t32 ar_t32 [(0, 180)] [(60, 60)] [(11, 60)] [(1, 8)] [(2, 2)]
def mgh20377 : aw_H := [(81, mgx20376), (89, mgx494), (90, .inr (.inl (0, 240, [], []))), (92, .inr (.inl (0, 8, [], []))), (93, .inr (.inl (0, 8, [], []))), (94, mgx6150)]
def mgn6327_813 : Nat × aw_S := (46, [(0, .inl 81), (1, .inr (false, [(0, 3)])), (2, .inr (false, [(1, 1)]))], [], mgh20377)
def mgn6327_814 : Nat × aw_S := (46, [(0, .inl 81), (1, .inr (false, [(0, 3)])), (2, .inr (false, [(0, 0)]))], [], mgh20036)
def mgn6327_815 : Nat × aw_S := (46, [(0, .inl 81), (1, .inr (false, [(0, 3)])), (2, .inr (false, [(0, 0)]))], [], mgh20081)
def mgn6327_816 : Nat × aw_S := (46, [(0, .inl 81), (1, .inr (false, [(0, 3)])), (2, .inr (false, [(0, 0)]))], [], mgh20051)
def mgx20378 : aw_A := ms_o [(0, 8)] [(0, 4)] ar_t32 ar_t32 [(0, 180)] [(35, 35)] [(-1, 60)] [(0, 8)] [(0, 0)]
def mgh20379 : aw_H := [(81, mgx20378), (89, mgx494), (90, .inr (.inl (0, 240, [], []))), (92, .inr (.inl (0, 8, [], []))), (93, .inr (.inl (0, 8, [], []))), (94, mgx4446)]
def mgn6327_817 : Nat × aw_S := (46, [(0, .inl 81), (1, .inr (false, [(0, 3)])), (2, .inr (false, [(0, 0)]))], [], mgh20379)
def mgx20380 : aw_A := ms_o [(0, 8)] [(0, 4)] ar_t32 ar_t32 [(0, 180)] [(18, 18)] [(-1, 60)] [(0, 4)] [(0, 0)]
def mgh20381 : aw_H := [(81, mgx20380), (89, mgx494), (90, .inr (.inl (0, 240, [], []))), (92, .inr (.inl (0, 8, [], []))), (93, .inr (.inl (0, 8, [], []))), (94, mgx4446)]
def mgn6327_818 : Nat × aw_S := (46, [(0, .inl 81), (1, .inr (false, [(0, 3)])), (2, .inr (false, [(0, 0)]))], [], mgh20381)
theorem mgk6327_0 : ai_go [mgc80] mgc6327 mgb6327 [81, 92, 93, 94] 0 [42, 46, 86] [] [mgn6327_49, mgn6327_52, mgn6327_60, mgn6327_34, mgn6327_61, mgn6327_16, mgn6327_172, mgn6327_33, mgn6327_171, mgn6327_2, mgn6327_73, mgn6327_51, mgn6327_92, mgn6327_10, mgn6327_91, mgn6327_11, mgn6327_74, mgn6327_13, mgn6327_77, mgn6327_46, mgn6327_85, mgn6327_15, mgn6327_88, mgn6327_7, mgn6327_199, mgn6327_9, mgn6327_198, mgn6327_203, mgn6327_233, mgn6327_24, mgn6327_209, mgn6327_238, mgn6327_240, mgn6327_200, mgn6327_325, mgn6327_45, mgn6327_818, mgn6327_40, mgn6327_264, mgn6327_35, mgn6327_265, mgn6327_3, mgn6327_279, mgn6327_18, mgn6327_310, mgn6327_42, mgn6327_309, mgn6327_25, mgn6327_311, mgn6327_29, mgn6327_282, mgn6327_31, mgn6327_290, mgn6327_1, mgn6327_297, mgn6327_50, mgn6327_307, mgn6327_21, mgn6327_299, mgn6327_39, mgn6327_314, mgn6327_234, mgn6327_315, mgn6327_237, mgn6327_323, mgn6327_32, mgn6327_324, mgn6327_5, mgn6327_605, mgn6327_17, mgn6327_817, mgn6327_202, mgn6327_606, mgn6327_23, mgn6327_604, mgn6327_28, mgn6327_520, mgn6327_38, mgn6327_527, mgn6327_12, mgn6327_528, mgn6327_37, mgn6327_538, mgn6327_20, mgn6327_546, mgn6327_14, mgn6327_545, mgn6327_8, mgn6327_578, mgn6327_235, mgn6327_579, mgn6327_43, mgn6327_559, mgn6327_44, mgn6327_561, mgn6327_27, mgn6327_560, mgn6327_201, mgn6327_558, mgn6327_47, mgn6327_573, mgn6327_6, mgn6327_602, mgn6327_36, mgn6327_601, mgn6327_22, mgn6327_600, mgn6327_236, mgn6327_603, mgn6327_4, mgn6327_597, mgn6327_26, mgn6327_598, mgn6327_30, mgn6327_596, mgn6327_19, mgn6327_599, mgn6327_41, mgn6327_594, mgn6327_48, mgn6327_593] 2000 true mgn6327_0.1 mgn6327_0.2 = true := by decide +kernel
theorem mgk6327_1 : ai_go [mgc107] mgc6327 mgb6327 [81, 92, 93, 94] 0 [42, 46, 86] [] [mgn6327_591, mgn6327_592, mgn6327_588, mgn6327_583, mgn6327_585, mgn6327_589, mgn6327_570, mgn6327_564, mgn6327_574, mgn6327_580, mgn6327_567, mgn6327_548, mgn6327_554, mgn6327_551, mgn6327_557, mgn6327_541, mgn6327_531, mgn6327_534, mgn6327_544, mgn6327_537, mgn6327_523, mgn6327_526, mgn6327_519, mgn6327_317, mgn6327_514, mgn6327_320, mgn6327_517, mgn6327_304, mgn6327_301, mgn6327_294, mgn6327_312, mgn6327_284, mgn6327_298, mgn6327_291] 2000 true mgn6327_1.1 mgn6327_1.2 = true := by decide +kernel
theorem mgk6327_2 : ai_go [mgc85] mgc6327 mgb6327 [81, 92, 93, 94] 0 [42, 46, 86] [] [mgn6327_591, mgn6327_592, mgn6327_588, mgn6327_583, mgn6327_585, mgn6327_589, mgn6327_570, mgn6327_564, mgn6327_574, mgn6327_580, mgn6327_567, mgn6327_548, mgn6327_554, mgn6327_551, mgn6327_557, mgn6327_541, mgn6327_531, mgn6327_534, mgn6327_544, mgn6327_537, mgn6327_523, mgn6327_526, mgn6327_519, mgn6327_317, mgn6327_514, mgn6327_320, mgn6327_517, mgn6327_304, mgn6327_301, mgn6327_294, mgn6327_312, mgn6327_284, mgn6327_298, mgn6327_291, mgn6327_287, mgn6327_276, mgn6327_270, mgn6327_267, mgn6327_280, mgn6327_273, mgn6327_257, mgn6327_260, mgn6327_254, mgn6327_263, mgn6327_239, mgn6327_204, mgn6327_207, mgn6327_80, mgn6327_173, mgn6327_87, mgn6327_83, mgn6327_76, mgn6327_66, mgn6327_63, mgn6327_69, mgn6327_72] 2000 true mgn6327_2.1 mgn6327_2.2 = true := by decide +kernel
theorem mgk6327_3 : ai_go [mgc101] mgc6327 mgb6327 [81, 92, 93, 94] 0 [42, 46, 86] [] [mgn6327_591, mgn6327_592, mgn6327_588, mgn6327_583, mgn6327_585, mgn6327_589, mgn6327_570, mgn6327_564, mgn6327_574, mgn6327_580, mgn6327_567, mgn6327_548, mgn6327_554, mgn6327_551, mgn6327_557, mgn6327_541, mgn6327_531, mgn6327_534, mgn6327_544, mgn6327_537, mgn6327_523, mgn6327_526, mgn6327_519, mgn6327_317, mgn6327_514, mgn6327_320, mgn6327_517, mgn6327_304, mgn6327_301, mgn6327_294, mgn6327_312, mgn6327_284, mgn6327_298, mgn6327_291, mgn6327_287, mgn6327_276, mgn6327_270, mgn6327_267, mgn6327_280, mgn6327_273] 2000 true mgn6327_3.1 mgn6327_3.2 = true := by decide +kernel
theorem mgk6327_4 : ai_go [mgc135] mgc6327 mgb6327 [81, 92, 93, 94] 0 [42, 46, 86] [] [mgn6327_591, mgn6327_592, mgn6327_588, mgn6327_583, mgn6327_585, mgn6327_589] 2000 true mgn6327_4.1 mgn6327_4.2 = true := by decide +kernel
theorem mgk6327_5 : ai_go [mgc114] mgc6327 mgb6327 [81, 92, 93, 94] 0 [42, 46, 86] [] [mgn6327_591, mgn6327_592, mgn6327_588, mgn6327_583, mgn6327_585, mgn6327_589, mgn6327_570, mgn6327_564, mgn6327_574, mgn6327_580, mgn6327_567, mgn6327_548, mgn6327_554, mgn6327_551, mgn6327_557, mgn6327_541, mgn6327_531, mgn6327_534, mgn6327_544, mgn6327_537, mgn6327_523, mgn6327_526, mgn6327_519, mgn6327_317, mgn6327_514, mgn6327_320, mgn6327_517] 2000 true mgn6327_5.1 mgn6327_5.2 = true := by decide +kernel
theorem mgk6327_6 : ai_go [mgc131] mgc6327 mgb6327 [81, 92, 93, 94] 0 [42, 46, 86] [] [mgn6327_591, mgn6327_592, mgn6327_588, mgn6327_583, mgn6327_585, mgn6327_589, mgn6327_570, mgn6327_564, mgn6327_574, mgn6327_580] 2000 true mgn6327_6.1 mgn6327_6.2 = true := by decide +kernel
theorem mgk6327_7 : ai_go [mgc92] mgc6327 mgb6327 [81, 92, 93, 94] 0 [42, 46, 86] [] [mgn6327_591, mgn6327_592, mgn6327_588, mgn6327_583, mgn6327_585, mgn6327_589, mgn6327_570, mgn6327_564, mgn6327_574, mgn6327_580, mgn6327_567, mgn6327_548, mgn6327_554, mgn6327_551, mgn6327_557, mgn6327_541, mgn6327_531, mgn6327_534, mgn6327_544, mgn6327_537, mgn6327_523, mgn6327_526, mgn6327_519, mgn6327_317, mgn6327_514, mgn6327_320, mgn6327_517, mgn6327_304, mgn6327_301, mgn6327_294, mgn6327_312, mgn6327_284, mgn6327_298, mgn6327_291, mgn6327_287, mgn6327_276, mgn6327_270, mgn6327_267, mgn6327_280, mgn6327_273, mgn6327_257, mgn6327_260, mgn6327_254, mgn6327_263, mgn6327_239, mgn6327_204, mgn6327_207, mgn6327_80, mgn6327_173] 2000 true mgn6327_7.1 mgn6327_7.2 = true := by decide +kernel
theorem mgk6327_8 : ai_go [mgc124] mgc6327 mgb6327 [81, 92, 93, 94] 0 [42, 46, 86] [] [mgn6327_591, mgn6327_592, mgn6327_588, mgn6327_583, mgn6327_585, mgn6327_589, mgn6327_570, mgn6327_564, mgn6327_574, mgn6327_580, mgn6327_567, mgn6327_548, mgn6327_554, mgn6327_551, mgn6327_557, mgn6327_541, mgn6327_531] 2000 true mgn6327_8.1 mgn6327_8.2 = true := by decide +kernel
theorem mgk6327_9 : ai_go [mgc93] mgc6327 mgb6327 [81, 92, 93, 94] 0 [42, 46, 86] [] [mgn6327_591, mgn6327_592, mgn6327_588, mgn6327_583, mgn6327_585, mgn6327_589, mgn6327_570, mgn6327_564, mgn6327_574, mgn6327_580, mgn6327_567, mgn6327_548, mgn6327_554, mgn6327_551, mgn6327_557, mgn6327_541, mgn6327_531, mgn6327_534, mgn6327_544, mgn6327_537, mgn6327_523, mgn6327_526, mgn6327_519, mgn6327_317, mgn6327_514, mgn6327_320, mgn6327_517, mgn6327_304, mgn6327_301, mgn6327_294, mgn6327_312, mgn6327_284, mgn6327_298, mgn6327_291, mgn6327_287, mgn6327_276, mgn6327_270, mgn6327_267, mgn6327_280, mgn6327_273, mgn6327_257, mgn6327_260, mgn6327_254, mgn6327_263, mgn6327_239, mgn6327_204, mgn6327_207, mgn6327_80] 2000 true mgn6327_9.1 mgn6327_9.2 = true := by decide +kernel
theorem mgk6327_10 : ai_go [mgc87] mgc6327 mgb6327 [81, 92, 93, 94] 0 [42, 46, 86] [] [mgn6327_591, mgn6327_592, mgn6327_588, mgn6327_583, mgn6327_585, mgn6327_589, mgn6327_570, mgn6327_564, mgn6327_574, mgn6327_580, mgn6327_567, mgn6327_548, mgn6327_554, mgn6327_551, mgn6327_557, mgn6327_541, mgn6327_531, mgn6327_534, mgn6327_544, mgn6327_537, mgn6327_523, mgn6327_526, mgn6327_519, mgn6327_317, mgn6327_514, mgn6327_320, mgn6327_517, mgn6327_304, mgn6327_301, mgn6327_294, mgn6327_312, mgn6327_284, mgn6327_298, mgn6327_291, mgn6327_287, mgn6327_276, mgn6327_270, mgn6327_267, mgn6327_280, mgn6327_273, mgn6327_257, mgn6327_260, mgn6327_254, mgn6327_263, mgn6327_239, mgn6327_204, mgn6327_207, mgn6327_80, mgn6327_173, mgn6327_87, mgn6327_83, mgn6327_76, mgn6327_66, mgn6327_63] 2000 true mgn6327_10.1 mgn6327_10.2 = true := by decide +kernel
theorem mgk6327_11 : ai_go [mgc88] mgc6327 mgb6327 [81, 92, 93, 94] 0 [42, 46, 86] [] [mgn6327_591, mgn6327_592, mgn6327_588, mgn6327_583, mgn6327_585, mgn6327_589, mgn6327_570, mgn6327_564, mgn6327_574, mgn6327_580, mgn6327_567, mgn6327_548, mgn6327_554, mgn6327_551, mgn6327_557, mgn6327_541, mgn6327_531, mgn6327_534, mgn6327_544, mgn6327_537, mgn6327_523, mgn6327_526, mgn6327_519, mgn6327_317, mgn6327_514, mgn6327_320, mgn6327_517, mgn6327_304, mgn6327_301, mgn6327_294, mgn6327_312, mgn6327_284, mgn6327_298, mgn6327_291, mgn6327_287, mgn6327_276, mgn6327_270, mgn6327_267, mgn6327_280, mgn6327_273, mgn6327_257, mgn6327_260, mgn6327_254, mgn6327_263, mgn6327_239, mgn6327_204, mgn6327_207, mgn6327_80, mgn6327_173, mgn6327_87, mgn6327_83, mgn6327_76, mgn6327_66] 2000 true mgn6327_11.1 mgn6327_11.2 = true := by decide +kernel
theorem mgk6327_12 : ai_go [mgc120] mgc6327 mgb6327 [81, 92, 93, 94] 0 [42, 46, 86] [] [mgn6327_591, mgn6327_592, mgn6327_588, mgn6327_583, mgn6327_585, mgn6327_589, mgn6327_570, mgn6327_564, mgn6327_574, mgn6327_580, mgn6327_567, mgn6327_548, mgn6327_554, mgn6327_551, mgn6327_557, mgn6327_541, mgn6327_531, mgn6327_534, mgn6327_544, mgn6327_537, mgn6327_523] 2000 true mgn6327_12.1 mgn6327_12.2 = true := by decide +kernel
theorem mgk6327_13 : ai_go [mgc89] mgc6327 mgb6327 [81, 92, 93, 94] 0 [42, 46, 86] [] [mgn6327_591, mgn6327_592, mgn6327_588, mgn6327_583, mgn6327_585, mgn6327_589, mgn6327_570, mgn6327_564, mgn6327_574, mgn6327_580, mgn6327_567, mgn6327_548, mgn6327_554, mgn6327_551, mgn6327_557, mgn6327_541, mgn6327_531, mgn6327_534, mgn6327_544, mgn6327_537, mgn6327_523, mgn6327_526, mgn6327_519, mgn6327_317, mgn6327_514, mgn6327_320, mgn6327_517, mgn6327_304, mgn6327_301, mgn6327_294, mgn6327_312, mgn6327_284, mgn6327_298, mgn6327_291, mgn6327_287, mgn6327_276, mgn6327_270, mgn6327_267, mgn6327_280, mgn6327_273, mgn6327_257, mgn6327_260, mgn6327_254, mgn6327_263, mgn6327_239, mgn6327_204, mgn6327_207, mgn6327_80, mgn6327_173, mgn6327_87, mgn6327_83, mgn6327_76] 2000 true mgn6327_13.1 mgn6327_13.2 = true := by decide +kernel
theorem mgk6327_14 : ai_go [mgc123] mgc6327 mgb6327 [81, 92, 93, 94] 0 [42, 46, 86] [] [mgn6327_591, mgn6327_592, mgn6327_588, mgn6327_583, mgn6327_585, mgn6327_589, mgn6327_570, mgn6327_564, mgn6327_574, mgn6327_580, mgn6327_567, mgn6327_548, mgn6327_554, mgn6327_551, mgn6327_557, mgn6327_541, mgn6327_531, mgn6327_534] 2000 true mgn6327_14.1 mgn6327_14.2 = true := by decide +kernel
theorem mgk6327_15 : ai_go [mgc91] mgc6327 mgb6327 [81, 92, 93, 94] 0 [42, 46, 86] [] [mgn6327_591, mgn6327_592, mgn6327_588, mgn6327_583, mgn6327_585, mgn6327_589, mgn6327_570, mgn6327_564, mgn6327_574, mgn6327_580, mgn6327_567, mgn6327_548, mgn6327_554, mgn6327_551, mgn6327_557, mgn6327_541, mgn6327_531, mgn6327_534, mgn6327_544, mgn6327_537, mgn6327_523, mgn6327_526, mgn6327_519, mgn6327_317, mgn6327_514, mgn6327_320, mgn6327_517, mgn6327_304, mgn6327_301, mgn6327_294, mgn6327_312, mgn6327_284, mgn6327_298, mgn6327_291, mgn6327_287, mgn6327_276, mgn6327_270, mgn6327_267, mgn6327_280, mgn6327_273, mgn6327_257, mgn6327_260, mgn6327_254, mgn6327_263, mgn6327_239, mgn6327_204, mgn6327_207, mgn6327_80, mgn6327_173, mgn6327_87] 2000 true mgn6327_15.1 mgn6327_15.2 = true := by decide +kernel
theorem mgk6327_16 : ai_go [mgc83] mgc6327 mgb6327 [81, 92, 93, 94] 0 [42, 46, 86] [] [mgn6327_591, mgn6327_592, mgn6327_588, mgn6327_583, mgn6327_585, mgn6327_589, mgn6327_570, mgn6327_564, mgn6327_574, mgn6327_580, mgn6327_567, mgn6327_548, mgn6327_554, mgn6327_551, mgn6327_557, mgn6327_541, mgn6327_531, mgn6327_534, mgn6327_544, mgn6327_537, mgn6327_523, mgn6327_526, mgn6327_519, mgn6327_317, mgn6327_514, mgn6327_320, mgn6327_517, mgn6327_304, mgn6327_301, mgn6327_294, mgn6327_312, mgn6327_284, mgn6327_298, mgn6327_291, mgn6327_287, mgn6327_276, mgn6327_270, mgn6327_267, mgn6327_280, mgn6327_273, mgn6327_257, mgn6327_260, mgn6327_254, mgn6327_263, mgn6327_239, mgn6327_204, mgn6327_207, mgn6327_80, mgn6327_173, mgn6327_87, mgn6327_83, mgn6327_76, mgn6327_66, mgn6327_63, mgn6327_69, mgn6327_72, mgn6327_57, mgn6327_55] 2000 true mgn6327_16.1 mgn6327_16.2 = true := by decide +kernel
theorem mgk6327_17 : ai_go [mgc115] mgc6327 mgb6327 [81, 92, 93, 94] 0 [42, 46, 86] [] [mgn6327_591, mgn6327_592, mgn6327_588, mgn6327_583, mgn6327_585, mgn6327_589, mgn6327_570, mgn6327_564, mgn6327_574, mgn6327_580, mgn6327_567, mgn6327_548, mgn6327_554, mgn6327_551, mgn6327_557, mgn6327_541, mgn6327_531, mgn6327_534, mgn6327_544, mgn6327_537, mgn6327_523, mgn6327_526, mgn6327_519, mgn6327_317, mgn6327_514, mgn6327_320] 2000 true mgn6327_17.1 mgn6327_17.2 = true := by decide +kernel
theorem mgk6327_18 : ai_go [mgc102] mgc6327 mgb6327 [81, 92, 93, 94] 0 [42, 46, 86] [] [mgn6327_591, mgn6327_592, mgn6327_588, mgn6327_583, mgn6327_585, mgn6327_589, mgn6327_570, mgn6327_564, mgn6327_574, mgn6327_580, mgn6327_567, mgn6327_548, mgn6327_554, mgn6327_551, mgn6327_557, mgn6327_541, mgn6327_531, mgn6327_534, mgn6327_544, mgn6327_537, mgn6327_523, mgn6327_526, mgn6327_519, mgn6327_317, mgn6327_514, mgn6327_320, mgn6327_517, mgn6327_304, mgn6327_301, mgn6327_294, mgn6327_312, mgn6327_284, mgn6327_298, mgn6327_291, mgn6327_287, mgn6327_276, mgn6327_270, mgn6327_267, mgn6327_280] 2000 true mgn6327_18.1 mgn6327_18.2 = true := by decide +kernel
theorem mgk6327_19 : ai_go [mgc138] mgc6327 mgb6327 [81, 92, 93, 94] 0 [42, 46, 86] [] [mgn6327_591, mgn6327_592, mgn6327_588] 2000 true mgn6327_19.1 mgn6327_19.2 = true := by decide +kernel
theorem mgk6327_20 : ai_go [mgc122] mgc6327 mgb6327 [81, 92, 93, 94] 0 [42, 46, 86] [] [mgn6327_591, mgn6327_592, mgn6327_588, mgn6327_583, mgn6327_585, mgn6327_589, mgn6327_570, mgn6327_564, mgn6327_574, mgn6327_580, mgn6327_567, mgn6327_548, mgn6327_554, mgn6327_551, mgn6327_557, mgn6327_541, mgn6327_531, mgn6327_534, mgn6327_544] 2000 true mgn6327_20.1 mgn6327_20.2 = true := by decide +kernel
theorem mgk6327_21 : ai_go [mgc109] mgc6327 mgb6327 [81, 92, 93, 94] 0 [42, 46, 86] [] [mgn6327_591, mgn6327_592, mgn6327_588, mgn6327_583, mgn6327_585, mgn6327_589, mgn6327_570, mgn6327_564, mgn6327_574, mgn6327_580, mgn6327_567, mgn6327_548, mgn6327_554, mgn6327_551, mgn6327_557, mgn6327_541, mgn6327_531, mgn6327_534, mgn6327_544, mgn6327_537, mgn6327_523, mgn6327_526, mgn6327_519, mgn6327_317, mgn6327_514, mgn6327_320, mgn6327_517, mgn6327_304, mgn6327_301, mgn6327_294, mgn6327_312, mgn6327_284] 2000 true mgn6327_21.1 mgn6327_21.2 = true := by decide +kernel
theorem mgk6327_22 : ai_go [mgc133] mgc6327 mgb6327 [81, 92, 93, 94] 0 [42, 46, 86] [] [mgn6327_591, mgn6327_592, mgn6327_588, mgn6327_583, mgn6327_585, mgn6327_589, mgn6327_570, mgn6327_564] 2000 true mgn6327_22.1 mgn6327_22.2 = true := by decide +kernel
theorem mgk6327_23 : ai_go [mgc117] mgc6327 mgb6327 [81, 92, 93, 94] 0 [42, 46, 86] [] [mgn6327_591, mgn6327_592, mgn6327_588, mgn6327_583, mgn6327_585, mgn6327_589, mgn6327_570, mgn6327_564, mgn6327_574, mgn6327_580, mgn6327_567, mgn6327_548, mgn6327_554, mgn6327_551, mgn6327_557, mgn6327_541, mgn6327_531, mgn6327_534, mgn6327_544, mgn6327_537, mgn6327_523, mgn6327_526, mgn6327_519, mgn6327_317] 2000 true mgn6327_23.1 mgn6327_23.2 = true := by decide +kernel
theorem mgk6327_24 : ai_go [mgc95] mgc6327 mgb6327 [81, 92, 93, 94] 0 [42, 46, 86] [] [mgn6327_591, mgn6327_592, mgn6327_588, mgn6327_583, mgn6327_585, mgn6327_589, mgn6327_570, mgn6327_564, mgn6327_574, mgn6327_580, mgn6327_567, mgn6327_548, mgn6327_554, mgn6327_551, mgn6327_557, mgn6327_541, mgn6327_531, mgn6327_534, mgn6327_544, mgn6327_537, mgn6327_523, mgn6327_526, mgn6327_519, mgn6327_317, mgn6327_514, mgn6327_320, mgn6327_517, mgn6327_304, mgn6327_301, mgn6327_294, mgn6327_312, mgn6327_284, mgn6327_298, mgn6327_291, mgn6327_287, mgn6327_276, mgn6327_270, mgn6327_267, mgn6327_280, mgn6327_273, mgn6327_257, mgn6327_260, mgn6327_254, mgn6327_263, mgn6327_239, mgn6327_204] 2000 true mgn6327_24.1 mgn6327_24.2 = true := by decide +kernel
theorem mgk6327_25 : ai_go [mgc104] mgc6327 mgb6327 [81, 92, 93, 94] 0 [42, 46, 86] [] [mgn6327_591, mgn6327_592, mgn6327_588, mgn6327_583, mgn6327_585, mgn6327_589, mgn6327_570, mgn6327_564, mgn6327_574, mgn6327_580, mgn6327_567, mgn6327_548, mgn6327_554, mgn6327_551, mgn6327_557, mgn6327_541, mgn6327_531, mgn6327_534, mgn6327_544, mgn6327_537, mgn6327_523, mgn6327_526, mgn6327_519, mgn6327_317, mgn6327_514, mgn6327_320, mgn6327_517, mgn6327_304, mgn6327_301, mgn6327_294, mgn6327_312, mgn6327_284, mgn6327_298, mgn6327_291, mgn6327_287, mgn6327_276, mgn6327_270] 2000 true mgn6327_25.1 mgn6327_25.2 = true := by decide +kernel
theorem mgk6327_26 : ai_go [mgc136] mgc6327 mgb6327 [81, 92, 93, 94] 0 [42, 46, 86] [] [mgn6327_591, mgn6327_592, mgn6327_588, mgn6327_583, mgn6327_585] 2000 true mgn6327_26.1 mgn6327_26.2 = true := by decide +kernel
theorem mgk6327_27 : ai_go [mgc128] mgc6327 mgb6327 [81, 92, 93, 94] 0 [42, 46, 86] [] [mgn6327_591, mgn6327_592, mgn6327_588, mgn6327_583, mgn6327_585, mgn6327_589, mgn6327_570, mgn6327_564, mgn6327_574, mgn6327_580, mgn6327_567, mgn6327_548, mgn6327_554] 2000 true mgn6327_27.1 mgn6327_27.2 = true := by decide +kernel
theorem mgk6327_28 : ai_go [mgc118] mgc6327 mgb6327 [81, 92, 93, 94] 0 [42, 46, 86] [] [mgn6327_591, mgn6327_592, mgn6327_588, mgn6327_583, mgn6327_585, mgn6327_589, mgn6327_570, mgn6327_564, mgn6327_574, mgn6327_580, mgn6327_567, mgn6327_548, mgn6327_554, mgn6327_551, mgn6327_557, mgn6327_541, mgn6327_531, mgn6327_534, mgn6327_544, mgn6327_537, mgn6327_523, mgn6327_526, mgn6327_519] 2000 true mgn6327_28.1 mgn6327_28.2 = true := by decide +kernel
theorem mgk6327_29 : ai_go [mgc105] mgc6327 mgb6327 [81, 92, 93, 94] 0 [42, 46, 86] [] [mgn6327_591, mgn6327_592, mgn6327_588, mgn6327_583, mgn6327_585, mgn6327_589, mgn6327_570, mgn6327_564, mgn6327_574, mgn6327_580, mgn6327_567, mgn6327_548, mgn6327_554, mgn6327_551, mgn6327_557, mgn6327_541, mgn6327_531, mgn6327_534, mgn6327_544, mgn6327_537, mgn6327_523, mgn6327_526, mgn6327_519, mgn6327_317, mgn6327_514, mgn6327_320, mgn6327_517, mgn6327_304, mgn6327_301, mgn6327_294, mgn6327_312, mgn6327_284, mgn6327_298, mgn6327_291, mgn6327_287, mgn6327_276] 2000 true mgn6327_29.1 mgn6327_29.2 = true := by decide +kernel
theorem mgk6327_30 : ai_go [mgc137] mgc6327 mgb6327 [81, 92, 93, 94] 0 [42, 46, 86] [] [mgn6327_591, mgn6327_592, mgn6327_588, mgn6327_583] 2000 true mgn6327_30.1 mgn6327_30.2 = true := by decide +kernel
theorem mgk6327_31 : ai_go [mgc106] mgc6327 mgb6327 [81, 92, 93, 94] 0 [42, 46, 86] [] [mgn6327_591, mgn6327_592, mgn6327_588, mgn6327_583, mgn6327_585, mgn6327_589, mgn6327_570, mgn6327_564, mgn6327_574, mgn6327_580, mgn6327_567, mgn6327_548, mgn6327_554, mgn6327_551, mgn6327_557, mgn6327_541, mgn6327_531, mgn6327_534, mgn6327_544, mgn6327_537, mgn6327_523, mgn6327_526, mgn6327_519, mgn6327_317, mgn6327_514, mgn6327_320, mgn6327_517, mgn6327_304, mgn6327_301, mgn6327_294, mgn6327_312, mgn6327_284, mgn6327_298, mgn6327_291, mgn6327_287] 2000 true mgn6327_31.1 mgn6327_31.2 = true := by decide +kernel
theorem mgk6327_32 : ai_go [mgc113] mgc6327 mgb6327 [81, 92, 93, 94] 0 [42, 46, 86] [] [mgn6327_591, mgn6327_592, mgn6327_588, mgn6327_583, mgn6327_585, mgn6327_589, mgn6327_570, mgn6327_564, mgn6327_574, mgn6327_580, mgn6327_567, mgn6327_548, mgn6327_554, mgn6327_551, mgn6327_557, mgn6327_541, mgn6327_531, mgn6327_534, mgn6327_544, mgn6327_537, mgn6327_523, mgn6327_526, mgn6327_519, mgn6327_317, mgn6327_514, mgn6327_320, mgn6327_517, mgn6327_304] 2000 true mgn6327_32.1 mgn6327_32.2 = true := by decide +kernel
theorem mgk6327_33 : ai_go [mgc84] mgc6327 mgb6327 [81, 92, 93, 94] 0 [42, 46, 86] [] [mgn6327_591, mgn6327_592, mgn6327_588, mgn6327_583, mgn6327_585, mgn6327_589, mgn6327_570, mgn6327_564, mgn6327_574, mgn6327_580, mgn6327_567, mgn6327_548, mgn6327_554, mgn6327_551, mgn6327_557, mgn6327_541, mgn6327_531, mgn6327_534, mgn6327_544, mgn6327_537, mgn6327_523, mgn6327_526, mgn6327_519, mgn6327_317, mgn6327_514, mgn6327_320, mgn6327_517, mgn6327_304, mgn6327_301, mgn6327_294, mgn6327_312, mgn6327_284, mgn6327_298, mgn6327_291, mgn6327_287, mgn6327_276, mgn6327_270, mgn6327_267, mgn6327_280, mgn6327_273, mgn6327_257, mgn6327_260, mgn6327_254, mgn6327_263, mgn6327_239, mgn6327_204, mgn6327_207, mgn6327_80, mgn6327_173, mgn6327_87, mgn6327_83, mgn6327_76, mgn6327_66, mgn6327_63, mgn6327_69, mgn6327_72, mgn6327_57] 2000 true mgn6327_33.1 mgn6327_33.2 = true := by decide +kernel
theorem mgk6327_34 : ai_go [mgc82] mgc6327 mgb6327 [81, 92, 93, 94] 0 [42, 46, 86] [] [mgn6327_591, mgn6327_592, mgn6327_588, mgn6327_583, mgn6327_585, mgn6327_589, mgn6327_570, mgn6327_564, mgn6327_574, mgn6327_580, mgn6327_567, mgn6327_548, mgn6327_554, mgn6327_551, mgn6327_557, mgn6327_541, mgn6327_531, mgn6327_534, mgn6327_544, mgn6327_537, mgn6327_523, mgn6327_526, mgn6327_519, mgn6327_317, mgn6327_514, mgn6327_320, mgn6327_517, mgn6327_304, mgn6327_301, mgn6327_294, mgn6327_312, mgn6327_284, mgn6327_298, mgn6327_291, mgn6327_287, mgn6327_276, mgn6327_270, mgn6327_267, mgn6327_280, mgn6327_273, mgn6327_257, mgn6327_260, mgn6327_254, mgn6327_263, mgn6327_239, mgn6327_204, mgn6327_207, mgn6327_80, mgn6327_173, mgn6327_87, mgn6327_83, mgn6327_76, mgn6327_66, mgn6327_63, mgn6327_69, mgn6327_72, mgn6327_57, mgn6327_55, mgn6327_53] 2000 true mgn6327_34.1 mgn6327_34.2 = true := by decide +kernel
theorem mgk6327_35 : ai_go [mgc100] mgc6327 mgb6327 [81, 92, 93, 94] 0 [42, 46, 86] [] [mgn6327_591, mgn6327_592, mgn6327_588, mgn6327_583, mgn6327_585, mgn6327_589, mgn6327_570, mgn6327_564, mgn6327_574, mgn6327_580, mgn6327_567, mgn6327_548, mgn6327_554, mgn6327_551, mgn6327_557, mgn6327_541, mgn6327_531, mgn6327_534, mgn6327_544, mgn6327_537, mgn6327_523, mgn6327_526, mgn6327_519, mgn6327_317, mgn6327_514, mgn6327_320, mgn6327_517, mgn6327_304, mgn6327_301, mgn6327_294, mgn6327_312, mgn6327_284, mgn6327_298, mgn6327_291, mgn6327_287, mgn6327_276, mgn6327_270, mgn6327_267, mgn6327_280, mgn6327_273, mgn6327_257] 2000 true mgn6327_35.1 mgn6327_35.2 = true := by decide +kernel
theorem mgk6327_36 : ai_go [mgc132] mgc6327 mgb6327 [81, 92, 93, 94] 0 [42, 46, 86] [] [mgn6327_591, mgn6327_592, mgn6327_588, mgn6327_583, mgn6327_585, mgn6327_589, mgn6327_570, mgn6327_564, mgn6327_574] 2000 true mgn6327_36.1 mgn6327_36.2 = true := by decide +kernel
theorem mgk6327_37 : ai_go [mgc121] mgc6327 mgb6327 [81, 92, 93, 94] 0 [42, 46, 86] [] [mgn6327_591, mgn6327_592, mgn6327_588, mgn6327_583, mgn6327_585, mgn6327_589, mgn6327_570, mgn6327_564, mgn6327_574, mgn6327_580, mgn6327_567, mgn6327_548, mgn6327_554, mgn6327_551, mgn6327_557, mgn6327_541, mgn6327_531, mgn6327_534, mgn6327_544, mgn6327_537] 2000 true mgn6327_37.1 mgn6327_37.2 = true := by decide +kernel
theorem mgk6327_38 : ai_go [mgc119] mgc6327 mgb6327 [81, 92, 93, 94] 0 [42, 46, 86] [] [mgn6327_591, mgn6327_592, mgn6327_588, mgn6327_583, mgn6327_585, mgn6327_589, mgn6327_570, mgn6327_564, mgn6327_574, mgn6327_580, mgn6327_567, mgn6327_548, mgn6327_554, mgn6327_551, mgn6327_557, mgn6327_541, mgn6327_531, mgn6327_534, mgn6327_544, mgn6327_537, mgn6327_523, mgn6327_526] 2000 true mgn6327_38.1 mgn6327_38.2 = true := by decide +kernel
theorem mgk6327_39 : ai_go [mgc110] mgc6327 mgb6327 [81, 92, 93, 94] 0 [42, 46, 86] [] [mgn6327_591, mgn6327_592, mgn6327_588, mgn6327_583, mgn6327_585, mgn6327_589, mgn6327_570, mgn6327_564, mgn6327_574, mgn6327_580, mgn6327_567, mgn6327_548, mgn6327_554, mgn6327_551, mgn6327_557, mgn6327_541, mgn6327_531, mgn6327_534, mgn6327_544, mgn6327_537, mgn6327_523, mgn6327_526, mgn6327_519, mgn6327_317, mgn6327_514, mgn6327_320, mgn6327_517, mgn6327_304, mgn6327_301, mgn6327_294, mgn6327_312] 2000 true mgn6327_39.1 mgn6327_39.2 = true := by decide +kernel
theorem mgk6327_40 : ai_go [mgc99] mgc6327 mgb6327 [81, 92, 93, 94] 0 [42, 46, 86] [] [mgn6327_591, mgn6327_592, mgn6327_588, mgn6327_583, mgn6327_585, mgn6327_589, mgn6327_570, mgn6327_564, mgn6327_574, mgn6327_580, mgn6327_567, mgn6327_548, mgn6327_554, mgn6327_551, mgn6327_557, mgn6327_541, mgn6327_531, mgn6327_534, mgn6327_544, mgn6327_537, mgn6327_523, mgn6327_526, mgn6327_519, mgn6327_317, mgn6327_514, mgn6327_320, mgn6327_517, mgn6327_304, mgn6327_301, mgn6327_294, mgn6327_312, mgn6327_284, mgn6327_298, mgn6327_291, mgn6327_287, mgn6327_276, mgn6327_270, mgn6327_267, mgn6327_280, mgn6327_273, mgn6327_257, mgn6327_260] 2000 true mgn6327_40.1 mgn6327_40.2 = true := by decide +kernel
theorem mgk6327_41 : ai_go [mgc139] mgc6327 mgb6327 [81, 92, 93, 94] 0 [42, 46, 86] [] [mgn6327_591, mgn6327_592] 2000 true mgn6327_41.1 mgn6327_41.2 = true := by decide +kernel
