/-! Contracts over ranges of the reference, and their checks; printed by a program of mine. -/
def mgh18557 : aw_H := [(81, mgx18554)]
def mgx18558 : aw_A := ms_o [(0, 8)] [(0, 4)] ar_t32 ar_t32 [(0, 180)] [(52, 52)] [(51, 60)] [(1, 8)] [(2, 2)]
def mgh18559 : aw_H := [(81, mgx18558)]
def mgx18560 : aw_A := ms_o [(0, 8)] [(0, 4)] ar_t32 ar_t32 [(0, 180)] [(53, 53)] [(51, 60)] [(1, 8)] [(2, 2)]
def mgh18561 : aw_H := [(81, mgx18560)]
def mgx18562 : aw_A := ms_o [(0, 8)] [(0, 4)] ar_t32 ar_t32 [(0, 180)] [(54, 54)] [(51, 60)] [(1, 8)] [(2, 2)]
def mgh18563 : aw_H := [(81, mgx18562)]
def mgx18564 : aw_A := ms_o [(0, 8)] [(0, 4)] ar_t32 ar_t32 [(0, 180)] [(55, 55)] [(51, 60)] [(1, 8)] [(2, 2)]
def mgh18565 : aw_H := [(81, mgx18564)]
def mgx18566 : aw_A := ms_o [(0, 8)] [(0, 4)] ar_t32 ar_t32 [(0, 180)] [(56, 56)] [(51, 60)] [(1, 8)] [(2, 2)]
def mgh18567 : aw_H := [(81, mgx18566)]
def mgx18568 : aw_A := ms_o [(0, 8)] [(0, 4)] ar_t32 ar_t32 [(0, 180)] [(57, 57)] [(51, 60)] [(1, 8)] [(2, 2)]
def mgh18569 : aw_H := [(81, mgx18568)]
def mgx18570 : aw_A := ms_o [(0, 8)] [(0, 4)] ar_t32 ar_t32 [(0, 180)] [(58, 58)] [(51, 60)] [(1, 8)] [(2, 2)]
def mgh18571 : aw_H := [(81, mgx18570)]
def mgx18572 : aw_A := ms_o [(0, 8)] [(0, 4)] ar_t32 ar_t32 [(0, 180)] [(59, 59)] [(51, 60)] [(1, 8)] [(2, 2)]
def mgh18573 : aw_H := [(81, mgx18572)]
def mgx18574 : aw_A := ms_o [(0, 8)] [(0, 4)] ar_t32 ar_t32 [(0, 180)] [(60, 60)] [(51, 60)] [(1, 8)] [(2, 2)]
def mgh18575 : aw_H := [(81, mgx18574)]
/-- MiceRegistersModel.skip -/
def mgh18576 : aw_H := [(81, mgx18554), (90, .inr (.inl (0, 240, [], [])))]
def mgc1152 : ak_C := (122, [.inl 81], mgh18576, [81], [([], none, mgh18557), ([], none, mgh18559), ([], none, mgh18561), ([], none, mgh18563), ([], none, mgh18565), ([], none, mgh18567), ([], none, mgh18569), ([], none, mgh18571), ([], none, mgh18573), ([], none, mgh18575)])
/-- MiceRegistersModel.readsLine -/
def mgx18577 : aw_A := ms_o [(0, 8)] [(0, 4)] ar_t32 ar_t32 [(0, 180)] [(48, 48)] [(49, 60)] [(1, 8)] [(2, 2)]
def mgh18578 : aw_H := [(81, mgx18577)]
def mgc1153 : ak_C := (124, [.inl 81], mgh18578, [], [([], some (.inr (false, [(0, 0)])), [])])
theorem mgk1153 : ai_chk [] mgc1153 (fun pc => sm_ch sm_t124 pc, sm_Kn 3 3 none, fun x => sm_lk sm_ca3 x, some .boolean) [] 3 0 [] [] 2000 [] = true := by decide +kernel
/-- MiceRegistersModel.figure -/
def mgc1154 : ak_C := (125, [.inl 81, .inr (false, [(0, 0)]), .inr (false, [(0, 7)])], mgh18290, [81], [([], some (.inr (false, [(-9, -9)])), mgh18267), ([], some (.inr (false, [(0, 7)])), mgh18417)])
/-- MiceRegistersModel.figure -/
def mgc1155 : ak_C := (125, [.inl 81, .inr (false, [(1, 1)]), .inr (false, [(9, 9)])], mgh18438, [81], [([], some (.inr (false, [(-9, -9)])), mgh18417), ([], some (.inr (false, [(1, 9)])), mgh18557)])
def mgh18579 : aw_H := [(81, mgx18577), (94, mgx5820)]
def mgx18580 : aw_A := ms_o [(0, 8)] [(0, 4)] ar_t32 ar_t32 [(0, 180)] [(51, 51)] [(51, 60)] [(1, 8)] [(3, 3)]
def mgh18581 : aw_H := [(81, mgx18580), (94, mgx6868)]
/-- MiceRegistersModel.readsMouse -/
def mgh18582 : aw_H := [(81, mgx18577), (90, .inr (.inl (0, 240, [], []))), (94, mgx5820)]
def mgc1156 : ak_C := (127, [.inl 81], mgh18582, [81, 94], [([], some (.inr (false, [(0, 0)])), mgh18579), ([], some (.inr (false, [(1, 1)])), mgh18581), ([], some (.inr (false, [(0, 0)])), mgh18415), ([], some (.inr (false, [(0, 0)])), mgh18265)])
theorem mgk1156 : ai_chk [mgc31, mgc148, mgc1154, mgc1155] mgc1156 (fun pc => sm_ch sm_t127 pc, sm_Kn 3 5 none, fun x => sm_lk sm_ca3 x, some .boolean) [81, 94] 5 0 [] [] 2000 [] = true := by decide +kernel
def mgh18583 : aw_H := [(81, mgx18580)]
def mgx18584 : aw_A := ms_o [(0, 8)] [(0, 4)] ar_t32 ar_t32 [(0, 180)] [(52, 52)] [(51, 60)] [(1, 8)] [(3, 3)]
def mgh18585 : aw_H := [(81, mgx18584)]
def mgx18586 : aw_A := ms_o [(0, 8)] [(0, 4)] ar_t32 ar_t32 [(0, 180)] [(53, 53)] [(51, 60)] [(1, 8)] [(3, 3)]
def mgh18587 : aw_H := [(81, mgx18586)]
def mgx18588 : aw_A := ms_o [(0, 8)] [(0, 4)] ar_t32 ar_t32 [(0, 180)] [(54, 54)] [(51, 60)] [(1, 8)] [(3, 3)]
def mgh18589 : aw_H := [(81, mgx18588)]
def mgx18590 : aw_A := ms_o [(0, 8)] [(0, 4)] ar_t32 ar_t32 [(0, 180)] [(55, 55)] [(51, 60)] [(1, 8)] [(3, 3)]
def mgh18591 : aw_H := [(81, mgx18590)]
def mgx18592 : aw_A := ms_o [(0, 8)] [(0, 4)] ar_t32 ar_t32 [(0, 180)] [(56, 56)] [(51, 60)] [(1, 8)] [(3, 3)]
def mgh18593 : aw_H := [(81, mgx18592)]
def mgx18594 : aw_A := ms_o [(0, 8)] [(0, 4)] ar_t32 ar_t32 [(0, 180)] [(57, 57)] [(51, 60)] [(1, 8)] [(3, 3)]
def mgh18595 : aw_H := [(81, mgx18594)]
def mgx18596 : aw_A := ms_o [(0, 8)] [(0, 4)] ar_t32 ar_t32 [(0, 180)] [(58, 58)] [(51, 60)] [(1, 8)] [(3, 3)]
def mgh18597 : aw_H := [(81, mgx18596)]
def mgx18598 : aw_A := ms_o [(0, 8)] [(0, 4)] ar_t32 ar_t32 [(0, 180)] [(59, 59)] [(51, 60)] [(1, 8)] [(3, 3)]
def mgh18599 : aw_H := [(81, mgx18598)]
def mgx18600 : aw_A := ms_o [(0, 8)] [(0, 4)] ar_t32 ar_t32 [(0, 180)] [(60, 60)] [(51, 60)] [(1, 8)] [(3, 3)]
def mgh18601 : aw_H := [(81, mgx18600)]
/-- MiceRegistersModel.skip -/
def mgh18602 : aw_H := [(81, mgx18580), (90, .inr (.inl (0, 240, [], [])))]
def mgc1157 : ak_C := (122, [.inl 81], mgh18602, [81], [([], none, mgh18583), ([], none, mgh18585), ([], none, mgh18587), ([], none, mgh18589), ([], none, mgh18591), ([], none, mgh18593), ([], none, mgh18595), ([], none, mgh18597), ([], none, mgh18599), ([], none, mgh18601)])
/-- MiceRegistersModel.readsLine -/
def mgx18603 : aw_A := ms_o [(0, 8)] [(0, 4)] ar_t32 ar_t32 [(0, 180)] [(48, 48)] [(49, 60)] [(1, 8)] [(3, 3)]
def mgh18604 : aw_H := [(81, mgx18603)]
def mgc1158 : ak_C := (124, [.inl 81], mgh18604, [], [([], some (.inr (false, [(0, 0)])), [])])
theorem mgk1158 : ai_chk [] mgc1158 (fun pc => sm_ch sm_t124 pc, sm_Kn 3 3 none, fun x => sm_lk sm_ca3 x, some .boolean) [] 3 0 [] [] 2000 [] = true := by decide +kernel
/-- MiceRegistersModel.figure -/
def mgc1159 : ak_C := (125, [.inl 81, .inr (false, [(0, 0)]), .inr (false, [(0, 7)])], mgh18320, [81], [([], some (.inr (false, [(-9, -9)])), mgh18297), ([], some (.inr (false, [(0, 7)])), mgh18445)])
/-- MiceRegistersModel.figure -/
def mgc1160 : ak_C := (125, [.inl 81, .inr (false, [(1, 1)]), .inr (false, [(9, 9)])], mgh18466, [81], [([], some (.inr (false, [(-9, -9)])), mgh18445), ([], some (.inr (false, [(1, 9)])), mgh18583)])
def mgh18605 : aw_H := [(81, mgx18603), (94, mgx6868)]
def mgx18606 : aw_A := ms_o [(0, 8)] [(0, 4)] ar_t32 ar_t32 [(0, 180)] [(51, 51)] [(51, 60)] [(1, 8)] [(4, 4)]
def mgh18607 : aw_H := [(81, mgx18606), (94, mgx8150)]
/-- MiceRegistersModel.readsMouse -/
def mgh18608 : aw_H := [(81, mgx18603), (90, .inr (.inl (0, 240, [], []))), (94, mgx6868)]
def mgc1161 : ak_C := (127, [.inl 81], mgh18608, [81, 94], [([], some (.inr (false, [(0, 0)])), mgh18605), ([], some (.inr (false, [(1, 1)])), mgh18607), ([], some (.inr (false, [(0, 0)])), mgh18443), ([], some (.inr (false, [(0, 0)])), mgh18295)])
theorem mgk1161 : ai_chk [mgc31, mgc148, mgc1159, mgc1160] mgc1161 (fun pc => sm_ch sm_t127 pc, sm_Kn 3 5 none, fun x => sm_lk sm_ca3 x, some .boolean) [81, 94] 5 0 [] [] 2000 [] = true := by decide +kernel
def mgh18609 : aw_H := [(81, mgx18606)]
def mgx18610 : aw_A := ms_o [(0, 8)] [(0, 4)] ar_t32 ar_t32 [(0, 180)] [(52, 52)] [(51, 60)] [(1, 8)] [(4, 4)]
def mgh18611 : aw_H := [(81, mgx18610)]
def mgx18612 : aw_A := ms_o [(0, 8)] [(0, 4)] ar_t32 ar_t32 [(0, 180)] [(53, 53)] [(51, 60)] [(1, 8)] [(4, 4)]
def mgh18613 : aw_H := [(81, mgx18612)]
def mgx18614 : aw_A := ms_o [(0, 8)] [(0, 4)] ar_t32 ar_t32 [(0, 180)] [(54, 54)] [(51, 60)] [(1, 8)] [(4, 4)]
def mgh18615 : aw_H := [(81, mgx18614)]
def mgx18616 : aw_A := ms_o [(0, 8)] [(0, 4)] ar_t32 ar_t32 [(0, 180)] [(55, 55)] [(51, 60)] [(1, 8)] [(4, 4)]
def mgh18617 : aw_H := [(81, mgx18616)]
def mgx18618 : aw_A := ms_o [(0, 8)] [(0, 4)] ar_t32 ar_t32 [(0, 180)] [(56, 56)] [(51, 60)] [(1, 8)] [(4, 4)]
def mgh18619 : aw_H := [(81, mgx18618)]
def mgx18620 : aw_A := ms_o [(0, 8)] [(0, 4)] ar_t32 ar_t32 [(0, 180)] [(57, 57)] [(51, 60)] [(1, 8)] [(4, 4)]
def mgh18621 : aw_H := [(81, mgx18620)]
def mgx18622 : aw_A := ms_o [(0, 8)] [(0, 4)] ar_t32 ar_t32 [(0, 180)] [(58, 58)] [(51, 60)] [(1, 8)] [(4, 4)]
def mgh18623 : aw_H := [(81, mgx18622)]
def mgx18624 : aw_A := ms_o [(0, 8)] [(0, 4)] ar_t32 ar_t32 [(0, 180)] [(59, 59)] [(51, 60)] [(1, 8)] [(4, 4)]
def mgh18625 : aw_H := [(81, mgx18624)]
def mgx18626 : aw_A := ms_o [(0, 8)] [(0, 4)] ar_t32 ar_t32 [(0, 180)] [(60, 60)] [(51, 60)] [(1, 8)] [(4, 4)]
def mgh18627 : aw_H := [(81, mgx18626)]
/-- MiceRegistersModel.skip -/
def mgh18628 : aw_H := [(81, mgx18606), (90, .inr (.inl (0, 240, [], [])))]
def mgc1162 : ak_C := (122, [.inl 81], mgh18628, [81], [([], none, mgh18609), ([], none, mgh18611), ([], none, mgh18613), ([], none, mgh18615), ([], none, mgh18617), ([], none, mgh18619), ([], none, mgh18621), ([], none, mgh18623), ([], none, mgh18625), ([], none, mgh18627)])
/-- MiceRegistersModel.readsLine -/
def mgx18629 : aw_A := ms_o [(0, 8)] [(0, 4)] ar_t32 ar_t32 [(0, 180)] [(48, 48)] [(49, 60)] [(1, 8)] [(4, 4)]
def mgh18630 : aw_H := [(81, mgx18629)]
def mgc1163 : ak_C := (124, [.inl 81], mgh18630, [], [([], some (.inr (false, [(0, 0)])), [])])
theorem mgk1163 : ai_chk [] mgc1163 (fun pc => sm_ch sm_t124 pc, sm_Kn 3 3 none, fun x => sm_lk sm_ca3 x, some .boolean) [] 3 0 [] [] 2000 [] = true := by decide +kernel
/-- MiceRegistersModel.readsMouse -/
def mgh18631 : aw_H := [(81, mgx18629), (90, .inr (.inl (0, 240, [], [])))]
def mgc1164 : ak_C := (127, [.inl 81], mgh18631, [], [([], some (.inr (false, [(0, 0)])), [])])
theorem mgk1164 : ai_chk [mgc31, mgc148] mgc1164 (fun pc => sm_ch sm_t127 pc, sm_Kn 3 5 none, fun x => sm_lk sm_ca3 x, some .boolean) [] 5 0 [] [] 2000 [] = true := by decide +kernel
def mgx18632 : aw_A := ms_o [(0, 8)] [(0, 4)] ar_t32 ar_t32 [(0, 180)] [(53, 53)] [(53, 60)] [(0, 7)] [(0, 0)]
def mgh18633 : aw_H := [(81, mgx18632)]
/-- MiceRegistersModel.figure -/
def mgh18634 : aw_H := [(81, mgx18498), (90, .inr (.inl (0, 240, [], [])))]
def mgc1165 : ak_C := (125, [.inl 81, .inr (false, [(0, 0)]), .inr (false, [(9, 9)])], mgh18634, [81], [([], some (.inr (false, [(-9, -9)])), mgh18499), ([], some (.inr (false, [(0, 9)])), mgh18633)])
/-- MiceRegistersModel.twoFigures -/
def mgc1166 : ak_C := (126, [.inl 81, .inr (false, [(1, 1)]), .inr (false, [(40, 40)])], mgh18500, [81], [([], some (.inr (false, [(-9, -9)])), mgh18355), ([], some (.inr (false, [(0, 99)])), mgh18633), ([], some (.inr (false, [(-9, -9)])), mgh18499)])
theorem mgk1166 : ai_chk [mgc1140, mgc1165, mgc144] mgc1166 (fun pc => sm_ch sm_t126 pc, sm_Kn 3 6 none, fun x => sm_lk sm_ca3 x, some .int) [81] 6 0 [] [] 2000 [] = true := by decide +kernel
def mgh18635 : aw_H := [(81, mgx18498), (92, .inr (.inl (0, 8, [], []))), (93, .inr (.inl (0, 8, [], [])))]
def mgx18636 : aw_A := ms_o [(0, 8)] [(0, 4)] ar_t32 ar_t32 [(0, 180)] [(53, 53)] [(53, 60)] [(1, 8)] [(0, 0)]
def mgh18637 : aw_H := [(81, mgx18636), (92, .inr (.inl (0, 8, [], []))), (93, .inr (.inl (0, 8, [], [])))]
def mgx18638 : aw_A := ms_o [(0, 8)] [(0, 4)] ar_t32 ar_t32 [(0, 180)] [(49, 49)] [(50, 60)] [(8, 8)] [(0, 0)]
def mgh18639 : aw_H := [(81, mgx18638), (92, .inr (.inl (0, 8, [], []))), (93, .inr (.inl (0, 8, [], [])))]
/-- MiceRegistersModel.readsLine -/
def mgx18640 : aw_A := ms_o [(0, 8)] [(0, 4)] ar_t32 ar_t32 [(0, 180)] [(49, 49)] [(50, 60)] [(0, 8)] [(0, 0)]
def mgh18641 : aw_H := [(81, mgx18640), (90, .inr (.inl (0, 240, [], []))), (92, .inr (.inl (0, 8, [], []))), (93, .inr (.inl (0, 8, [], [])))]
def mgc1167 : ak_C := (124, [.inl 81], mgh18641, [81, 92, 93], [([], some (.inr (false, [(0, 0)])), mgh18635), ([], some (.inr (false, [(1, 1)])), mgh18637), ([], some (.inr (false, [(0, 0)])), mgh18501), ([], some (.inr (false, [(0, 0)])), mgh18357), ([], some (.inr (false, [(0, 0)])), mgh18639)])
theorem mgk1167 : ai_chk [mgc1115, mgc1166] mgc1167 (fun pc => sm_ch sm_t124 pc, sm_Kn 3 3 none, fun x => sm_lk sm_ca3 x, some .boolean) [81, 92, 93] 3 0 [] [] 2000 [] = true := by decide +kernel
def mgh18642 : aw_H := [(81, mgx18636)]
def mgx18643 : aw_A := ms_o [(0, 8)] [(0, 4)] ar_t32 ar_t32 [(0, 180)] [(54, 54)] [(53, 60)] [(1, 8)] [(0, 0)]
def mgh18644 : aw_H := [(81, mgx18643)]
def mgx18645 : aw_A := ms_o [(0, 8)] [(0, 4)] ar_t32 ar_t32 [(0, 180)] [(55, 55)] [(53, 60)] [(1, 8)] [(0, 0)]
def mgh18646 : aw_H := [(81, mgx18645)]
def mgx18647 : aw_A := ms_o [(0, 8)] [(0, 4)] ar_t32 ar_t32 [(0, 180)] [(56, 56)] [(53, 60)] [(1, 8)] [(0, 0)]
def mgh18648 : aw_H := [(81, mgx18647)]
def mgx18649 : aw_A := ms_o [(0, 8)] [(0, 4)] ar_t32 ar_t32 [(0, 180)] [(57, 57)] [(53, 60)] [(1, 8)] [(0, 0)]
def mgh18650 : aw_H := [(81, mgx18649)]
def mgx18651 : aw_A := ms_o [(0, 8)] [(0, 4)] ar_t32 ar_t32 [(0, 180)] [(58, 58)] [(53, 60)] [(1, 8)] [(0, 0)]
def mgh18652 : aw_H := [(81, mgx18651)]
def mgx18653 : aw_A := ms_o [(0, 8)] [(0, 4)] ar_t32 ar_t32 [(0, 180)] [(59, 59)] [(53, 60)] [(1, 8)] [(0, 0)]
def mgh18654 : aw_H := [(81, mgx18653)]
def mgx18655 : aw_A := ms_o [(0, 8)] [(0, 4)] ar_t32 ar_t32 [(0, 180)] [(60, 60)] [(53, 60)] [(1, 8)] [(0, 0)]
def mgh18656 : aw_H := [(81, mgx18655)]
/-- MiceRegistersModel.skip -/
def mgh18657 : aw_H := [(81, mgx18636), (90, .inr (.inl (0, 240, [], [])))]
def mgc1168 : ak_C := (122, [.inl 81], mgh18657, [81], [([], none, mgh18642), ([], none, mgh18644), ([], none, mgh18646), ([], none, mgh18648), ([], none, mgh18650), ([], none, mgh18652), ([], none, mgh18654), ([], none, mgh18656)])
/-- MiceRegistersModel.figure -/
def mgc1169 : ak_C := (125, [.inl 81, .inr (false, [(0, 0)]), .inr (false, [(0, 7)])], mgh18231, [81], [([], some (.inr (false, [(-9, -9)])), mgh18210), ([], some (.inr (false, [(0, 7)])), mgh18364)])
/-- MiceRegistersModel.figure -/
def mgc1170 : ak_C := (125, [.inl 81, .inr (false, [(1, 1)]), .inr (false, [(9, 9)])], mgh18383, [81], [([], some (.inr (false, [(-9, -9)])), mgh18364), ([], some (.inr (false, [(1, 9)])), mgh18508)])
def mgh18658 : aw_H := [(81, mgx18640), (94, mgx5049)]
def mgx18659 : aw_A := ms_o [(0, 8)] [(0, 4)] ar_t32 ar_t32 [(0, 180)] [(52, 52)] [(52, 60)] [(1, 8)] [(1, 1)]
def mgh18660 : aw_H := [(81, mgx18659), (94, mgx5052)]
def mgh18661 : aw_H := [(81, mgx18358), (94, mgx5049)]
/-- MiceRegistersModel.readsMouse -/
def mgh18662 : aw_H := [(81, mgx18640), (90, .inr (.inl (0, 240, [], []))), (94, mgx5049)]
def mgc1171 : ak_C := (127, [.inl 81], mgh18662, [81, 94], [([], some (.inr (false, [(0, 0)])), mgh18658), ([], some (.inr (false, [(1, 1)])), mgh18660), ([], some (.inr (false, [(0, 0)])), mgh18661), ([], some (.inr (false, [(0, 0)])), mgh18529)])
theorem mgk1171 : ai_chk [mgc30, mgc148, mgc1169, mgc1170] mgc1171 (fun pc => sm_ch sm_t127 pc, sm_Kn 3 5 none, fun x => sm_lk sm_ca3 x, some .boolean) [81, 94] 5 0 [] [] 2000 [] = true := by decide +kernel
def mgh18663 : aw_H := [(81, mgx18659)]
def mgx18664 : aw_A := ms_o [(0, 8)] [(0, 4)] ar_t32 ar_t32 [(0, 180)] [(53, 53)] [(52, 60)] [(1, 8)] [(1, 1)]
def mgh18665 : aw_H := [(81, mgx18664)]
def mgx18666 : aw_A := ms_o [(0, 8)] [(0, 4)] ar_t32 ar_t32 [(0, 180)] [(54, 54)] [(52, 60)] [(1, 8)] [(1, 1)]
def mgh18667 : aw_H := [(81, mgx18666)]
def mgx18668 : aw_A := ms_o [(0, 8)] [(0, 4)] ar_t32 ar_t32 [(0, 180)] [(55, 55)] [(52, 60)] [(1, 8)] [(1, 1)]
def mgh18669 : aw_H := [(81, mgx18668)]
def mgx18670 : aw_A := ms_o [(0, 8)] [(0, 4)] ar_t32 ar_t32 [(0, 180)] [(56, 56)] [(52, 60)] [(1, 8)] [(1, 1)]
def mgh18671 : aw_H := [(81, mgx18670)]
def mgx18672 : aw_A := ms_o [(0, 8)] [(0, 4)] ar_t32 ar_t32 [(0, 180)] [(57, 57)] [(52, 60)] [(1, 8)] [(1, 1)]
def mgh18673 : aw_H := [(81, mgx18672)]
def mgx18674 : aw_A := ms_o [(0, 8)] [(0, 4)] ar_t32 ar_t32 [(0, 180)] [(58, 58)] [(52, 60)] [(1, 8)] [(1, 1)]
def mgh18675 : aw_H := [(81, mgx18674)]
def mgx18676 : aw_A := ms_o [(0, 8)] [(0, 4)] ar_t32 ar_t32 [(0, 180)] [(59, 59)] [(52, 60)] [(1, 8)] [(1, 1)]
def mgh18677 : aw_H := [(81, mgx18676)]
def mgx18678 : aw_A := ms_o [(0, 8)] [(0, 4)] ar_t32 ar_t32 [(0, 180)] [(60, 60)] [(52, 60)] [(1, 8)] [(1, 1)]
def mgh18679 : aw_H := [(81, mgx18678)]
/-- MiceRegistersModel.skip -/
def mgh18680 : aw_H := [(81, mgx18659), (90, .inr (.inl (0, 240, [], [])))]
def mgc1172 : ak_C := (122, [.inl 81], mgh18680, [81], [([], none, mgh18663), ([], none, mgh18665), ([], none, mgh18667), ([], none, mgh18669), ([], none, mgh18671), ([], none, mgh18673), ([], none, mgh18675), ([], none, mgh18677), ([], none, mgh18679)])
/-- MiceRegistersModel.readsLine -/
def mgx18681 : aw_A := ms_o [(0, 8)] [(0, 4)] ar_t32 ar_t32 [(0, 180)] [(49, 49)] [(50, 60)] [(1, 8)] [(1, 1)]
def mgh18682 : aw_H := [(81, mgx18681)]
def mgc1173 : ak_C := (124, [.inl 81], mgh18682, [], [([], some (.inr (false, [(0, 0)])), [])])
theorem mgk1173 : ai_chk [] mgc1173 (fun pc => sm_ch sm_t124 pc, sm_Kn 3 3 none, fun x => sm_lk sm_ca3 x, some .boolean) [] 3 0 [] [] 2000 [] = true := by decide +kernel
/-- MiceRegistersModel.figure -/
def mgc1174 : ak_C := (125, [.inl 81, .inr (false, [(0, 0)]), .inr (false, [(0, 7)])], mgh18410, [81], [([], some (.inr (false, [(-9, -9)])), mgh18389), ([], some (.inr (false, [(0, 7)])), mgh18531)])
/-- MiceRegistersModel.figure -/
def mgc1175 : ak_C := (125, [.inl 81, .inr (false, [(1, 1)]), .inr (false, [(9, 9)])], mgh18550, [81], [([], some (.inr (false, [(-9, -9)])), mgh18531), ([], some (.inr (false, [(1, 9)])), mgh18663)])
def mgh18683 : aw_H := [(81, mgx18681), (94, mgx5052)]
def mgx18684 : aw_A := ms_o [(0, 8)] [(0, 4)] ar_t32 ar_t32 [(0, 180)] [(52, 52)] [(52, 60)] [(1, 8)] [(2, 2)]
def mgh18685 : aw_H := [(81, mgx18684), (94, mgx5820)]
/-- MiceRegistersModel.readsMouse -/
def mgh18686 : aw_H := [(81, mgx18681), (90, .inr (.inl (0, 240, [], []))), (94, mgx5052)]
def mgc1176 : ak_C := (127, [.inl 81], mgh18686, [81, 94], [([], some (.inr (false, [(0, 0)])), mgh18683), ([], some (.inr (false, [(1, 1)])), mgh18685), ([], some (.inr (false, [(0, 0)])), mgh18528), ([], some (.inr (false, [(0, 0)])), mgh18386)])
theorem mgk1176 : ai_chk [mgc30, mgc148, mgc1174, mgc1175] mgc1176 (fun pc => sm_ch sm_t127 pc, sm_Kn 3 5 none, fun x => sm_lk sm_ca3 x, some .boolean) [81, 94] 5 0 [] [] 2000 [] = true := by decide +kernel
def mgh18687 : aw_H := [(81, mgx18684)]
def mgx18688 : aw_A := ms_o [(0, 8)] [(0, 4)] ar_t32 ar_t32 [(0, 180)] [(53, 53)] [(52, 60)] [(1, 8)] [(2, 2)]
def mgh18689 : aw_H := [(81, mgx18688)]
def mgx18690 : aw_A := ms_o [(0, 8)] [(0, 4)] ar_t32 ar_t32 [(0, 180)] [(54, 54)] [(52, 60)] [(1, 8)] [(2, 2)]
def mgh18691 : aw_H := [(81, mgx18690)]
def mgx18692 : aw_A := ms_o [(0, 8)] [(0, 4)] ar_t32 ar_t32 [(0, 180)] [(55, 55)] [(52, 60)] [(1, 8)] [(2, 2)]
def mgh18693 : aw_H := [(81, mgx18692)]
def mgx18694 : aw_A := ms_o [(0, 8)] [(0, 4)] ar_t32 ar_t32 [(0, 180)] [(56, 56)] [(52, 60)] [(1, 8)] [(2, 2)]
def mgh18695 : aw_H := [(81, mgx18694)]
def mgx18696 : aw_A := ms_o [(0, 8)] [(0, 4)] ar_t32 ar_t32 [(0, 180)] [(57, 57)] [(52, 60)] [(1, 8)] [(2, 2)]
def mgh18697 : aw_H := [(81, mgx18696)]
def mgx18698 : aw_A := ms_o [(0, 8)] [(0, 4)] ar_t32 ar_t32 [(0, 180)] [(58, 58)] [(52, 60)] [(1, 8)] [(2, 2)]
def mgh18699 : aw_H := [(81, mgx18698)]
def mgx18700 : aw_A := ms_o [(0, 8)] [(0, 4)] ar_t32 ar_t32 [(0, 180)] [(59, 59)] [(52, 60)] [(1, 8)] [(2, 2)]
def mgh18701 : aw_H := [(81, mgx18700)]
def mgx18702 : aw_A := ms_o [(0, 8)] [(0, 4)] ar_t32 ar_t32 [(0, 180)] [(60, 60)] [(52, 60)] [(1, 8)] [(2, 2)]
def mgh18703 : aw_H := [(81, mgx18702)]
/-- MiceRegistersModel.skip -/
def mgh18704 : aw_H := [(81, mgx18684), (90, .inr (.inl (0, 240, [], [])))]
def mgc1177 : ak_C := (122, [.inl 81], mgh18704, [81], [([], none, mgh18687), ([], none, mgh18689), ([], none, mgh18691), ([], none, mgh18693), ([], none, mgh18695), ([], none, mgh18697), ([], none, mgh18699), ([], none, mgh18701), ([], none, mgh18703)])
/-- MiceRegistersModel.readsLine -/
def mgx18705 : aw_A := ms_o [(0, 8)] [(0, 4)] ar_t32 ar_t32 [(0, 180)] [(49, 49)] [(50, 60)] [(1, 8)] [(2, 2)]
def mgh18706 : aw_H := [(81, mgx18705)]
def mgc1178 : ak_C := (124, [.inl 81], mgh18706, [], [([], some (.inr (false, [(0, 0)])), [])])
theorem mgk1178 : ai_chk [] mgc1178 (fun pc => sm_ch sm_t124 pc, sm_Kn 3 3 none, fun x => sm_lk sm_ca3 x, some .boolean) [] 3 0 [] [] 2000 [] = true := by decide +kernel
/-- MiceRegistersModel.figure -/
def mgc1179 : ak_C := (125, [.inl 81, .inr (false, [(0, 0)]), .inr (false, [(0, 7)])], mgh18438, [81], [([], some (.inr (false, [(-9, -9)])), mgh18417), ([], some (.inr (false, [(0, 7)])), mgh18557)])
/-- MiceRegistersModel.figure -/
def mgc1180 : ak_C := (125, [.inl 81, .inr (false, [(1, 1)]), .inr (false, [(9, 9)])], mgh18576, [81], [([], some (.inr (false, [(-9, -9)])), mgh18557), ([], some (.inr (false, [(1, 9)])), mgh18687)])
def mgh18707 : aw_H := [(81, mgx18705), (94, mgx5820)]
def mgx18708 : aw_A := ms_o [(0, 8)] [(0, 4)] ar_t32 ar_t32 [(0, 180)] [(52, 52)] [(52, 60)] [(1, 8)] [(3, 3)]
def mgh18709 : aw_H := [(81, mgx18708), (94, mgx6868)]
/-- MiceRegistersModel.readsMouse -/
def mgh18710 : aw_H := [(81, mgx18705), (90, .inr (.inl (0, 240, [], []))), (94, mgx5820)]
def mgc1181 : ak_C := (127, [.inl 81], mgh18710, [81, 94], [([], some (.inr (false, [(0, 0)])), mgh18707), ([], some (.inr (false, [(1, 1)])), mgh18709), ([], some (.inr (false, [(0, 0)])), mgh18555), ([], some (.inr (false, [(0, 0)])), mgh18415)])
theorem mgk1181 : ai_chk [mgc30, mgc148, mgc1179, mgc1180] mgc1181 (fun pc => sm_ch sm_t127 pc, sm_Kn 3 5 none, fun x => sm_lk sm_ca3 x, some .boolean) [81, 94] 5 0 [] [] 2000 [] = true := by decide +kernel
def mgh18711 : aw_H := [(81, mgx18708)]
def mgx18712 : aw_A := ms_o [(0, 8)] [(0, 4)] ar_t32 ar_t32 [(0, 180)] [(53, 53)] [(52, 60)] [(1, 8)] [(3, 3)]
def mgh18713 : aw_H := [(81, mgx18712)]
def mgx18714 : aw_A := ms_o [(0, 8)] [(0, 4)] ar_t32 ar_t32 [(0, 180)] [(54, 54)] [(52, 60)] [(1, 8)] [(3, 3)]
def mgh18715 : aw_H := [(81, mgx18714)]
def mgx18716 : aw_A := ms_o [(0, 8)] [(0, 4)] ar_t32 ar_t32 [(0, 180)] [(55, 55)] [(52, 60)] [(1, 8)] [(3, 3)]
def mgh18717 : aw_H := [(81, mgx18716)]
def mgx18718 : aw_A := ms_o [(0, 8)] [(0, 4)] ar_t32 ar_t32 [(0, 180)] [(56, 56)] [(52, 60)] [(1, 8)] [(3, 3)]
def mgh18719 : aw_H := [(81, mgx18718)]
def mgx18720 : aw_A := ms_o [(0, 8)] [(0, 4)] ar_t32 ar_t32 [(0, 180)] [(57, 57)] [(52, 60)] [(1, 8)] [(3, 3)]
def mgh18721 : aw_H := [(81, mgx18720)]
def mgx18722 : aw_A := ms_o [(0, 8)] [(0, 4)] ar_t32 ar_t32 [(0, 180)] [(58, 58)] [(52, 60)] [(1, 8)] [(3, 3)]
def mgh18723 : aw_H := [(81, mgx18722)]
def mgx18724 : aw_A := ms_o [(0, 8)] [(0, 4)] ar_t32 ar_t32 [(0, 180)] [(59, 59)] [(52, 60)] [(1, 8)] [(3, 3)]
def mgh18725 : aw_H := [(81, mgx18724)]
def mgx18726 : aw_A := ms_o [(0, 8)] [(0, 4)] ar_t32 ar_t32 [(0, 180)] [(60, 60)] [(52, 60)] [(1, 8)] [(3, 3)]
def mgh18727 : aw_H := [(81, mgx18726)]
/-- MiceRegistersModel.skip -/
def mgh18728 : aw_H := [(81, mgx18708), (90, .inr (.inl (0, 240, [], [])))]
def mgc1182 : ak_C := (122, [.inl 81], mgh18728, [81], [([], none, mgh18711), ([], none, mgh18713), ([], none, mgh18715), ([], none, mgh18717), ([], none, mgh18719), ([], none, mgh18721), ([], none, mgh18723), ([], none, mgh18725), ([], none, mgh18727)])
/-- MiceRegistersModel.readsLine -/
def mgx18729 : aw_A := ms_o [(0, 8)] [(0, 4)] ar_t32 ar_t32 [(0, 180)] [(49, 49)] [(50, 60)] [(1, 8)] [(3, 3)]
def mgh18730 : aw_H := [(81, mgx18729)]
def mgc1183 : ak_C := (124, [.inl 81], mgh18730, [], [([], some (.inr (false, [(0, 0)])), [])])
theorem mgk1183 : ai_chk [] mgc1183 (fun pc => sm_ch sm_t124 pc, sm_Kn 3 3 none, fun x => sm_lk sm_ca3 x, some .boolean) [] 3 0 [] [] 2000 [] = true := by decide +kernel
/-- MiceRegistersModel.figure -/
def mgc1184 : ak_C := (125, [.inl 81, .inr (false, [(0, 0)]), .inr (false, [(0, 7)])], mgh18466, [81], [([], some (.inr (false, [(-9, -9)])), mgh18445), ([], some (.inr (false, [(0, 7)])), mgh18583)])
/-- MiceRegistersModel.figure -/
def mgc1185 : ak_C := (125, [.inl 81, .inr (false, [(1, 1)]), .inr (false, [(9, 9)])], mgh18602, [81], [([], some (.inr (false, [(-9, -9)])), mgh18583), ([], some (.inr (false, [(1, 9)])), mgh18711)])
def mgh18731 : aw_H := [(81, mgx18729), (94, mgx6868)]
def mgx18732 : aw_A := ms_o [(0, 8)] [(0, 4)] ar_t32 ar_t32 [(0, 180)] [(52, 52)] [(52, 60)] [(1, 8)] [(4, 4)]
def mgh18733 : aw_H := [(81, mgx18732), (94, mgx8150)]
/-- MiceRegistersModel.readsMouse -/
def mgh18734 : aw_H := [(81, mgx18729), (90, .inr (.inl (0, 240, [], []))), (94, mgx6868)]
def mgc1186 : ak_C := (127, [.inl 81], mgh18734, [81, 94], [([], some (.inr (false, [(0, 0)])), mgh18731), ([], some (.inr (false, [(1, 1)])), mgh18733), ([], some (.inr (false, [(0, 0)])), mgh18581), ([], some (.inr (false, [(0, 0)])), mgh18443)])
theorem mgk1186 : ai_chk [mgc30, mgc148, mgc1184, mgc1185] mgc1186 (fun pc => sm_ch sm_t127 pc, sm_Kn 3 5 none, fun x => sm_lk sm_ca3 x, some .boolean) [81, 94] 5 0 [] [] 2000 [] = true := by decide +kernel
def mgh18735 : aw_H := [(81, mgx18732)]
def mgx18736 : aw_A := ms_o [(0, 8)] [(0, 4)] ar_t32 ar_t32 [(0, 180)] [(53, 53)] [(52, 60)] [(1, 8)] [(4, 4)]
def mgh18737 : aw_H := [(81, mgx18736)]
def mgx18738 : aw_A := ms_o [(0, 8)] [(0, 4)] ar_t32 ar_t32 [(0, 180)] [(54, 54)] [(52, 60)] [(1, 8)] [(4, 4)]
def mgh18739 : aw_H := [(81, mgx18738)]
def mgx18740 : aw_A := ms_o [(0, 8)] [(0, 4)] ar_t32 ar_t32 [(0, 180)] [(55, 55)] [(52, 60)] [(1, 8)] [(4, 4)]
def mgh18741 : aw_H := [(81, mgx18740)]
def mgx18742 : aw_A := ms_o [(0, 8)] [(0, 4)] ar_t32 ar_t32 [(0, 180)] [(56, 56)] [(52, 60)] [(1, 8)] [(4, 4)]
def mgh18743 : aw_H := [(81, mgx18742)]
def mgx18744 : aw_A := ms_o [(0, 8)] [(0, 4)] ar_t32 ar_t32 [(0, 180)] [(57, 57)] [(52, 60)] [(1, 8)] [(4, 4)]
def mgh18745 : aw_H := [(81, mgx18744)]
def mgx18746 : aw_A := ms_o [(0, 8)] [(0, 4)] ar_t32 ar_t32 [(0, 180)] [(58, 58)] [(52, 60)] [(1, 8)] [(4, 4)]
def mgh18747 : aw_H := [(81, mgx18746)]
def mgx18748 : aw_A := ms_o [(0, 8)] [(0, 4)] ar_t32 ar_t32 [(0, 180)] [(59, 59)] [(52, 60)] [(1, 8)] [(4, 4)]
def mgh18749 : aw_H := [(81, mgx18748)]
def mgx18750 : aw_A := ms_o [(0, 8)] [(0, 4)] ar_t32 ar_t32 [(0, 180)] [(60, 60)] [(52, 60)] [(1, 8)] [(4, 4)]
def mgh18751 : aw_H := [(81, mgx18750)]
/-- MiceRegistersModel.skip -/
def mgh18752 : aw_H := [(81, mgx18732), (90, .inr (.inl (0, 240, [], [])))]
def mgc1187 : ak_C := (122, [.inl 81], mgh18752, [81], [([], none, mgh18735), ([], none, mgh18737), ([], none, mgh18739), ([], none, mgh18741), ([], none, mgh18743), ([], none, mgh18745), ([], none, mgh18747), ([], none, mgh18749), ([], none, mgh18751)])
/-- MiceRegistersModel.readsLine -/
def mgx18753 : aw_A := ms_o [(0, 8)] [(0, 4)] ar_t32 ar_t32 [(0, 180)] [(49, 49)] [(50, 60)] [(1, 8)] [(4, 4)]
def mgh18754 : aw_H := [(81, mgx18753)]
def mgc1188 : ak_C := (124, [.inl 81], mgh18754, [], [([], some (.inr (false, [(0, 0)])), [])])
theorem mgk1188 : ai_chk [] mgc1188 (fun pc => sm_ch sm_t124 pc, sm_Kn 3 3 none, fun x => sm_lk sm_ca3 x, some .boolean) [] 3 0 [] [] 2000 [] = true := by decide +kernel
/-- MiceRegistersModel.readsMouse -/
def mgh18755 : aw_H := [(81, mgx18753), (90, .inr (.inl (0, 240, [], [])))]
def mgc1189 : ak_C := (127, [.inl 81], mgh18755, [], [([], some (.inr (false, [(0, 0)])), [])])
theorem mgk1189 : ai_chk [mgc30, mgc148] mgc1189 (fun pc => sm_ch sm_t127 pc, sm_Kn 3 5 none, fun x => sm_lk sm_ca3 x, some .boolean) [] 5 0 [] [] 2000 [] = true := by decide +kernel
def mgx18756 : aw_A := ms_o [(0, 8)] [(0, 4)] ar_t32 ar_t32 [(0, 180)] [(54, 54)] [(54, 60)] [(0, 7)] [(0, 0)]
def mgh18757 : aw_H := [(81, mgx18756)]
/-- MiceRegistersModel.figure -/
def mgh18758 : aw_H := [(81, mgx18632), (90, .inr (.inl (0, 240, [], [])))]
def mgc1190 : ak_C := (125, [.inl 81, .inr (false, [(0, 0)]), .inr (false, [(9, 9)])], mgh18758, [81], [([], some (.inr (false, [(-9, -9)])), mgh18633), ([], some (.inr (false, [(0, 9)])), mgh18757)])
/-- MiceRegistersModel.twoFigures -/
def mgc1191 : ak_C := (126, [.inl 81, .inr (false, [(1, 1)]), .inr (false, [(40, 40)])], mgh18634, [81], [([], some (.inr (false, [(-9, -9)])), mgh18499), ([], some (.inr (false, [(0, 99)])), mgh18757), ([], some (.inr (false, [(-9, -9)])), mgh18633)])
theorem mgk1191 : ai_chk [mgc1165, mgc1190, mgc144] mgc1191 (fun pc => sm_ch sm_t126 pc, sm_Kn 3 6 none, fun x => sm_lk sm_ca3 x, some .int) [81] 6 0 [] [] 2000 [] = true := by decide +kernel
def mgh18759 : aw_H := [(81, mgx18632), (92, .inr (.inl (0, 8, [], []))), (93, .inr (.inl (0, 8, [], [])))]
def mgx18760 : aw_A := ms_o [(0, 8)] [(0, 4)] ar_t32 ar_t32 [(0, 180)] [(54, 54)] [(54, 60)] [(1, 8)] [(0, 0)]
def mgh18761 : aw_H := [(81, mgx18760), (92, .inr (.inl (0, 8, [], []))), (93, .inr (.inl (0, 8, [], [])))]
def mgx18762 : aw_A := ms_o [(0, 8)] [(0, 4)] ar_t32 ar_t32 [(0, 180)] [(50, 50)] [(51, 60)] [(8, 8)] [(0, 0)]
def mgh18763 : aw_H := [(81, mgx18762), (92, .inr (.inl (0, 8, [], []))), (93, .inr (.inl (0, 8, [], [])))]
/-- MiceRegistersModel.readsLine -/
def mgx18764 : aw_A := ms_o [(0, 8)] [(0, 4)] ar_t32 ar_t32 [(0, 180)] [(50, 50)] [(51, 60)] [(0, 8)] [(0, 0)]
def mgh18765 : aw_H := [(81, mgx18764), (90, .inr (.inl (0, 240, [], []))), (92, .inr (.inl (0, 8, [], []))), (93, .inr (.inl (0, 8, [], [])))]
def mgc1192 : ak_C := (124, [.inl 81], mgh18765, [81, 92, 93], [([], some (.inr (false, [(0, 0)])), mgh18759), ([], some (.inr (false, [(1, 1)])), mgh18761), ([], some (.inr (false, [(0, 0)])), mgh18635), ([], some (.inr (false, [(0, 0)])), mgh18501), ([], some (.inr (false, [(0, 0)])), mgh18763)])
theorem mgk1192 : ai_chk [mgc1140, mgc1191] mgc1192 (fun pc => sm_ch sm_t124 pc, sm_Kn 3 3 none, fun x => sm_lk sm_ca3 x, some .boolean) [81, 92, 93] 3 0 [] [] 2000 [] = true := by decide +kernel
def mgh18766 : aw_H := [(81, mgx18760)]
def mgx18767 : aw_A := ms_o [(0, 8)] [(0, 4)] ar_t32 ar_t32 [(0, 180)] [(55, 55)] [(54, 60)] [(1, 8)] [(0, 0)]
def mgh18768 : aw_H := [(81, mgx18767)]
def mgx18769 : aw_A := ms_o [(0, 8)] [(0, 4)] ar_t32 ar_t32 [(0, 180)] [(56, 56)] [(54, 60)] [(1, 8)] [(0, 0)]
def mgh18770 : aw_H := [(81, mgx18769)]
def mgx18771 : aw_A := ms_o [(0, 8)] [(0, 4)] ar_t32 ar_t32 [(0, 180)] [(57, 57)] [(54, 60)] [(1, 8)] [(0, 0)]
def mgh18772 : aw_H := [(81, mgx18771)]
def mgx18773 : aw_A := ms_o [(0, 8)] [(0, 4)] ar_t32 ar_t32 [(0, 180)] [(58, 58)] [(54, 60)] [(1, 8)] [(0, 0)]
def mgh18774 : aw_H := [(81, mgx18773)]
def mgx18775 : aw_A := ms_o [(0, 8)] [(0, 4)] ar_t32 ar_t32 [(0, 180)] [(59, 59)] [(54, 60)] [(1, 8)] [(0, 0)]
def mgh18776 : aw_H := [(81, mgx18775)]
def mgx18777 : aw_A := ms_o [(0, 8)] [(0, 4)] ar_t32 ar_t32 [(0, 180)] [(60, 60)] [(54, 60)] [(1, 8)] [(0, 0)]
def mgh18778 : aw_H := [(81, mgx18777)]
/-- MiceRegistersModel.skip -/
def mgh18779 : aw_H := [(81, mgx18760), (90, .inr (.inl (0, 240, [], [])))]
def mgc1193 : ak_C := (122, [.inl 81], mgh18779, [81], [([], none, mgh18766), ([], none, mgh18768), ([], none, mgh18770), ([], none, mgh18772), ([], none, mgh18774), ([], none, mgh18776), ([], none, mgh18778)])
/-- MiceRegistersModel.figure -/
def mgc1194 : ak_C := (125, [.inl 81, .inr (false, [(0, 0)]), .inr (false, [(0, 7)])], mgh18383, [81], [([], some (.inr (false, [(-9, -9)])), mgh18364), ([], some (.inr (false, [(0, 7)])), mgh18508)])
/-- MiceRegistersModel.figure -/
def mgc1195 : ak_C := (125, [.inl 81, .inr (false, [(1, 1)]), .inr (false, [(9, 9)])], mgh18525, [81], [([], some (.inr (false, [(-9, -9)])), mgh18508), ([], some (.inr (false, [(1, 9)])), mgh18642)])
def mgh18780 : aw_H := [(81, mgx18764), (94, mgx5049)]
def mgx18781 : aw_A := ms_o [(0, 8)] [(0, 4)] ar_t32 ar_t32 [(0, 180)] [(53, 53)] [(53, 60)] [(1, 8)] [(1, 1)]
def mgh18782 : aw_H := [(81, mgx18781), (94, mgx5052)]
def mgh18783 : aw_H := [(81, mgx18502), (94, mgx5049)]
/-- MiceRegistersModel.readsMouse -/
def mgh18784 : aw_H := [(81, mgx18764), (90, .inr (.inl (0, 240, [], []))), (94, mgx5049)]
def mgc1196 : ak_C := (127, [.inl 81], mgh18784, [81, 94], [([], some (.inr (false, [(0, 0)])), mgh18780), ([], some (.inr (false, [(1, 1)])), mgh18782), ([], some (.inr (false, [(0, 0)])), mgh18783), ([], some (.inr (false, [(0, 0)])), mgh18661)])
theorem mgk1196 : ai_chk [mgc29, mgc148, mgc1194, mgc1195] mgc1196 (fun pc => sm_ch sm_t127 pc, sm_Kn 3 5 none, fun x => sm_lk sm_ca3 x, some .boolean) [81, 94] 5 0 [] [] 2000 [] = true := by decide +kernel
def mgh18785 : aw_H := [(81, mgx18781)]
def mgx18786 : aw_A := ms_o [(0, 8)] [(0, 4)] ar_t32 ar_t32 [(0, 180)] [(54, 54)] [(53, 60)] [(1, 8)] [(1, 1)]
def mgh18787 : aw_H := [(81, mgx18786)]
def mgx18788 : aw_A := ms_o [(0, 8)] [(0, 4)] ar_t32 ar_t32 [(0, 180)] [(55, 55)] [(53, 60)] [(1, 8)] [(1, 1)]
def mgh18789 : aw_H := [(81, mgx18788)]
def mgx18790 : aw_A := ms_o [(0, 8)] [(0, 4)] ar_t32 ar_t32 [(0, 180)] [(56, 56)] [(53, 60)] [(1, 8)] [(1, 1)]
def mgh18791 : aw_H := [(81, mgx18790)]
def mgx18792 : aw_A := ms_o [(0, 8)] [(0, 4)] ar_t32 ar_t32 [(0, 180)] [(57, 57)] [(53, 60)] [(1, 8)] [(1, 1)]
def mgh18793 : aw_H := [(81, mgx18792)]
def mgx18794 : aw_A := ms_o [(0, 8)] [(0, 4)] ar_t32 ar_t32 [(0, 180)] [(58, 58)] [(53, 60)] [(1, 8)] [(1, 1)]
def mgh18795 : aw_H := [(81, mgx18794)]
def mgx18796 : aw_A := ms_o [(0, 8)] [(0, 4)] ar_t32 ar_t32 [(0, 180)] [(59, 59)] [(53, 60)] [(1, 8)] [(1, 1)]
def mgh18797 : aw_H := [(81, mgx18796)]
def mgx18798 : aw_A := ms_o [(0, 8)] [(0, 4)] ar_t32 ar_t32 [(0, 180)] [(60, 60)] [(53, 60)] [(1, 8)] [(1, 1)]
def mgh18799 : aw_H := [(81, mgx18798)]
/-- MiceRegistersModel.skip -/
def mgh18800 : aw_H := [(81, mgx18781), (90, .inr (.inl (0, 240, [], [])))]
def mgc1197 : ak_C := (122, [.inl 81], mgh18800, [81], [([], none, mgh18785), ([], none, mgh18787), ([], none, mgh18789), ([], none, mgh18791), ([], none, mgh18793), ([], none, mgh18795), ([], none, mgh18797), ([], none, mgh18799)])
/-- MiceRegistersModel.readsLine -/
def mgx18801 : aw_A := ms_o [(0, 8)] [(0, 4)] ar_t32 ar_t32 [(0, 180)] [(50, 50)] [(51, 60)] [(1, 8)] [(1, 1)]
def mgh18802 : aw_H := [(81, mgx18801)]
def mgc1198 : ak_C := (124, [.inl 81], mgh18802, [], [([], some (.inr (false, [(0, 0)])), [])])
theorem mgk1198 : ai_chk [] mgc1198 (fun pc => sm_ch sm_t124 pc, sm_Kn 3 3 none, fun x => sm_lk sm_ca3 x, some .boolean) [] 3 0 [] [] 2000 [] = true := by decide +kernel
/-- MiceRegistersModel.figure -/
def mgc1199 : ak_C := (125, [.inl 81, .inr (false, [(0, 0)]), .inr (false, [(0, 7)])], mgh18550, [81], [([], some (.inr (false, [(-9, -9)])), mgh18531), ([], some (.inr (false, [(0, 7)])), mgh18663)])
/-- MiceRegistersModel.figure -/
def mgc1200 : ak_C := (125, [.inl 81, .inr (false, [(1, 1)]), .inr (false, [(9, 9)])], mgh18680, [81], [([], some (.inr (false, [(-9, -9)])), mgh18663), ([], some (.inr (false, [(1, 9)])), mgh18785)])
def mgh18803 : aw_H := [(81, mgx18801), (94, mgx5052)]
def mgx18804 : aw_A := ms_o [(0, 8)] [(0, 4)] ar_t32 ar_t32 [(0, 180)] [(53, 53)] [(53, 60)] [(1, 8)] [(2, 2)]
def mgh18805 : aw_H := [(81, mgx18804), (94, mgx5820)]
/-- MiceRegistersModel.readsMouse -/
def mgh18806 : aw_H := [(81, mgx18801), (90, .inr (.inl (0, 240, [], []))), (94, mgx5052)]
def mgc1201 : ak_C := (127, [.inl 81], mgh18806, [81, 94], [([], some (.inr (false, [(0, 0)])), mgh18803), ([], some (.inr (false, [(1, 1)])), mgh18805), ([], some (.inr (false, [(0, 0)])), mgh18660), ([], some (.inr (false, [(0, 0)])), mgh18528)])
theorem mgk1201 : ai_chk [mgc29, mgc148, mgc1199, mgc1200] mgc1201 (fun pc => sm_ch sm_t127 pc, sm_Kn 3 5 none, fun x => sm_lk sm_ca3 x, some .boolean) [81, 94] 5 0 [] [] 2000 [] = true := by decide +kernel
def mgh18807 : aw_H := [(81, mgx18804)]
def mgx18808 : aw_A := ms_o [(0, 8)] [(0, 4)] ar_t32 ar_t32 [(0, 180)] [(54, 54)] [(53, 60)] [(1, 8)] [(2, 2)]
def mgh18809 : aw_H := [(81, mgx18808)]
def mgx18810 : aw_A := ms_o [(0, 8)] [(0, 4)] ar_t32 ar_t32 [(0, 180)] [(55, 55)] [(53, 60)] [(1, 8)] [(2, 2)]
def mgh18811 : aw_H := [(81, mgx18810)]
def mgx18812 : aw_A := ms_o [(0, 8)] [(0, 4)] ar_t32 ar_t32 [(0, 180)] [(56, 56)] [(53, 60)] [(1, 8)] [(2, 2)]
def mgh18813 : aw_H := [(81, mgx18812)]
def mgx18814 : aw_A := ms_o [(0, 8)] [(0, 4)] ar_t32 ar_t32 [(0, 180)] [(57, 57)] [(53, 60)] [(1, 8)] [(2, 2)]
def mgh18815 : aw_H := [(81, mgx18814)]
def mgx18816 : aw_A := ms_o [(0, 8)] [(0, 4)] ar_t32 ar_t32 [(0, 180)] [(58, 58)] [(53, 60)] [(1, 8)] [(2, 2)]
def mgh18817 : aw_H := [(81, mgx18816)]
def mgx18818 : aw_A := ms_o [(0, 8)] [(0, 4)] ar_t32 ar_t32 [(0, 180)] [(59, 59)] [(53, 60)] [(1, 8)] [(2, 2)]
def mgh18819 : aw_H := [(81, mgx18818)]
def mgx18820 : aw_A := ms_o [(0, 8)] [(0, 4)] ar_t32 ar_t32 [(0, 180)] [(60, 60)] [(53, 60)] [(1, 8)] [(2, 2)]
def mgh18821 : aw_H := [(81, mgx18820)]
/-- MiceRegistersModel.skip -/
def mgh18822 : aw_H := [(81, mgx18804), (90, .inr (.inl (0, 240, [], [])))]
def mgc1202 : ak_C := (122, [.inl 81], mgh18822, [81], [([], none, mgh18807), ([], none, mgh18809), ([], none, mgh18811), ([], none, mgh18813), ([], none, mgh18815), ([], none, mgh18817), ([], none, mgh18819), ([], none, mgh18821)])
/-- MiceRegistersModel.readsLine -/
def mgx18823 : aw_A := ms_o [(0, 8)] [(0, 4)] ar_t32 ar_t32 [(0, 180)] [(50, 50)] [(51, 60)] [(1, 8)] [(2, 2)]
def mgh18824 : aw_H := [(81, mgx18823)]
def mgc1203 : ak_C := (124, [.inl 81], mgh18824, [], [([], some (.inr (false, [(0, 0)])), [])])
theorem mgk1203 : ai_chk [] mgc1203 (fun pc => sm_ch sm_t124 pc, sm_Kn 3 3 none, fun x => sm_lk sm_ca3 x, some .boolean) [] 3 0 [] [] 2000 [] = true := by decide +kernel
/-- MiceRegistersModel.figure -/
def mgc1204 : ak_C := (125, [.inl 81, .inr (false, [(0, 0)]), .inr (false, [(0, 7)])], mgh18576, [81], [([], some (.inr (false, [(-9, -9)])), mgh18557), ([], some (.inr (false, [(0, 7)])), mgh18687)])
/-- MiceRegistersModel.figure -/
def mgc1205 : ak_C := (125, [.inl 81, .inr (false, [(1, 1)]), .inr (false, [(9, 9)])], mgh18704, [81], [([], some (.inr (false, [(-9, -9)])), mgh18687), ([], some (.inr (false, [(1, 9)])), mgh18807)])
def mgh18825 : aw_H := [(81, mgx18823), (94, mgx5820)]
def mgx18826 : aw_A := ms_o [(0, 8)] [(0, 4)] ar_t32 ar_t32 [(0, 180)] [(53, 53)] [(53, 60)] [(1, 8)] [(3, 3)]
def mgh18827 : aw_H := [(81, mgx18826), (94, mgx6868)]
/-- MiceRegistersModel.readsMouse -/
def mgh18828 : aw_H := [(81, mgx18823), (90, .inr (.inl (0, 240, [], []))), (94, mgx5820)]
def mgc1206 : ak_C := (127, [.inl 81], mgh18828, [81, 94], [([], some (.inr (false, [(0, 0)])), mgh18825), ([], some (.inr (false, [(1, 1)])), mgh18827), ([], some (.inr (false, [(0, 0)])), mgh18685), ([], some (.inr (false, [(0, 0)])), mgh18555)])
theorem mgk1206 : ai_chk [mgc29, mgc148, mgc1204, mgc1205] mgc1206 (fun pc => sm_ch sm_t127 pc, sm_Kn 3 5 none, fun x => sm_lk sm_ca3 x, some .boolean) [81, 94] 5 0 [] [] 2000 [] = true := by decide +kernel
def mgh18829 : aw_H := [(81, mgx18826)]
def mgx18830 : aw_A := ms_o [(0, 8)] [(0, 4)] ar_t32 ar_t32 [(0, 180)] [(54, 54)] [(53, 60)] [(1, 8)] [(3, 3)]
def mgh18831 : aw_H := [(81, mgx18830)]
def mgx18832 : aw_A := ms_o [(0, 8)] [(0, 4)] ar_t32 ar_t32 [(0, 180)] [(55, 55)] [(53, 60)] [(1, 8)] [(3, 3)]
def mgh18833 : aw_H := [(81, mgx18832)]
def mgx18834 : aw_A := ms_o [(0, 8)] [(0, 4)] ar_t32 ar_t32 [(0, 180)] [(56, 56)] [(53, 60)] [(1, 8)] [(3, 3)]
def mgh18835 : aw_H := [(81, mgx18834)]
def mgx18836 : aw_A := ms_o [(0, 8)] [(0, 4)] ar_t32 ar_t32 [(0, 180)] [(57, 57)] [(53, 60)] [(1, 8)] [(3, 3)]
def mgh18837 : aw_H := [(81, mgx18836)]
def mgx18838 : aw_A := ms_o [(0, 8)] [(0, 4)] ar_t32 ar_t32 [(0, 180)] [(58, 58)] [(53, 60)] [(1, 8)] [(3, 3)]
def mgh18839 : aw_H := [(81, mgx18838)]
def mgx18840 : aw_A := ms_o [(0, 8)] [(0, 4)] ar_t32 ar_t32 [(0, 180)] [(59, 59)] [(53, 60)] [(1, 8)] [(3, 3)]
def mgh18841 : aw_H := [(81, mgx18840)]
def mgx18842 : aw_A := ms_o [(0, 8)] [(0, 4)] ar_t32 ar_t32 [(0, 180)] [(60, 60)] [(53, 60)] [(1, 8)] [(3, 3)]
def mgh18843 : aw_H := [(81, mgx18842)]
/-- MiceRegistersModel.skip -/
def mgh18844 : aw_H := [(81, mgx18826), (90, .inr (.inl (0, 240, [], [])))]
def mgc1207 : ak_C := (122, [.inl 81], mgh18844, [81], [([], none, mgh18829), ([], none, mgh18831), ([], none, mgh18833), ([], none, mgh18835), ([], none, mgh18837), ([], none, mgh18839), ([], none, mgh18841), ([], none, mgh18843)])
/-- MiceRegistersModel.readsLine -/
def mgx18845 : aw_A := ms_o [(0, 8)] [(0, 4)] ar_t32 ar_t32 [(0, 180)] [(50, 50)] [(51, 60)] [(1, 8)] [(3, 3)]
def mgh18846 : aw_H := [(81, mgx18845)]
def mgc1208 : ak_C := (124, [.inl 81], mgh18846, [], [([], some (.inr (false, [(0, 0)])), [])])
theorem mgk1208 : ai_chk [] mgc1208 (fun pc => sm_ch sm_t124 pc, sm_Kn 3 3 none, fun x => sm_lk sm_ca3 x, some .boolean) [] 3 0 [] [] 2000 [] = true := by decide +kernel
/-- MiceRegistersModel.figure -/
def mgc1209 : ak_C := (125, [.inl 81, .inr (false, [(0, 0)]), .inr (false, [(0, 7)])], mgh18602, [81], [([], some (.inr (false, [(-9, -9)])), mgh18583), ([], some (.inr (false, [(0, 7)])), mgh18711)])
/-- MiceRegistersModel.figure -/
def mgc1210 : ak_C := (125, [.inl 81, .inr (false, [(1, 1)]), .inr (false, [(9, 9)])], mgh18728, [81], [([], some (.inr (false, [(-9, -9)])), mgh18711), ([], some (.inr (false, [(1, 9)])), mgh18829)])
def mgh18847 : aw_H := [(81, mgx18845), (94, mgx6868)]
def mgx18848 : aw_A := ms_o [(0, 8)] [(0, 4)] ar_t32 ar_t32 [(0, 180)] [(53, 53)] [(53, 60)] [(1, 8)] [(4, 4)]
def mgh18849 : aw_H := [(81, mgx18848), (94, mgx8150)]
/-- MiceRegistersModel.readsMouse -/
def mgh18850 : aw_H := [(81, mgx18845), (90, .inr (.inl (0, 240, [], []))), (94, mgx6868)]
def mgc1211 : ak_C := (127, [.inl 81], mgh18850, [81, 94], [([], some (.inr (false, [(0, 0)])), mgh18847), ([], some (.inr (false, [(1, 1)])), mgh18849), ([], some (.inr (false, [(0, 0)])), mgh18709), ([], some (.inr (false, [(0, 0)])), mgh18581)])
theorem mgk1211 : ai_chk [mgc29, mgc148, mgc1209, mgc1210] mgc1211 (fun pc => sm_ch sm_t127 pc, sm_Kn 3 5 none, fun x => sm_lk sm_ca3 x, some .boolean) [81, 94] 5 0 [] [] 2000 [] = true := by decide +kernel
def mgh18851 : aw_H := [(81, mgx18848)]
def mgx18852 : aw_A := ms_o [(0, 8)] [(0, 4)] ar_t32 ar_t32 [(0, 180)] [(54, 54)] [(53, 60)] [(1, 8)] [(4, 4)]
def mgh18853 : aw_H := [(81, mgx18852)]
def mgx18854 : aw_A := ms_o [(0, 8)] [(0, 4)] ar_t32 ar_t32 [(0, 180)] [(55, 55)] [(53, 60)] [(1, 8)] [(4, 4)]
def mgh18855 : aw_H := [(81, mgx18854)]
def mgx18856 : aw_A := ms_o [(0, 8)] [(0, 4)] ar_t32 ar_t32 [(0, 180)] [(56, 56)] [(53, 60)] [(1, 8)] [(4, 4)]
def mgh18857 : aw_H := [(81, mgx18856)]
def mgx18858 : aw_A := ms_o [(0, 8)] [(0, 4)] ar_t32 ar_t32 [(0, 180)] [(57, 57)] [(53, 60)] [(1, 8)] [(4, 4)]
def mgh18859 : aw_H := [(81, mgx18858)]
def mgx18860 : aw_A := ms_o [(0, 8)] [(0, 4)] ar_t32 ar_t32 [(0, 180)] [(58, 58)] [(53, 60)] [(1, 8)] [(4, 4)]
def mgh18861 : aw_H := [(81, mgx18860)]
def mgx18862 : aw_A := ms_o [(0, 8)] [(0, 4)] ar_t32 ar_t32 [(0, 180)] [(59, 59)] [(53, 60)] [(1, 8)] [(4, 4)]
def mgh18863 : aw_H := [(81, mgx18862)]
def mgx18864 : aw_A := ms_o [(0, 8)] [(0, 4)] ar_t32 ar_t32 [(0, 180)] [(60, 60)] [(53, 60)] [(1, 8)] [(4, 4)]
def mgh18865 : aw_H := [(81, mgx18864)]
/-- MiceRegistersModel.skip -/
def mgh18866 : aw_H := [(81, mgx18848), (90, .inr (.inl (0, 240, [], [])))]
def mgc1212 : ak_C := (122, [.inl 81], mgh18866, [81], [([], none, mgh18851), ([], none, mgh18853), ([], none, mgh18855), ([], none, mgh18857), ([], none, mgh18859), ([], none, mgh18861), ([], none, mgh18863), ([], none, mgh18865)])
/-- MiceRegistersModel.readsLine -/
def mgx18867 : aw_A := ms_o [(0, 8)] [(0, 4)] ar_t32 ar_t32 [(0, 180)] [(50, 50)] [(51, 60)] [(1, 8)] [(4, 4)]
def mgh18868 : aw_H := [(81, mgx18867)]
def mgc1213 : ak_C := (124, [.inl 81], mgh18868, [], [([], some (.inr (false, [(0, 0)])), [])])
theorem mgk1213 : ai_chk [] mgc1213 (fun pc => sm_ch sm_t124 pc, sm_Kn 3 3 none, fun x => sm_lk sm_ca3 x, some .boolean) [] 3 0 [] [] 2000 [] = true := by decide +kernel
/-- MiceRegistersModel.readsMouse -/
def mgh18869 : aw_H := [(81, mgx18867), (90, .inr (.inl (0, 240, [], [])))]
def mgc1214 : ak_C := (127, [.inl 81], mgh18869, [], [([], some (.inr (false, [(0, 0)])), [])])
theorem mgk1214 : ai_chk [mgc29, mgc148] mgc1214 (fun pc => sm_ch sm_t127 pc, sm_Kn 3 5 none, fun x => sm_lk sm_ca3 x, some .boolean) [] 5 0 [] [] 2000 [] = true := by decide +kernel
def mgx18870 : aw_A := ms_o [(0, 8)] [(0, 4)] ar_t32 ar_t32 [(0, 180)] [(55, 55)] [(55, 60)] [(0, 7)] [(0, 0)]
def mgh18871 : aw_H := [(81, mgx18870)]
/-- MiceRegistersModel.figure -/
def mgh18872 : aw_H := [(81, mgx18756), (90, .inr (.inl (0, 240, [], [])))]
def mgc1215 : ak_C := (125, [.inl 81, .inr (false, [(0, 0)]), .inr (false, [(9, 9)])], mgh18872, [81], [([], some (.inr (false, [(-9, -9)])), mgh18757), ([], some (.inr (false, [(0, 9)])), mgh18871)])
/-- MiceRegistersModel.twoFigures -/
def mgc1216 : ak_C := (126, [.inl 81, .inr (false, [(1, 1)]), .inr (false, [(40, 40)])], mgh18758, [81], [([], some (.inr (false, [(-9, -9)])), mgh18633), ([], some (.inr (false, [(0, 99)])), mgh18871), ([], some (.inr (false, [(-9, -9)])), mgh18757)])
theorem mgk1216 : ai_chk [mgc1190, mgc1215, mgc144] mgc1216 (fun pc => sm_ch sm_t126 pc, sm_Kn 3 6 none, fun x => sm_lk sm_ca3 x, some .int) [81] 6 0 [] [] 2000 [] = true := by decide +kernel
def mgh18873 : aw_H := [(81, mgx18756), (92, .inr (.inl (0, 8, [], []))), (93, .inr (.inl (0, 8, [], [])))]
def mgx18874 : aw_A := ms_o [(0, 8)] [(0, 4)] ar_t32 ar_t32 [(0, 180)] [(55, 55)] [(55, 60)] [(1, 8)] [(0, 0)]
def mgh18875 : aw_H := [(81, mgx18874), (92, .inr (.inl (0, 8, [], []))), (93, .inr (.inl (0, 8, [], [])))]
def mgx18876 : aw_A := ms_o [(0, 8)] [(0, 4)] ar_t32 ar_t32 [(0, 180)] [(51, 51)] [(52, 60)] [(8, 8)] [(0, 0)]
def mgh18877 : aw_H := [(81, mgx18876), (92, .inr (.inl (0, 8, [], []))), (93, .inr (.inl (0, 8, [], [])))]
/-- MiceRegistersModel.readsLine -/
def mgx18878 : aw_A := ms_o [(0, 8)] [(0, 4)] ar_t32 ar_t32 [(0, 180)] [(51, 51)] [(52, 60)] [(0, 8)] [(0, 0)]
def mgh18879 : aw_H := [(81, mgx18878), (90, .inr (.inl (0, 240, [], []))), (92, .inr (.inl (0, 8, [], []))), (93, .inr (.inl (0, 8, [], [])))]
def mgc1217 : ak_C := (124, [.inl 81], mgh18879, [81, 92, 93], [([], some (.inr (false, [(0, 0)])), mgh18873), ([], some (.inr (false, [(1, 1)])), mgh18875), ([], some (.inr (false, [(0, 0)])), mgh18759), ([], some (.inr (false, [(0, 0)])), mgh18635), ([], some (.inr (false, [(0, 0)])), mgh18877)])
theorem mgk1217 : ai_chk [mgc1165, mgc1216] mgc1217 (fun pc => sm_ch sm_t124 pc, sm_Kn 3 3 none, fun x => sm_lk sm_ca3 x, some .boolean) [81, 92, 93] 3 0 [] [] 2000 [] = true := by decide +kernel
def mgh18880 : aw_H := [(81, mgx18874)]
def mgx18881 : aw_A := ms_o [(0, 8)] [(0, 4)] ar_t32 ar_t32 [(0, 180)] [(56, 56)] [(55, 60)] [(1, 8)] [(0, 0)]
def mgh18882 : aw_H := [(81, mgx18881)]
def mgx18883 : aw_A := ms_o [(0, 8)] [(0, 4)] ar_t32 ar_t32 [(0, 180)] [(57, 57)] [(55, 60)] [(1, 8)] [(0, 0)]
def mgh18884 : aw_H := [(81, mgx18883)]
def mgx18885 : aw_A := ms_o [(0, 8)] [(0, 4)] ar_t32 ar_t32 [(0, 180)] [(58, 58)] [(55, 60)] [(1, 8)] [(0, 0)]
def mgh18886 : aw_H := [(81, mgx18885)]
def mgx18887 : aw_A := ms_o [(0, 8)] [(0, 4)] ar_t32 ar_t32 [(0, 180)] [(59, 59)] [(55, 60)] [(1, 8)] [(0, 0)]
def mgh18888 : aw_H := [(81, mgx18887)]
def mgx18889 : aw_A := ms_o [(0, 8)] [(0, 4)] ar_t32 ar_t32 [(0, 180)] [(60, 60)] [(55, 60)] [(1, 8)] [(0, 0)]
def mgh18890 : aw_H := [(81, mgx18889)]
/-- MiceRegistersModel.skip -/
def mgh18891 : aw_H := [(81, mgx18874), (90, .inr (.inl (0, 240, [], [])))]
def mgc1218 : ak_C := (122, [.inl 81], mgh18891, [81], [([], none, mgh18880), ([], none, mgh18882), ([], none, mgh18884), ([], none, mgh18886), ([], none, mgh18888), ([], none, mgh18890)])
/-- MiceRegistersModel.figure -/
def mgc1219 : ak_C := (125, [.inl 81, .inr (false, [(0, 0)]), .inr (false, [(0, 7)])], mgh18525, [81], [([], some (.inr (false, [(-9, -9)])), mgh18508), ([], some (.inr (false, [(0, 7)])), mgh18642)])
/-- MiceRegistersModel.figure -/
def mgc1220 : ak_C := (125, [.inl 81, .inr (false, [(1, 1)]), .inr (false, [(9, 9)])], mgh18657, [81], [([], some (.inr (false, [(-9, -9)])), mgh18642), ([], some (.inr (false, [(1, 9)])), mgh18766)])
def mgh18892 : aw_H := [(81, mgx18878), (94, mgx5049)]
def mgx18893 : aw_A := ms_o [(0, 8)] [(0, 4)] ar_t32 ar_t32 [(0, 180)] [(54, 54)] [(54, 60)] [(1, 8)] [(1, 1)]
def mgh18894 : aw_H := [(81, mgx18893), (94, mgx5052)]
def mgh18895 : aw_H := [(81, mgx18636), (94, mgx5049)]
/-- MiceRegistersModel.readsMouse -/
def mgh18896 : aw_H := [(81, mgx18878), (90, .inr (.inl (0, 240, [], []))), (94, mgx5049)]
def mgc1221 : ak_C := (127, [.inl 81], mgh18896, [81, 94], [([], some (.inr (false, [(0, 0)])), mgh18892), ([], some (.inr (false, [(1, 1)])), mgh18894), ([], some (.inr (false, [(0, 0)])), mgh18895), ([], some (.inr (false, [(0, 0)])), mgh18783)])
theorem mgk1221 : ai_chk [mgc28, mgc148, mgc1219, mgc1220] mgc1221 (fun pc => sm_ch sm_t127 pc, sm_Kn 3 5 none, fun x => sm_lk sm_ca3 x, some .boolean) [81, 94] 5 0 [] [] 2000 [] = true := by decide +kernel
def mgh18897 : aw_H := [(81, mgx18893)]
def mgx18898 : aw_A := ms_o [(0, 8)] [(0, 4)] ar_t32 ar_t32 [(0, 180)] [(55, 55)] [(54, 60)] [(1, 8)] [(1, 1)]
def mgh18899 : aw_H := [(81, mgx18898)]
def mgx18900 : aw_A := ms_o [(0, 8)] [(0, 4)] ar_t32 ar_t32 [(0, 180)] [(56, 56)] [(54, 60)] [(1, 8)] [(1, 1)]
def mgh18901 : aw_H := [(81, mgx18900)]
def mgx18902 : aw_A := ms_o [(0, 8)] [(0, 4)] ar_t32 ar_t32 [(0, 180)] [(57, 57)] [(54, 60)] [(1, 8)] [(1, 1)]
def mgh18903 : aw_H := [(81, mgx18902)]
def mgx18904 : aw_A := ms_o [(0, 8)] [(0, 4)] ar_t32 ar_t32 [(0, 180)] [(58, 58)] [(54, 60)] [(1, 8)] [(1, 1)]
def mgh18905 : aw_H := [(81, mgx18904)]
def mgx18906 : aw_A := ms_o [(0, 8)] [(0, 4)] ar_t32 ar_t32 [(0, 180)] [(59, 59)] [(54, 60)] [(1, 8)] [(1, 1)]
def mgh18907 : aw_H := [(81, mgx18906)]
def mgx18908 : aw_A := ms_o [(0, 8)] [(0, 4)] ar_t32 ar_t32 [(0, 180)] [(60, 60)] [(54, 60)] [(1, 8)] [(1, 1)]
def mgh18909 : aw_H := [(81, mgx18908)]
/-- MiceRegistersModel.skip -/
def mgh18910 : aw_H := [(81, mgx18893), (90, .inr (.inl (0, 240, [], [])))]
def mgc1222 : ak_C := (122, [.inl 81], mgh18910, [81], [([], none, mgh18897), ([], none, mgh18899), ([], none, mgh18901), ([], none, mgh18903), ([], none, mgh18905), ([], none, mgh18907), ([], none, mgh18909)])
/-- MiceRegistersModel.readsLine -/
def mgx18911 : aw_A := ms_o [(0, 8)] [(0, 4)] ar_t32 ar_t32 [(0, 180)] [(51, 51)] [(52, 60)] [(1, 8)] [(1, 1)]
def mgh18912 : aw_H := [(81, mgx18911)]
def mgc1223 : ak_C := (124, [.inl 81], mgh18912, [], [([], some (.inr (false, [(0, 0)])), [])])
theorem mgk1223 : ai_chk [] mgc1223 (fun pc => sm_ch sm_t124 pc, sm_Kn 3 3 none, fun x => sm_lk sm_ca3 x, some .boolean) [] 3 0 [] [] 2000 [] = true := by decide +kernel
/-- MiceRegistersModel.figure -/
def mgc1224 : ak_C := (125, [.inl 81, .inr (false, [(0, 0)]), .inr (false, [(0, 7)])], mgh18680, [81], [([], some (.inr (false, [(-9, -9)])), mgh18663), ([], some (.inr (false, [(0, 7)])), mgh18785)])
/-- MiceRegistersModel.figure -/
def mgc1225 : ak_C := (125, [.inl 81, .inr (false, [(1, 1)]), .inr (false, [(9, 9)])], mgh18800, [81], [([], some (.inr (false, [(-9, -9)])), mgh18785), ([], some (.inr (false, [(1, 9)])), mgh18897)])
def mgh18913 : aw_H := [(81, mgx18911), (94, mgx5052)]
def mgx18914 : aw_A := ms_o [(0, 8)] [(0, 4)] ar_t32 ar_t32 [(0, 180)] [(54, 54)] [(54, 60)] [(1, 8)] [(2, 2)]
def mgh18915 : aw_H := [(81, mgx18914), (94, mgx5820)]
/-- MiceRegistersModel.readsMouse -/
def mgh18916 : aw_H := [(81, mgx18911), (90, .inr (.inl (0, 240, [], []))), (94, mgx5052)]
def mgc1226 : ak_C := (127, [.inl 81], mgh18916, [81, 94], [([], some (.inr (false, [(0, 0)])), mgh18913), ([], some (.inr (false, [(1, 1)])), mgh18915), ([], some (.inr (false, [(0, 0)])), mgh18782), ([], some (.inr (false, [(0, 0)])), mgh18660)])
theorem mgk1226 : ai_chk [mgc28, mgc148, mgc1224, mgc1225] mgc1226 (fun pc => sm_ch sm_t127 pc, sm_Kn 3 5 none, fun x => sm_lk sm_ca3 x, some .boolean) [81, 94] 5 0 [] [] 2000 [] = true := by decide +kernel
def mgh18917 : aw_H := [(81, mgx18914)]
def mgx18918 : aw_A := ms_o [(0, 8)] [(0, 4)] ar_t32 ar_t32 [(0, 180)] [(55, 55)] [(54, 60)] [(1, 8)] [(2, 2)]
def mgh18919 : aw_H := [(81, mgx18918)]
def mgx18920 : aw_A := ms_o [(0, 8)] [(0, 4)] ar_t32 ar_t32 [(0, 180)] [(56, 56)] [(54, 60)] [(1, 8)] [(2, 2)]
def mgh18921 : aw_H := [(81, mgx18920)]
def mgx18922 : aw_A := ms_o [(0, 8)] [(0, 4)] ar_t32 ar_t32 [(0, 180)] [(57, 57)] [(54, 60)] [(1, 8)] [(2, 2)]
def mgh18923 : aw_H := [(81, mgx18922)]
def mgx18924 : aw_A := ms_o [(0, 8)] [(0, 4)] ar_t32 ar_t32 [(0, 180)] [(58, 58)] [(54, 60)] [(1, 8)] [(2, 2)]
def mgh18925 : aw_H := [(81, mgx18924)]
def mgx18926 : aw_A := ms_o [(0, 8)] [(0, 4)] ar_t32 ar_t32 [(0, 180)] [(59, 59)] [(54, 60)] [(1, 8)] [(2, 2)]
def mgh18927 : aw_H := [(81, mgx18926)]
def mgx18928 : aw_A := ms_o [(0, 8)] [(0, 4)] ar_t32 ar_t32 [(0, 180)] [(60, 60)] [(54, 60)] [(1, 8)] [(2, 2)]
def mgh18929 : aw_H := [(81, mgx18928)]
/-- MiceRegistersModel.skip -/
def mgh18930 : aw_H := [(81, mgx18914), (90, .inr (.inl (0, 240, [], [])))]
def mgc1227 : ak_C := (122, [.inl 81], mgh18930, [81], [([], none, mgh18917), ([], none, mgh18919), ([], none, mgh18921), ([], none, mgh18923), ([], none, mgh18925), ([], none, mgh18927), ([], none, mgh18929)])
/-- MiceRegistersModel.readsLine -/
def mgx18931 : aw_A := ms_o [(0, 8)] [(0, 4)] ar_t32 ar_t32 [(0, 180)] [(51, 51)] [(52, 60)] [(1, 8)] [(2, 2)]
def mgh18932 : aw_H := [(81, mgx18931)]
def mgc1228 : ak_C := (124, [.inl 81], mgh18932, [], [([], some (.inr (false, [(0, 0)])), [])])
theorem mgk1228 : ai_chk [] mgc1228 (fun pc => sm_ch sm_t124 pc, sm_Kn 3 3 none, fun x => sm_lk sm_ca3 x, some .boolean) [] 3 0 [] [] 2000 [] = true := by decide +kernel
/-- MiceRegistersModel.figure -/
def mgc1229 : ak_C := (125, [.inl 81, .inr (false, [(0, 0)]), .inr (false, [(0, 7)])], mgh18704, [81], [([], some (.inr (false, [(-9, -9)])), mgh18687), ([], some (.inr (false, [(0, 7)])), mgh18807)])
/-- MiceRegistersModel.figure -/
def mgc1230 : ak_C := (125, [.inl 81, .inr (false, [(1, 1)]), .inr (false, [(9, 9)])], mgh18822, [81], [([], some (.inr (false, [(-9, -9)])), mgh18807), ([], some (.inr (false, [(1, 9)])), mgh18917)])
def mgh18933 : aw_H := [(81, mgx18931), (94, mgx5820)]
def mgx18934 : aw_A := ms_o [(0, 8)] [(0, 4)] ar_t32 ar_t32 [(0, 180)] [(54, 54)] [(54, 60)] [(1, 8)] [(3, 3)]
def mgh18935 : aw_H := [(81, mgx18934), (94, mgx6868)]
/-- MiceRegistersModel.readsMouse -/
def mgh18936 : aw_H := [(81, mgx18931), (90, .inr (.inl (0, 240, [], []))), (94, mgx5820)]
def mgc1231 : ak_C := (127, [.inl 81], mgh18936, [81, 94], [([], some (.inr (false, [(0, 0)])), mgh18933), ([], some (.inr (false, [(1, 1)])), mgh18935), ([], some (.inr (false, [(0, 0)])), mgh18805), ([], some (.inr (false, [(0, 0)])), mgh18685)])
theorem mgk1231 : ai_chk [mgc28, mgc148, mgc1229, mgc1230] mgc1231 (fun pc => sm_ch sm_t127 pc, sm_Kn 3 5 none, fun x => sm_lk sm_ca3 x, some .boolean) [81, 94] 5 0 [] [] 2000 [] = true := by decide +kernel
def mgh18937 : aw_H := [(81, mgx18934)]
def mgx18938 : aw_A := ms_o [(0, 8)] [(0, 4)] ar_t32 ar_t32 [(0, 180)] [(55, 55)] [(54, 60)] [(1, 8)] [(3, 3)]
def mgh18939 : aw_H := [(81, mgx18938)]
def mgx18940 : aw_A := ms_o [(0, 8)] [(0, 4)] ar_t32 ar_t32 [(0, 180)] [(56, 56)] [(54, 60)] [(1, 8)] [(3, 3)]
def mgh18941 : aw_H := [(81, mgx18940)]
def mgx18942 : aw_A := ms_o [(0, 8)] [(0, 4)] ar_t32 ar_t32 [(0, 180)] [(57, 57)] [(54, 60)] [(1, 8)] [(3, 3)]
def mgh18943 : aw_H := [(81, mgx18942)]
def mgx18944 : aw_A := ms_o [(0, 8)] [(0, 4)] ar_t32 ar_t32 [(0, 180)] [(58, 58)] [(54, 60)] [(1, 8)] [(3, 3)]
def mgh18945 : aw_H := [(81, mgx18944)]
def mgx18946 : aw_A := ms_o [(0, 8)] [(0, 4)] ar_t32 ar_t32 [(0, 180)] [(59, 59)] [(54, 60)] [(1, 8)] [(3, 3)]
def mgh18947 : aw_H := [(81, mgx18946)]
def mgx18948 : aw_A := ms_o [(0, 8)] [(0, 4)] ar_t32 ar_t32 [(0, 180)] [(60, 60)] [(54, 60)] [(1, 8)] [(3, 3)]
def mgh18949 : aw_H := [(81, mgx18948)]
/-- MiceRegistersModel.skip -/
def mgh18950 : aw_H := [(81, mgx18934), (90, .inr (.inl (0, 240, [], [])))]
def mgc1232 : ak_C := (122, [.inl 81], mgh18950, [81], [([], none, mgh18937), ([], none, mgh18939), ([], none, mgh18941), ([], none, mgh18943), ([], none, mgh18945), ([], none, mgh18947), ([], none, mgh18949)])
/-- MiceRegistersModel.readsLine -/
def mgx18951 : aw_A := ms_o [(0, 8)] [(0, 4)] ar_t32 ar_t32 [(0, 180)] [(51, 51)] [(52, 60)] [(1, 8)] [(3, 3)]
def mgh18952 : aw_H := [(81, mgx18951)]
def mgc1233 : ak_C := (124, [.inl 81], mgh18952, [], [([], some (.inr (false, [(0, 0)])), [])])
theorem mgk1233 : ai_chk [] mgc1233 (fun pc => sm_ch sm_t124 pc, sm_Kn 3 3 none, fun x => sm_lk sm_ca3 x, some .boolean) [] 3 0 [] [] 2000 [] = true := by decide +kernel
/-- MiceRegistersModel.figure -/
def mgc1234 : ak_C := (125, [.inl 81, .inr (false, [(0, 0)]), .inr (false, [(0, 7)])], mgh18728, [81], [([], some (.inr (false, [(-9, -9)])), mgh18711), ([], some (.inr (false, [(0, 7)])), mgh18829)])
/-- MiceRegistersModel.figure -/
def mgc1235 : ak_C := (125, [.inl 81, .inr (false, [(1, 1)]), .inr (false, [(9, 9)])], mgh18844, [81], [([], some (.inr (false, [(-9, -9)])), mgh18829), ([], some (.inr (false, [(1, 9)])), mgh18937)])
def mgh18953 : aw_H := [(81, mgx18951), (94, mgx6868)]
def mgx18954 : aw_A := ms_o [(0, 8)] [(0, 4)] ar_t32 ar_t32 [(0, 180)] [(54, 54)] [(54, 60)] [(1, 8)] [(4, 4)]
def mgh18955 : aw_H := [(81, mgx18954), (94, mgx8150)]
/-- MiceRegistersModel.readsMouse -/
def mgh18956 : aw_H := [(81, mgx18951), (90, .inr (.inl (0, 240, [], []))), (94, mgx6868)]
def mgc1236 : ak_C := (127, [.inl 81], mgh18956, [81, 94], [([], some (.inr (false, [(0, 0)])), mgh18953), ([], some (.inr (false, [(1, 1)])), mgh18955), ([], some (.inr (false, [(0, 0)])), mgh18827), ([], some (.inr (false, [(0, 0)])), mgh18709)])
theorem mgk1236 : ai_chk [mgc28, mgc148, mgc1234, mgc1235] mgc1236 (fun pc => sm_ch sm_t127 pc, sm_Kn 3 5 none, fun x => sm_lk sm_ca3 x, some .boolean) [81, 94] 5 0 [] [] 2000 [] = true := by decide +kernel
def mgh18957 : aw_H := [(81, mgx18954)]
def mgx18958 : aw_A := ms_o [(0, 8)] [(0, 4)] ar_t32 ar_t32 [(0, 180)] [(55, 55)] [(54, 60)] [(1, 8)] [(4, 4)]
def mgh18959 : aw_H := [(81, mgx18958)]
def mgx18960 : aw_A := ms_o [(0, 8)] [(0, 4)] ar_t32 ar_t32 [(0, 180)] [(56, 56)] [(54, 60)] [(1, 8)] [(4, 4)]
def mgh18961 : aw_H := [(81, mgx18960)]
def mgx18962 : aw_A := ms_o [(0, 8)] [(0, 4)] ar_t32 ar_t32 [(0, 180)] [(57, 57)] [(54, 60)] [(1, 8)] [(4, 4)]
def mgh18963 : aw_H := [(81, mgx18962)]
def mgx18964 : aw_A := ms_o [(0, 8)] [(0, 4)] ar_t32 ar_t32 [(0, 180)] [(58, 58)] [(54, 60)] [(1, 8)] [(4, 4)]
def mgh18965 : aw_H := [(81, mgx18964)]
def mgx18966 : aw_A := ms_o [(0, 8)] [(0, 4)] ar_t32 ar_t32 [(0, 180)] [(59, 59)] [(54, 60)] [(1, 8)] [(4, 4)]
def mgh18967 : aw_H := [(81, mgx18966)]
def mgx18968 : aw_A := ms_o [(0, 8)] [(0, 4)] ar_t32 ar_t32 [(0, 180)] [(60, 60)] [(54, 60)] [(1, 8)] [(4, 4)]
def mgh18969 : aw_H := [(81, mgx18968)]
/-- MiceRegistersModel.skip -/
def mgh18970 : aw_H := [(81, mgx18954), (90, .inr (.inl (0, 240, [], [])))]
def mgc1237 : ak_C := (122, [.inl 81], mgh18970, [81], [([], none, mgh18957), ([], none, mgh18959), ([], none, mgh18961), ([], none, mgh18963), ([], none, mgh18965), ([], none, mgh18967), ([], none, mgh18969)])
/-- MiceRegistersModel.readsLine -/
def mgx18971 : aw_A := ms_o [(0, 8)] [(0, 4)] ar_t32 ar_t32 [(0, 180)] [(51, 51)] [(52, 60)] [(1, 8)] [(4, 4)]
def mgh18972 : aw_H := [(81, mgx18971)]
def mgc1238 : ak_C := (124, [.inl 81], mgh18972, [], [([], some (.inr (false, [(0, 0)])), [])])
theorem mgk1238 : ai_chk [] mgc1238 (fun pc => sm_ch sm_t124 pc, sm_Kn 3 3 none, fun x => sm_lk sm_ca3 x, some .boolean) [] 3 0 [] [] 2000 [] = true := by decide +kernel
/-- MiceRegistersModel.readsMouse -/
def mgh18973 : aw_H := [(81, mgx18971), (90, .inr (.inl (0, 240, [], [])))]
def mgc1239 : ak_C := (127, [.inl 81], mgh18973, [], [([], some (.inr (false, [(0, 0)])), [])])
theorem mgk1239 : ai_chk [mgc28, mgc148] mgc1239 (fun pc => sm_ch sm_t127 pc, sm_Kn 3 5 none, fun x => sm_lk sm_ca3 x, some .boolean) [] 5 0 [] [] 2000 [] = true := by decide +kernel
def mgx18974 : aw_A := ms_o [(0, 8)] [(0, 4)] ar_t32 ar_t32 [(0, 180)] [(56, 56)] [(56, 60)] [(0, 7)] [(0, 0)]
def mgh18975 : aw_H := [(81, mgx18974)]
/-- MiceRegistersModel.figure -/
def mgh18976 : aw_H := [(81, mgx18870), (90, .inr (.inl (0, 240, [], [])))]
def mgc1240 : ak_C := (125, [.inl 81, .inr (false, [(0, 0)]), .inr (false, [(9, 9)])], mgh18976, [81], [([], some (.inr (false, [(-9, -9)])), mgh18871), ([], some (.inr (false, [(0, 9)])), mgh18975)])
/-- MiceRegistersModel.twoFigures -/
def mgc1241 : ak_C := (126, [.inl 81, .inr (false, [(1, 1)]), .inr (false, [(40, 40)])], mgh18872, [81], [([], some (.inr (false, [(-9, -9)])), mgh18757), ([], some (.inr (false, [(0, 99)])), mgh18975), ([], some (.inr (false, [(-9, -9)])), mgh18871)])
theorem mgk1241 : ai_chk [mgc1215, mgc1240, mgc144] mgc1241 (fun pc => sm_ch sm_t126 pc, sm_Kn 3 6 none, fun x => sm_lk sm_ca3 x, some .int) [81] 6 0 [] [] 2000 [] = true := by decide +kernel
def mgh18977 : aw_H := [(81, mgx18870), (92, .inr (.inl (0, 8, [], []))), (93, .inr (.inl (0, 8, [], [])))]
def mgx18978 : aw_A := ms_o [(0, 8)] [(0, 4)] ar_t32 ar_t32 [(0, 180)] [(56, 56)] [(56, 60)] [(1, 8)] [(0, 0)]
def mgh18979 : aw_H := [(81, mgx18978), (92, .inr (.inl (0, 8, [], []))), (93, .inr (.inl (0, 8, [], [])))]
def mgx18980 : aw_A := ms_o [(0, 8)] [(0, 4)] ar_t32 ar_t32 [(0, 180)] [(52, 52)] [(53, 60)] [(8, 8)] [(0, 0)]
def mgh18981 : aw_H := [(81, mgx18980), (92, .inr (.inl (0, 8, [], []))), (93, .inr (.inl (0, 8, [], [])))]
/-- MiceRegistersModel.readsLine -/
def mgx18982 : aw_A := ms_o [(0, 8)] [(0, 4)] ar_t32 ar_t32 [(0, 180)] [(52, 52)] [(53, 60)] [(0, 8)] [(0, 0)]
def mgh18983 : aw_H := [(81, mgx18982), (90, .inr (.inl (0, 240, [], []))), (92, .inr (.inl (0, 8, [], []))), (93, .inr (.inl (0, 8, [], [])))]
def mgc1242 : ak_C := (124, [.inl 81], mgh18983, [81, 92, 93], [([], some (.inr (false, [(0, 0)])), mgh18977), ([], some (.inr (false, [(1, 1)])), mgh18979), ([], some (.inr (false, [(0, 0)])), mgh18873), ([], some (.inr (false, [(0, 0)])), mgh18759), ([], some (.inr (false, [(0, 0)])), mgh18981)])
theorem mgk1242 : ai_chk [mgc1190, mgc1241] mgc1242 (fun pc => sm_ch sm_t124 pc, sm_Kn 3 3 none, fun x => sm_lk sm_ca3 x, some .boolean) [81, 92, 93] 3 0 [] [] 2000 [] = true := by decide +kernel
def mgh18984 : aw_H := [(81, mgx18978)]
def mgx18985 : aw_A := ms_o [(0, 8)] [(0, 4)] ar_t32 ar_t32 [(0, 180)] [(57, 57)] [(56, 60)] [(1, 8)] [(0, 0)]
def mgh18986 : aw_H := [(81, mgx18985)]
def mgx18987 : aw_A := ms_o [(0, 8)] [(0, 4)] ar_t32 ar_t32 [(0, 180)] [(58, 58)] [(56, 60)] [(1, 8)] [(0, 0)]
def mgh18988 : aw_H := [(81, mgx18987)]
def mgx18989 : aw_A := ms_o [(0, 8)] [(0, 4)] ar_t32 ar_t32 [(0, 180)] [(59, 59)] [(56, 60)] [(1, 8)] [(0, 0)]
def mgh18990 : aw_H := [(81, mgx18989)]
def mgx18991 : aw_A := ms_o [(0, 8)] [(0, 4)] ar_t32 ar_t32 [(0, 180)] [(60, 60)] [(56, 60)] [(1, 8)] [(0, 0)]
def mgh18992 : aw_H := [(81, mgx18991)]
/-- MiceRegistersModel.skip -/
def mgh18993 : aw_H := [(81, mgx18978), (90, .inr (.inl (0, 240, [], [])))]
def mgc1243 : ak_C := (122, [.inl 81], mgh18993, [81], [([], none, mgh18984), ([], none, mgh18986), ([], none, mgh18988), ([], none, mgh18990), ([], none, mgh18992)])
/-- MiceRegistersModel.figure -/
def mgc1244 : ak_C := (125, [.inl 81, .inr (false, [(0, 0)]), .inr (false, [(0, 7)])], mgh18657, [81], [([], some (.inr (false, [(-9, -9)])), mgh18642), ([], some (.inr (false, [(0, 7)])), mgh18766)])
/-- MiceRegistersModel.figure -/
def mgc1245 : ak_C := (125, [.inl 81, .inr (false, [(1, 1)]), .inr (false, [(9, 9)])], mgh18779, [81], [([], some (.inr (false, [(-9, -9)])), mgh18766), ([], some (.inr (false, [(1, 9)])), mgh18880)])
def mgh18994 : aw_H := [(81, mgx18982), (94, mgx5049)]
def mgx18995 : aw_A := ms_o [(0, 8)] [(0, 4)] ar_t32 ar_t32 [(0, 180)] [(55, 55)] [(55, 60)] [(1, 8)] [(1, 1)]
def mgh18996 : aw_H := [(81, mgx18995), (94, mgx5052)]
def mgh18997 : aw_H := [(81, mgx18760), (94, mgx5049)]
/-- MiceRegistersModel.readsMouse -/
def mgh18998 : aw_H := [(81, mgx18982), (90, .inr (.inl (0, 240, [], []))), (94, mgx5049)]
def mgc1246 : ak_C := (127, [.inl 81], mgh18998, [81, 94], [([], some (.inr (false, [(0, 0)])), mgh18994), ([], some (.inr (false, [(1, 1)])), mgh18996), ([], some (.inr (false, [(0, 0)])), mgh18997), ([], some (.inr (false, [(0, 0)])), mgh18895)])
theorem mgk1246 : ai_chk [mgc27, mgc148, mgc1244, mgc1245] mgc1246 (fun pc => sm_ch sm_t127 pc, sm_Kn 3 5 none, fun x => sm_lk sm_ca3 x, some .boolean) [81, 94] 5 0 [] [] 2000 [] = true := by decide +kernel
def mgh18999 : aw_H := [(81, mgx18995)]
def mgx19000 : aw_A := ms_o [(0, 8)] [(0, 4)] ar_t32 ar_t32 [(0, 180)] [(56, 56)] [(55, 60)] [(1, 8)] [(1, 1)]
def mgh19001 : aw_H := [(81, mgx19000)]
def mgx19002 : aw_A := ms_o [(0, 8)] [(0, 4)] ar_t32 ar_t32 [(0, 180)] [(57, 57)] [(55, 60)] [(1, 8)] [(1, 1)]
def mgh19003 : aw_H := [(81, mgx19002)]
def mgx19004 : aw_A := ms_o [(0, 8)] [(0, 4)] ar_t32 ar_t32 [(0, 180)] [(58, 58)] [(55, 60)] [(1, 8)] [(1, 1)]
def mgh19005 : aw_H := [(81, mgx19004)]
def mgx19006 : aw_A := ms_o [(0, 8)] [(0, 4)] ar_t32 ar_t32 [(0, 180)] [(59, 59)] [(55, 60)] [(1, 8)] [(1, 1)]
def mgh19007 : aw_H := [(81, mgx19006)]
def mgx19008 : aw_A := ms_o [(0, 8)] [(0, 4)] ar_t32 ar_t32 [(0, 180)] [(60, 60)] [(55, 60)] [(1, 8)] [(1, 1)]
def mgh19009 : aw_H := [(81, mgx19008)]
/-- MiceRegistersModel.skip -/
def mgh19010 : aw_H := [(81, mgx18995), (90, .inr (.inl (0, 240, [], [])))]
def mgc1247 : ak_C := (122, [.inl 81], mgh19010, [81], [([], none, mgh18999), ([], none, mgh19001), ([], none, mgh19003), ([], none, mgh19005), ([], none, mgh19007), ([], none, mgh19009)])
/-- MiceRegistersModel.readsLine -/
def mgx19011 : aw_A := ms_o [(0, 8)] [(0, 4)] ar_t32 ar_t32 [(0, 180)] [(52, 52)] [(53, 60)] [(1, 8)] [(1, 1)]
def mgh19012 : aw_H := [(81, mgx19011)]
def mgc1248 : ak_C := (124, [.inl 81], mgh19012, [], [([], some (.inr (false, [(0, 0)])), [])])
theorem mgk1248 : ai_chk [] mgc1248 (fun pc => sm_ch sm_t124 pc, sm_Kn 3 3 none, fun x => sm_lk sm_ca3 x, some .boolean) [] 3 0 [] [] 2000 [] = true := by decide +kernel
/-- MiceRegistersModel.figure -/
def mgc1249 : ak_C := (125, [.inl 81, .inr (false, [(0, 0)]), .inr (false, [(0, 7)])], mgh18800, [81], [([], some (.inr (false, [(-9, -9)])), mgh18785), ([], some (.inr (false, [(0, 7)])), mgh18897)])
/-- MiceRegistersModel.figure -/
def mgc1250 : ak_C := (125, [.inl 81, .inr (false, [(1, 1)]), .inr (false, [(9, 9)])], mgh18910, [81], [([], some (.inr (false, [(-9, -9)])), mgh18897), ([], some (.inr (false, [(1, 9)])), mgh18999)])
def mgh19013 : aw_H := [(81, mgx19011), (94, mgx5052)]
def mgx19014 : aw_A := ms_o [(0, 8)] [(0, 4)] ar_t32 ar_t32 [(0, 180)] [(55, 55)] [(55, 60)] [(1, 8)] [(2, 2)]
def mgh19015 : aw_H := [(81, mgx19014), (94, mgx5820)]
/-- MiceRegistersModel.readsMouse -/
def mgh19016 : aw_H := [(81, mgx19011), (90, .inr (.inl (0, 240, [], []))), (94, mgx5052)]
def mgc1251 : ak_C := (127, [.inl 81], mgh19016, [81, 94], [([], some (.inr (false, [(0, 0)])), mgh19013), ([], some (.inr (false, [(1, 1)])), mgh19015), ([], some (.inr (false, [(0, 0)])), mgh18894), ([], some (.inr (false, [(0, 0)])), mgh18782)])
theorem mgk1251 : ai_chk [mgc27, mgc148, mgc1249, mgc1250] mgc1251 (fun pc => sm_ch sm_t127 pc, sm_Kn 3 5 none, fun x => sm_lk sm_ca3 x, some .boolean) [81, 94] 5 0 [] [] 2000 [] = true := by decide +kernel
def mgh19017 : aw_H := [(81, mgx19014)]
def mgx19018 : aw_A := ms_o [(0, 8)] [(0, 4)] ar_t32 ar_t32 [(0, 180)] [(56, 56)] [(55, 60)] [(1, 8)] [(2, 2)]
def mgh19019 : aw_H := [(81, mgx19018)]
def mgx19020 : aw_A := ms_o [(0, 8)] [(0, 4)] ar_t32 ar_t32 [(0, 180)] [(57, 57)] [(55, 60)] [(1, 8)] [(2, 2)]
def mgh19021 : aw_H := [(81, mgx19020)]
def mgx19022 : aw_A := ms_o [(0, 8)] [(0, 4)] ar_t32 ar_t32 [(0, 180)] [(58, 58)] [(55, 60)] [(1, 8)] [(2, 2)]
def mgh19023 : aw_H := [(81, mgx19022)]
def mgx19024 : aw_A := ms_o [(0, 8)] [(0, 4)] ar_t32 ar_t32 [(0, 180)] [(59, 59)] [(55, 60)] [(1, 8)] [(2, 2)]
def mgh19025 : aw_H := [(81, mgx19024)]
def mgx19026 : aw_A := ms_o [(0, 8)] [(0, 4)] ar_t32 ar_t32 [(0, 180)] [(60, 60)] [(55, 60)] [(1, 8)] [(2, 2)]
def mgh19027 : aw_H := [(81, mgx19026)]
/-- MiceRegistersModel.skip -/
def mgh19028 : aw_H := [(81, mgx19014), (90, .inr (.inl (0, 240, [], [])))]
def mgc1252 : ak_C := (122, [.inl 81], mgh19028, [81], [([], none, mgh19017), ([], none, mgh19019), ([], none, mgh19021), ([], none, mgh19023), ([], none, mgh19025), ([], none, mgh19027)])
/-- MiceRegistersModel.readsLine -/
def mgx19029 : aw_A := ms_o [(0, 8)] [(0, 4)] ar_t32 ar_t32 [(0, 180)] [(52, 52)] [(53, 60)] [(1, 8)] [(2, 2)]
def mgh19030 : aw_H := [(81, mgx19029)]
def mgc1253 : ak_C := (124, [.inl 81], mgh19030, [], [([], some (.inr (false, [(0, 0)])), [])])
theorem mgk1253 : ai_chk [] mgc1253 (fun pc => sm_ch sm_t124 pc, sm_Kn 3 3 none, fun x => sm_lk sm_ca3 x, some .boolean) [] 3 0 [] [] 2000 [] = true := by decide +kernel
/-- MiceRegistersModel.figure -/
def mgc1254 : ak_C := (125, [.inl 81, .inr (false, [(0, 0)]), .inr (false, [(0, 7)])], mgh18822, [81], [([], some (.inr (false, [(-9, -9)])), mgh18807), ([], some (.inr (false, [(0, 7)])), mgh18917)])
/-- MiceRegistersModel.figure -/
def mgc1255 : ak_C := (125, [.inl 81, .inr (false, [(1, 1)]), .inr (false, [(9, 9)])], mgh18930, [81], [([], some (.inr (false, [(-9, -9)])), mgh18917), ([], some (.inr (false, [(1, 9)])), mgh19017)])
def mgh19031 : aw_H := [(81, mgx19029), (94, mgx5820)]
def mgx19032 : aw_A := ms_o [(0, 8)] [(0, 4)] ar_t32 ar_t32 [(0, 180)] [(55, 55)] [(55, 60)] [(1, 8)] [(3, 3)]
def mgh19033 : aw_H := [(81, mgx19032), (94, mgx6868)]
/-- MiceRegistersModel.readsMouse -/
def mgh19034 : aw_H := [(81, mgx19029), (90, .inr (.inl (0, 240, [], []))), (94, mgx5820)]
def mgc1256 : ak_C := (127, [.inl 81], mgh19034, [81, 94], [([], some (.inr (false, [(0, 0)])), mgh19031), ([], some (.inr (false, [(1, 1)])), mgh19033), ([], some (.inr (false, [(0, 0)])), mgh18915), ([], some (.inr (false, [(0, 0)])), mgh18805)])
theorem mgk1256 : ai_chk [mgc27, mgc148, mgc1254, mgc1255] mgc1256 (fun pc => sm_ch sm_t127 pc, sm_Kn 3 5 none, fun x => sm_lk sm_ca3 x, some .boolean) [81, 94] 5 0 [] [] 2000 [] = true := by decide +kernel
def mgh19035 : aw_H := [(81, mgx19032)]
def mgx19036 : aw_A := ms_o [(0, 8)] [(0, 4)] ar_t32 ar_t32 [(0, 180)] [(56, 56)] [(55, 60)] [(1, 8)] [(3, 3)]
def mgh19037 : aw_H := [(81, mgx19036)]
def mgx19038 : aw_A := ms_o [(0, 8)] [(0, 4)] ar_t32 ar_t32 [(0, 180)] [(57, 57)] [(55, 60)] [(1, 8)] [(3, 3)]
def mgh19039 : aw_H := [(81, mgx19038)]
def mgx19040 : aw_A := ms_o [(0, 8)] [(0, 4)] ar_t32 ar_t32 [(0, 180)] [(58, 58)] [(55, 60)] [(1, 8)] [(3, 3)]
def mgh19041 : aw_H := [(81, mgx19040)]
def mgx19042 : aw_A := ms_o [(0, 8)] [(0, 4)] ar_t32 ar_t32 [(0, 180)] [(59, 59)] [(55, 60)] [(1, 8)] [(3, 3)]
def mgh19043 : aw_H := [(81, mgx19042)]
def mgx19044 : aw_A := ms_o [(0, 8)] [(0, 4)] ar_t32 ar_t32 [(0, 180)] [(60, 60)] [(55, 60)] [(1, 8)] [(3, 3)]
def mgh19045 : aw_H := [(81, mgx19044)]
/-- MiceRegistersModel.skip -/
def mgh19046 : aw_H := [(81, mgx19032), (90, .inr (.inl (0, 240, [], [])))]
def mgc1257 : ak_C := (122, [.inl 81], mgh19046, [81], [([], none, mgh19035), ([], none, mgh19037), ([], none, mgh19039), ([], none, mgh19041), ([], none, mgh19043), ([], none, mgh19045)])
/-- MiceRegistersModel.readsLine -/
def mgx19047 : aw_A := ms_o [(0, 8)] [(0, 4)] ar_t32 ar_t32 [(0, 180)] [(52, 52)] [(53, 60)] [(1, 8)] [(3, 3)]
def mgh19048 : aw_H := [(81, mgx19047)]
def mgc1258 : ak_C := (124, [.inl 81], mgh19048, [], [([], some (.inr (false, [(0, 0)])), [])])
theorem mgk1258 : ai_chk [] mgc1258 (fun pc => sm_ch sm_t124 pc, sm_Kn 3 3 none, fun x => sm_lk sm_ca3 x, some .boolean) [] 3 0 [] [] 2000 [] = true := by decide +kernel
/-- MiceRegistersModel.figure -/
def mgc1259 : ak_C := (125, [.inl 81, .inr (false, [(0, 0)]), .inr (false, [(0, 7)])], mgh18844, [81], [([], some (.inr (false, [(-9, -9)])), mgh18829), ([], some (.inr (false, [(0, 7)])), mgh18937)])
/-- MiceRegistersModel.figure -/
def mgc1260 : ak_C := (125, [.inl 81, .inr (false, [(1, 1)]), .inr (false, [(9, 9)])], mgh18950, [81], [([], some (.inr (false, [(-9, -9)])), mgh18937), ([], some (.inr (false, [(1, 9)])), mgh19035)])
def mgh19049 : aw_H := [(81, mgx19047), (94, mgx6868)]
def mgx19050 : aw_A := ms_o [(0, 8)] [(0, 4)] ar_t32 ar_t32 [(0, 180)] [(55, 55)] [(55, 60)] [(1, 8)] [(4, 4)]
def mgh19051 : aw_H := [(81, mgx19050), (94, mgx8150)]
/-- MiceRegistersModel.readsMouse -/
def mgh19052 : aw_H := [(81, mgx19047), (90, .inr (.inl (0, 240, [], []))), (94, mgx6868)]
def mgc1261 : ak_C := (127, [.inl 81], mgh19052, [81, 94], [([], some (.inr (false, [(0, 0)])), mgh19049), ([], some (.inr (false, [(1, 1)])), mgh19051), ([], some (.inr (false, [(0, 0)])), mgh18935), ([], some (.inr (false, [(0, 0)])), mgh18827)])
theorem mgk1261 : ai_chk [mgc27, mgc148, mgc1259, mgc1260] mgc1261 (fun pc => sm_ch sm_t127 pc, sm_Kn 3 5 none, fun x => sm_lk sm_ca3 x, some .boolean) [81, 94] 5 0 [] [] 2000 [] = true := by decide +kernel
def mgh19053 : aw_H := [(81, mgx19050)]
def mgx19054 : aw_A := ms_o [(0, 8)] [(0, 4)] ar_t32 ar_t32 [(0, 180)] [(56, 56)] [(55, 60)] [(1, 8)] [(4, 4)]
def mgh19055 : aw_H := [(81, mgx19054)]
def mgx19056 : aw_A := ms_o [(0, 8)] [(0, 4)] ar_t32 ar_t32 [(0, 180)] [(57, 57)] [(55, 60)] [(1, 8)] [(4, 4)]
def mgh19057 : aw_H := [(81, mgx19056)]
def mgx19058 : aw_A := ms_o [(0, 8)] [(0, 4)] ar_t32 ar_t32 [(0, 180)] [(58, 58)] [(55, 60)] [(1, 8)] [(4, 4)]
def mgh19059 : aw_H := [(81, mgx19058)]
def mgx19060 : aw_A := ms_o [(0, 8)] [(0, 4)] ar_t32 ar_t32 [(0, 180)] [(59, 59)] [(55, 60)] [(1, 8)] [(4, 4)]
def mgh19061 : aw_H := [(81, mgx19060)]
def mgx19062 : aw_A := ms_o [(0, 8)] [(0, 4)] ar_t32 ar_t32 [(0, 180)] [(60, 60)] [(55, 60)] [(1, 8)] [(4, 4)]
def mgh19063 : aw_H := [(81, mgx19062)]
/-- MiceRegistersModel.skip -/
def mgh19064 : aw_H := [(81, mgx19050), (90, .inr (.inl (0, 240, [], [])))]
def mgc1262 : ak_C := (122, [.inl 81], mgh19064, [81], [([], none, mgh19053), ([], none, mgh19055), ([], none, mgh19057), ([], none, mgh19059), ([], none, mgh19061), ([], none, mgh19063)])
/-- MiceRegistersModel.readsLine -/
def mgx19065 : aw_A := ms_o [(0, 8)] [(0, 4)] ar_t32 ar_t32 [(0, 180)] [(52, 52)] [(53, 60)] [(1, 8)] [(4, 4)]
def mgh19066 : aw_H := [(81, mgx19065)]
def mgc1263 : ak_C := (124, [.inl 81], mgh19066, [], [([], some (.inr (false, [(0, 0)])), [])])
theorem mgk1263 : ai_chk [] mgc1263 (fun pc => sm_ch sm_t124 pc, sm_Kn 3 3 none, fun x => sm_lk sm_ca3 x, some .boolean) [] 3 0 [] [] 2000 [] = true := by decide +kernel
/-- MiceRegistersModel.readsMouse -/
def mgh19067 : aw_H := [(81, mgx19065), (90, .inr (.inl (0, 240, [], [])))]
def mgc1264 : ak_C := (127, [.inl 81], mgh19067, [], [([], some (.inr (false, [(0, 0)])), [])])
theorem mgk1264 : ai_chk [mgc27, mgc148] mgc1264 (fun pc => sm_ch sm_t127 pc, sm_Kn 3 5 none, fun x => sm_lk sm_ca3 x, some .boolean) [] 5 0 [] [] 2000 [] = true := by decide +kernel
def mgx19068 : aw_A := ms_o [(0, 8)] [(0, 4)] ar_t32 ar_t32 [(0, 180)] [(57, 57)] [(57, 60)] [(0, 7)] [(0, 0)]
def mgh19069 : aw_H := [(81, mgx19068)]
/-- MiceRegistersModel.figure -/
def mgh19070 : aw_H := [(81, mgx18974), (90, .inr (.inl (0, 240, [], [])))]
def mgc1265 : ak_C := (125, [.inl 81, .inr (false, [(0, 0)]), .inr (false, [(9, 9)])], mgh19070, [81], [([], some (.inr (false, [(-9, -9)])), mgh18975), ([], some (.inr (false, [(0, 9)])), mgh19069)])
/-- MiceRegistersModel.twoFigures -/
def mgc1266 : ak_C := (126, [.inl 81, .inr (false, [(1, 1)]), .inr (false, [(40, 40)])], mgh18976, [81], [([], some (.inr (false, [(-9, -9)])), mgh18871), ([], some (.inr (false, [(0, 99)])), mgh19069), ([], some (.inr (false, [(-9, -9)])), mgh18975)])
theorem mgk1266 : ai_chk [mgc1240, mgc1265, mgc144] mgc1266 (fun pc => sm_ch sm_t126 pc, sm_Kn 3 6 none, fun x => sm_lk sm_ca3 x, some .int) [81] 6 0 [] [] 2000 [] = true := by decide +kernel
def mgh19071 : aw_H := [(81, mgx18974), (92, .inr (.inl (0, 8, [], []))), (93, .inr (.inl (0, 8, [], [])))]
def mgx19072 : aw_A := ms_o [(0, 8)] [(0, 4)] ar_t32 ar_t32 [(0, 180)] [(57, 57)] [(57, 60)] [(1, 8)] [(0, 0)]
def mgh19073 : aw_H := [(81, mgx19072), (92, .inr (.inl (0, 8, [], []))), (93, .inr (.inl (0, 8, [], [])))]
def mgx19074 : aw_A := ms_o [(0, 8)] [(0, 4)] ar_t32 ar_t32 [(0, 180)] [(53, 53)] [(54, 60)] [(8, 8)] [(0, 0)]
def mgh19075 : aw_H := [(81, mgx19074), (92, .inr (.inl (0, 8, [], []))), (93, .inr (.inl (0, 8, [], [])))]
/-- MiceRegistersModel.readsLine -/
def mgx19076 : aw_A := ms_o [(0, 8)] [(0, 4)] ar_t32 ar_t32 [(0, 180)] [(53, 53)] [(54, 60)] [(0, 8)] [(0, 0)]
def mgh19077 : aw_H := [(81, mgx19076), (90, .inr (.inl (0, 240, [], []))), (92, .inr (.inl (0, 8, [], []))), (93, .inr (.inl (0, 8, [], [])))]
def mgc1267 : ak_C := (124, [.inl 81], mgh19077, [81, 92, 93], [([], some (.inr (false, [(0, 0)])), mgh19071), ([], some (.inr (false, [(1, 1)])), mgh19073), ([], some (.inr (false, [(0, 0)])), mgh18977), ([], some (.inr (false, [(0, 0)])), mgh18873), ([], some (.inr (false, [(0, 0)])), mgh19075)])
theorem mgk1267 : ai_chk [mgc1215, mgc1266] mgc1267 (fun pc => sm_ch sm_t124 pc, sm_Kn 3 3 none, fun x => sm_lk sm_ca3 x, some .boolean) [81, 92, 93] 3 0 [] [] 2000 [] = true := by decide +kernel
def mgh19078 : aw_H := [(81, mgx19072)]
def mgx19079 : aw_A := ms_o [(0, 8)] [(0, 4)] ar_t32 ar_t32 [(0, 180)] [(58, 58)] [(57, 60)] [(1, 8)] [(0, 0)]
def mgh19080 : aw_H := [(81, mgx19079)]
def mgx19081 : aw_A := ms_o [(0, 8)] [(0, 4)] ar_t32 ar_t32 [(0, 180)] [(59, 59)] [(57, 60)] [(1, 8)] [(0, 0)]
def mgh19082 : aw_H := [(81, mgx19081)]
def mgx19083 : aw_A := ms_o [(0, 8)] [(0, 4)] ar_t32 ar_t32 [(0, 180)] [(60, 60)] [(57, 60)] [(1, 8)] [(0, 0)]
def mgh19084 : aw_H := [(81, mgx19083)]
/-- MiceRegistersModel.skip -/
def mgh19085 : aw_H := [(81, mgx19072), (90, .inr (.inl (0, 240, [], [])))]
def mgc1268 : ak_C := (122, [.inl 81], mgh19085, [81], [([], none, mgh19078), ([], none, mgh19080), ([], none, mgh19082), ([], none, mgh19084)])
/-- MiceRegistersModel.figure -/
def mgc1269 : ak_C := (125, [.inl 81, .inr (false, [(0, 0)]), .inr (false, [(0, 7)])], mgh18779, [81], [([], some (.inr (false, [(-9, -9)])), mgh18766), ([], some (.inr (false, [(0, 7)])), mgh18880)])
/-- MiceRegistersModel.figure -/
def mgc1270 : ak_C := (125, [.inl 81, .inr (false, [(1, 1)]), .inr (false, [(9, 9)])], mgh18891, [81], [([], some (.inr (false, [(-9, -9)])), mgh18880), ([], some (.inr (false, [(1, 9)])), mgh18984)])
def mgh19086 : aw_H := [(81, mgx19076), (94, mgx5049)]
def mgx19087 : aw_A := ms_o [(0, 8)] [(0, 4)] ar_t32 ar_t32 [(0, 180)] [(56, 56)] [(56, 60)] [(1, 8)] [(1, 1)]
def mgh19088 : aw_H := [(81, mgx19087), (94, mgx5052)]
def mgh19089 : aw_H := [(81, mgx18874), (94, mgx5049)]
/-- MiceRegistersModel.readsMouse -/
def mgh19090 : aw_H := [(81, mgx19076), (90, .inr (.inl (0, 240, [], []))), (94, mgx5049)]
def mgc1271 : ak_C := (127, [.inl 81], mgh19090, [81, 94], [([], some (.inr (false, [(0, 0)])), mgh19086), ([], some (.inr (false, [(1, 1)])), mgh19088), ([], some (.inr (false, [(0, 0)])), mgh19089), ([], some (.inr (false, [(0, 0)])), mgh18997)])
theorem mgk1271 : ai_chk [mgc26, mgc148, mgc1269, mgc1270] mgc1271 (fun pc => sm_ch sm_t127 pc, sm_Kn 3 5 none, fun x => sm_lk sm_ca3 x, some .boolean) [81, 94] 5 0 [] [] 2000 [] = true := by decide +kernel
def mgh19091 : aw_H := [(81, mgx19087)]
def mgx19092 : aw_A := ms_o [(0, 8)] [(0, 4)] ar_t32 ar_t32 [(0, 180)] [(57, 57)] [(56, 60)] [(1, 8)] [(1, 1)]
def mgh19093 : aw_H := [(81, mgx19092)]
def mgx19094 : aw_A := ms_o [(0, 8)] [(0, 4)] ar_t32 ar_t32 [(0, 180)] [(58, 58)] [(56, 60)] [(1, 8)] [(1, 1)]
def mgh19095 : aw_H := [(81, mgx19094)]
def mgx19096 : aw_A := ms_o [(0, 8)] [(0, 4)] ar_t32 ar_t32 [(0, 180)] [(59, 59)] [(56, 60)] [(1, 8)] [(1, 1)]
def mgh19097 : aw_H := [(81, mgx19096)]
def mgx19098 : aw_A := ms_o [(0, 8)] [(0, 4)] ar_t32 ar_t32 [(0, 180)] [(60, 60)] [(56, 60)] [(1, 8)] [(1, 1)]
def mgh19099 : aw_H := [(81, mgx19098)]
/-- MiceRegistersModel.skip -/
def mgh19100 : aw_H := [(81, mgx19087), (90, .inr (.inl (0, 240, [], [])))]
def mgc1272 : ak_C := (122, [.inl 81], mgh19100, [81], [([], none, mgh19091), ([], none, mgh19093), ([], none, mgh19095), ([], none, mgh19097), ([], none, mgh19099)])
/-- MiceRegistersModel.readsLine -/
def mgx19101 : aw_A := ms_o [(0, 8)] [(0, 4)] ar_t32 ar_t32 [(0, 180)] [(53, 53)] [(54, 60)] [(1, 8)] [(1, 1)]
def mgh19102 : aw_H := [(81, mgx19101)]
def mgc1273 : ak_C := (124, [.inl 81], mgh19102, [], [([], some (.inr (false, [(0, 0)])), [])])
theorem mgk1273 : ai_chk [] mgc1273 (fun pc => sm_ch sm_t124 pc, sm_Kn 3 3 none, fun x => sm_lk sm_ca3 x, some .boolean) [] 3 0 [] [] 2000 [] = true := by decide +kernel
/-- MiceRegistersModel.figure -/
def mgc1274 : ak_C := (125, [.inl 81, .inr (false, [(0, 0)]), .inr (false, [(0, 7)])], mgh18910, [81], [([], some (.inr (false, [(-9, -9)])), mgh18897), ([], some (.inr (false, [(0, 7)])), mgh18999)])
/-- MiceRegistersModel.figure -/
def mgc1275 : ak_C := (125, [.inl 81, .inr (false, [(1, 1)]), .inr (false, [(9, 9)])], mgh19010, [81], [([], some (.inr (false, [(-9, -9)])), mgh18999), ([], some (.inr (false, [(1, 9)])), mgh19091)])
def mgh19103 : aw_H := [(81, mgx19101), (94, mgx5052)]
def mgx19104 : aw_A := ms_o [(0, 8)] [(0, 4)] ar_t32 ar_t32 [(0, 180)] [(56, 56)] [(56, 60)] [(1, 8)] [(2, 2)]
def mgh19105 : aw_H := [(81, mgx19104), (94, mgx5820)]
/-- MiceRegistersModel.readsMouse -/
def mgh19106 : aw_H := [(81, mgx19101), (90, .inr (.inl (0, 240, [], []))), (94, mgx5052)]
def mgc1276 : ak_C := (127, [.inl 81], mgh19106, [81, 94], [([], some (.inr (false, [(0, 0)])), mgh19103), ([], some (.inr (false, [(1, 1)])), mgh19105), ([], some (.inr (false, [(0, 0)])), mgh18996), ([], some (.inr (false, [(0, 0)])), mgh18894)])
theorem mgk1276 : ai_chk [mgc26, mgc148, mgc1274, mgc1275] mgc1276 (fun pc => sm_ch sm_t127 pc, sm_Kn 3 5 none, fun x => sm_lk sm_ca3 x, some .boolean) [81, 94] 5 0 [] [] 2000 [] = true := by decide +kernel
def mgh19107 : aw_H := [(81, mgx19104)]
def mgx19108 : aw_A := ms_o [(0, 8)] [(0, 4)] ar_t32 ar_t32 [(0, 180)] [(57, 57)] [(56, 60)] [(1, 8)] [(2, 2)]
def mgh19109 : aw_H := [(81, mgx19108)]
def mgx19110 : aw_A := ms_o [(0, 8)] [(0, 4)] ar_t32 ar_t32 [(0, 180)] [(58, 58)] [(56, 60)] [(1, 8)] [(2, 2)]
def mgh19111 : aw_H := [(81, mgx19110)]
def mgx19112 : aw_A := ms_o [(0, 8)] [(0, 4)] ar_t32 ar_t32 [(0, 180)] [(59, 59)] [(56, 60)] [(1, 8)] [(2, 2)]
def mgh19113 : aw_H := [(81, mgx19112)]
def mgx19114 : aw_A := ms_o [(0, 8)] [(0, 4)] ar_t32 ar_t32 [(0, 180)] [(60, 60)] [(56, 60)] [(1, 8)] [(2, 2)]
def mgh19115 : aw_H := [(81, mgx19114)]
/-- MiceRegistersModel.skip -/
def mgh19116 : aw_H := [(81, mgx19104), (90, .inr (.inl (0, 240, [], [])))]
def mgc1277 : ak_C := (122, [.inl 81], mgh19116, [81], [([], none, mgh19107), ([], none, mgh19109), ([], none, mgh19111), ([], none, mgh19113), ([], none, mgh19115)])
/-- MiceRegistersModel.readsLine -/
def mgx19117 : aw_A := ms_o [(0, 8)] [(0, 4)] ar_t32 ar_t32 [(0, 180)] [(53, 53)] [(54, 60)] [(1, 8)] [(2, 2)]
def mgh19118 : aw_H := [(81, mgx19117)]
def mgc1278 : ak_C := (124, [.inl 81], mgh19118, [], [([], some (.inr (false, [(0, 0)])), [])])
theorem mgk1278 : ai_chk [] mgc1278 (fun pc => sm_ch sm_t124 pc, sm_Kn 3 3 none, fun x => sm_lk sm_ca3 x, some .boolean) [] 3 0 [] [] 2000 [] = true := by decide +kernel
/-- MiceRegistersModel.figure -/
def mgc1279 : ak_C := (125, [.inl 81, .inr (false, [(0, 0)]), .inr (false, [(0, 7)])], mgh18930, [81], [([], some (.inr (false, [(-9, -9)])), mgh18917), ([], some (.inr (false, [(0, 7)])), mgh19017)])
/-- MiceRegistersModel.figure -/
def mgc1280 : ak_C := (125, [.inl 81, .inr (false, [(1, 1)]), .inr (false, [(9, 9)])], mgh19028, [81], [([], some (.inr (false, [(-9, -9)])), mgh19017), ([], some (.inr (false, [(1, 9)])), mgh19107)])
def mgh19119 : aw_H := [(81, mgx19117), (94, mgx5820)]
def mgx19120 : aw_A := ms_o [(0, 8)] [(0, 4)] ar_t32 ar_t32 [(0, 180)] [(56, 56)] [(56, 60)] [(1, 8)] [(3, 3)]
def mgh19121 : aw_H := [(81, mgx19120), (94, mgx6868)]
/-- MiceRegistersModel.readsMouse -/
def mgh19122 : aw_H := [(81, mgx19117), (90, .inr (.inl (0, 240, [], []))), (94, mgx5820)]
def mgc1281 : ak_C := (127, [.inl 81], mgh19122, [81, 94], [([], some (.inr (false, [(0, 0)])), mgh19119), ([], some (.inr (false, [(1, 1)])), mgh19121), ([], some (.inr (false, [(0, 0)])), mgh19015), ([], some (.inr (false, [(0, 0)])), mgh18915)])
theorem mgk1281 : ai_chk [mgc26, mgc148, mgc1279, mgc1280] mgc1281 (fun pc => sm_ch sm_t127 pc, sm_Kn 3 5 none, fun x => sm_lk sm_ca3 x, some .boolean) [81, 94] 5 0 [] [] 2000 [] = true := by decide +kernel
def mgh19123 : aw_H := [(81, mgx19120)]
def mgx19124 : aw_A := ms_o [(0, 8)] [(0, 4)] ar_t32 ar_t32 [(0, 180)] [(57, 57)] [(56, 60)] [(1, 8)] [(3, 3)]
def mgh19125 : aw_H := [(81, mgx19124)]
def mgx19126 : aw_A := ms_o [(0, 8)] [(0, 4)] ar_t32 ar_t32 [(0, 180)] [(58, 58)] [(56, 60)] [(1, 8)] [(3, 3)]
def mgh19127 : aw_H := [(81, mgx19126)]
def mgx19128 : aw_A := ms_o [(0, 8)] [(0, 4)] ar_t32 ar_t32 [(0, 180)] [(59, 59)] [(56, 60)] [(1, 8)] [(3, 3)]
def mgh19129 : aw_H := [(81, mgx19128)]
def mgx19130 : aw_A := ms_o [(0, 8)] [(0, 4)] ar_t32 ar_t32 [(0, 180)] [(60, 60)] [(56, 60)] [(1, 8)] [(3, 3)]
def mgh19131 : aw_H := [(81, mgx19130)]
/-- MiceRegistersModel.skip -/
def mgh19132 : aw_H := [(81, mgx19120), (90, .inr (.inl (0, 240, [], [])))]
def mgc1282 : ak_C := (122, [.inl 81], mgh19132, [81], [([], none, mgh19123), ([], none, mgh19125), ([], none, mgh19127), ([], none, mgh19129), ([], none, mgh19131)])
/-- MiceRegistersModel.readsLine -/
def mgx19133 : aw_A := ms_o [(0, 8)] [(0, 4)] ar_t32 ar_t32 [(0, 180)] [(53, 53)] [(54, 60)] [(1, 8)] [(3, 3)]
def mgh19134 : aw_H := [(81, mgx19133)]
def mgc1283 : ak_C := (124, [.inl 81], mgh19134, [], [([], some (.inr (false, [(0, 0)])), [])])
theorem mgk1283 : ai_chk [] mgc1283 (fun pc => sm_ch sm_t124 pc, sm_Kn 3 3 none, fun x => sm_lk sm_ca3 x, some .boolean) [] 3 0 [] [] 2000 [] = true := by decide +kernel
/-- MiceRegistersModel.figure -/
def mgc1284 : ak_C := (125, [.inl 81, .inr (false, [(0, 0)]), .inr (false, [(0, 7)])], mgh18950, [81], [([], some (.inr (false, [(-9, -9)])), mgh18937), ([], some (.inr (false, [(0, 7)])), mgh19035)])
/-- MiceRegistersModel.figure -/
def mgc1285 : ak_C := (125, [.inl 81, .inr (false, [(1, 1)]), .inr (false, [(9, 9)])], mgh19046, [81], [([], some (.inr (false, [(-9, -9)])), mgh19035), ([], some (.inr (false, [(1, 9)])), mgh19123)])
def mgh19135 : aw_H := [(81, mgx19133), (94, mgx6868)]
def mgx19136 : aw_A := ms_o [(0, 8)] [(0, 4)] ar_t32 ar_t32 [(0, 180)] [(56, 56)] [(56, 60)] [(1, 8)] [(4, 4)]
def mgh19137 : aw_H := [(81, mgx19136), (94, mgx8150)]
/-- MiceRegistersModel.readsMouse -/
def mgh19138 : aw_H := [(81, mgx19133), (90, .inr (.inl (0, 240, [], []))), (94, mgx6868)]
def mgc1286 : ak_C := (127, [.inl 81], mgh19138, [81, 94], [([], some (.inr (false, [(0, 0)])), mgh19135), ([], some (.inr (false, [(1, 1)])), mgh19137), ([], some (.inr (false, [(0, 0)])), mgh19033), ([], some (.inr (false, [(0, 0)])), mgh18935)])
theorem mgk1286 : ai_chk [mgc26, mgc148, mgc1284, mgc1285] mgc1286 (fun pc => sm_ch sm_t127 pc, sm_Kn 3 5 none, fun x => sm_lk sm_ca3 x, some .boolean) [81, 94] 5 0 [] [] 2000 [] = true := by decide +kernel
def mgh19139 : aw_H := [(81, mgx19136)]
def mgx19140 : aw_A := ms_o [(0, 8)] [(0, 4)] ar_t32 ar_t32 [(0, 180)] [(57, 57)] [(56, 60)] [(1, 8)] [(4, 4)]
def mgh19141 : aw_H := [(81, mgx19140)]
def mgx19142 : aw_A := ms_o [(0, 8)] [(0, 4)] ar_t32 ar_t32 [(0, 180)] [(58, 58)] [(56, 60)] [(1, 8)] [(4, 4)]
def mgh19143 : aw_H := [(81, mgx19142)]
def mgx19144 : aw_A := ms_o [(0, 8)] [(0, 4)] ar_t32 ar_t32 [(0, 180)] [(59, 59)] [(56, 60)] [(1, 8)] [(4, 4)]
def mgh19145 : aw_H := [(81, mgx19144)]
def mgx19146 : aw_A := ms_o [(0, 8)] [(0, 4)] ar_t32 ar_t32 [(0, 180)] [(60, 60)] [(56, 60)] [(1, 8)] [(4, 4)]
def mgh19147 : aw_H := [(81, mgx19146)]
/-- MiceRegistersModel.skip -/
def mgh19148 : aw_H := [(81, mgx19136), (90, .inr (.inl (0, 240, [], [])))]
def mgc1287 : ak_C := (122, [.inl 81], mgh19148, [81], [([], none, mgh19139), ([], none, mgh19141), ([], none, mgh19143), ([], none, mgh19145), ([], none, mgh19147)])
/-- MiceRegistersModel.readsLine -/
def mgx19149 : aw_A := ms_o [(0, 8)] [(0, 4)] ar_t32 ar_t32 [(0, 180)] [(53, 53)] [(54, 60)] [(1, 8)] [(4, 4)]
def mgh19150 : aw_H := [(81, mgx19149)]
def mgc1288 : ak_C := (124, [.inl 81], mgh19150, [], [([], some (.inr (false, [(0, 0)])), [])])
theorem mgk1288 : ai_chk [] mgc1288 (fun pc => sm_ch sm_t124 pc, sm_Kn 3 3 none, fun x => sm_lk sm_ca3 x, some .boolean) [] 3 0 [] [] 2000 [] = true := by decide +kernel
/-- MiceRegistersModel.readsMouse -/
def mgh19151 : aw_H := [(81, mgx19149), (90, .inr (.inl (0, 240, [], [])))]
def mgc1289 : ak_C := (127, [.inl 81], mgh19151, [], [([], some (.inr (false, [(0, 0)])), [])])
theorem mgk1289 : ai_chk [mgc26, mgc148] mgc1289 (fun pc => sm_ch sm_t127 pc, sm_Kn 3 5 none, fun x => sm_lk sm_ca3 x, some .boolean) [] 5 0 [] [] 2000 [] = true := by decide +kernel
def mgx19152 : aw_A := ms_o [(0, 8)] [(0, 4)] ar_t32 ar_t32 [(0, 180)] [(58, 58)] [(58, 60)] [(0, 7)] [(0, 0)]
def mgh19153 : aw_H := [(81, mgx19152)]
/-- MiceRegistersModel.figure -/
def mgh19154 : aw_H := [(81, mgx19068), (90, .inr (.inl (0, 240, [], [])))]
def mgc1290 : ak_C := (125, [.inl 81, .inr (false, [(0, 0)]), .inr (false, [(9, 9)])], mgh19154, [81], [([], some (.inr (false, [(-9, -9)])), mgh19069), ([], some (.inr (false, [(0, 9)])), mgh19153)])
/-- MiceRegistersModel.twoFigures -/
def mgc1291 : ak_C := (126, [.inl 81, .inr (false, [(1, 1)]), .inr (false, [(40, 40)])], mgh19070, [81], [([], some (.inr (false, [(-9, -9)])), mgh18975), ([], some (.inr (false, [(0, 99)])), mgh19153), ([], some (.inr (false, [(-9, -9)])), mgh19069)])
theorem mgk1291 : ai_chk [mgc1265, mgc1290, mgc144] mgc1291 (fun pc => sm_ch sm_t126 pc, sm_Kn 3 6 none, fun x => sm_lk sm_ca3 x, some .int) [81] 6 0 [] [] 2000 [] = true := by decide +kernel
def mgh19155 : aw_H := [(81, mgx19068), (92, .inr (.inl (0, 8, [], []))), (93, .inr (.inl (0, 8, [], [])))]
def mgx19156 : aw_A := ms_o [(0, 8)] [(0, 4)] ar_t32 ar_t32 [(0, 180)] [(58, 58)] [(58, 60)] [(1, 8)] [(0, 0)]
def mgh19157 : aw_H := [(81, mgx19156), (92, .inr (.inl (0, 8, [], []))), (93, .inr (.inl (0, 8, [], [])))]
def mgx19158 : aw_A := ms_o [(0, 8)] [(0, 4)] ar_t32 ar_t32 [(0, 180)] [(54, 54)] [(55, 60)] [(8, 8)] [(0, 0)]
def mgh19159 : aw_H := [(81, mgx19158), (92, .inr (.inl (0, 8, [], []))), (93, .inr (.inl (0, 8, [], [])))]
/-- MiceRegistersModel.readsLine -/
def mgx19160 : aw_A := ms_o [(0, 8)] [(0, 4)] ar_t32 ar_t32 [(0, 180)] [(54, 54)] [(55, 60)] [(0, 8)] [(0, 0)]
def mgh19161 : aw_H := [(81, mgx19160), (90, .inr (.inl (0, 240, [], []))), (92, .inr (.inl (0, 8, [], []))), (93, .inr (.inl (0, 8, [], [])))]
def mgc1292 : ak_C := (124, [.inl 81], mgh19161, [81, 92, 93], [([], some (.inr (false, [(0, 0)])), mgh19155), ([], some (.inr (false, [(1, 1)])), mgh19157), ([], some (.inr (false, [(0, 0)])), mgh19071), ([], some (.inr (false, [(0, 0)])), mgh18977), ([], some (.inr (false, [(0, 0)])), mgh19159)])
theorem mgk1292 : ai_chk [mgc1240, mgc1291] mgc1292 (fun pc => sm_ch sm_t124 pc, sm_Kn 3 3 none, fun x => sm_lk sm_ca3 x, some .boolean) [81, 92, 93] 3 0 [] [] 2000 [] = true := by decide +kernel
def mgh19162 : aw_H := [(81, mgx19156)]
def mgx19163 : aw_A := ms_o [(0, 8)] [(0, 4)] ar_t32 ar_t32 [(0, 180)] [(59, 59)] [(58, 60)] [(1, 8)] [(0, 0)]
def mgh19164 : aw_H := [(81, mgx19163)]
def mgx19165 : aw_A := ms_o [(0, 8)] [(0, 4)] ar_t32 ar_t32 [(0, 180)] [(60, 60)] [(58, 60)] [(1, 8)] [(0, 0)]
def mgh19166 : aw_H := [(81, mgx19165)]
/-- MiceRegistersModel.skip -/
def mgh19167 : aw_H := [(81, mgx19156), (90, .inr (.inl (0, 240, [], [])))]
def mgc1293 : ak_C := (122, [.inl 81], mgh19167, [81], [([], none, mgh19162), ([], none, mgh19164), ([], none, mgh19166)])
/-- MiceRegistersModel.figure -/
def mgc1294 : ak_C := (125, [.inl 81, .inr (false, [(0, 0)]), .inr (false, [(0, 7)])], mgh18891, [81], [([], some (.inr (false, [(-9, -9)])), mgh18880), ([], some (.inr (false, [(0, 7)])), mgh18984)])
/-- MiceRegistersModel.figure -/
def mgc1295 : ak_C := (125, [.inl 81, .inr (false, [(1, 1)]), .inr (false, [(9, 9)])], mgh18993, [81], [([], some (.inr (false, [(-9, -9)])), mgh18984), ([], some (.inr (false, [(1, 9)])), mgh19078)])
def mgh19168 : aw_H := [(81, mgx19160), (94, mgx5049)]
def mgx19169 : aw_A := ms_o [(0, 8)] [(0, 4)] ar_t32 ar_t32 [(0, 180)] [(57, 57)] [(57, 60)] [(1, 8)] [(1, 1)]
def mgh19170 : aw_H := [(81, mgx19169), (94, mgx5052)]
def mgh19171 : aw_H := [(81, mgx18978), (94, mgx5049)]
/-- MiceRegistersModel.readsMouse -/
def mgh19172 : aw_H := [(81, mgx19160), (90, .inr (.inl (0, 240, [], []))), (94, mgx5049)]
def mgc1296 : ak_C := (127, [.inl 81], mgh19172, [81, 94], [([], some (.inr (false, [(0, 0)])), mgh19168), ([], some (.inr (false, [(1, 1)])), mgh19170), ([], some (.inr (false, [(0, 0)])), mgh19171), ([], some (.inr (false, [(0, 0)])), mgh19089)])
theorem mgk1296 : ai_chk [mgc25, mgc148, mgc1294, mgc1295] mgc1296 (fun pc => sm_ch sm_t127 pc, sm_Kn 3 5 none, fun x => sm_lk sm_ca3 x, some .boolean) [81, 94] 5 0 [] [] 2000 [] = true := by decide +kernel
def mgh19173 : aw_H := [(81, mgx19169)]
def mgx19174 : aw_A := ms_o [(0, 8)] [(0, 4)] ar_t32 ar_t32 [(0, 180)] [(58, 58)] [(57, 60)] [(1, 8)] [(1, 1)]
def mgh19175 : aw_H := [(81, mgx19174)]
def mgx19176 : aw_A := ms_o [(0, 8)] [(0, 4)] ar_t32 ar_t32 [(0, 180)] [(59, 59)] [(57, 60)] [(1, 8)] [(1, 1)]
def mgh19177 : aw_H := [(81, mgx19176)]
def mgx19178 : aw_A := ms_o [(0, 8)] [(0, 4)] ar_t32 ar_t32 [(0, 180)] [(60, 60)] [(57, 60)] [(1, 8)] [(1, 1)]
def mgh19179 : aw_H := [(81, mgx19178)]
/-- MiceRegistersModel.skip -/
def mgh19180 : aw_H := [(81, mgx19169), (90, .inr (.inl (0, 240, [], [])))]
def mgc1297 : ak_C := (122, [.inl 81], mgh19180, [81], [([], none, mgh19173), ([], none, mgh19175), ([], none, mgh19177), ([], none, mgh19179)])
/-- MiceRegistersModel.readsLine -/
def mgx19181 : aw_A := ms_o [(0, 8)] [(0, 4)] ar_t32 ar_t32 [(0, 180)] [(54, 54)] [(55, 60)] [(1, 8)] [(1, 1)]
def mgh19182 : aw_H := [(81, mgx19181)]
def mgc1298 : ak_C := (124, [.inl 81], mgh19182, [], [([], some (.inr (false, [(0, 0)])), [])])
theorem mgk1298 : ai_chk [] mgc1298 (fun pc => sm_ch sm_t124 pc, sm_Kn 3 3 none, fun x => sm_lk sm_ca3 x, some .boolean) [] 3 0 [] [] 2000 [] = true := by decide +kernel
/-- MiceRegistersModel.figure -/
def mgc1299 : ak_C := (125, [.inl 81, .inr (false, [(0, 0)]), .inr (false, [(0, 7)])], mgh19010, [81], [([], some (.inr (false, [(-9, -9)])), mgh18999), ([], some (.inr (false, [(0, 7)])), mgh19091)])
/-- MiceRegistersModel.figure -/
def mgc1300 : ak_C := (125, [.inl 81, .inr (false, [(1, 1)]), .inr (false, [(9, 9)])], mgh19100, [81], [([], some (.inr (false, [(-9, -9)])), mgh19091), ([], some (.inr (false, [(1, 9)])), mgh19173)])
def mgh19183 : aw_H := [(81, mgx19181), (94, mgx5052)]
def mgx19184 : aw_A := ms_o [(0, 8)] [(0, 4)] ar_t32 ar_t32 [(0, 180)] [(57, 57)] [(57, 60)] [(1, 8)] [(2, 2)]
def mgh19185 : aw_H := [(81, mgx19184), (94, mgx5820)]
/-- MiceRegistersModel.readsMouse -/
def mgh19186 : aw_H := [(81, mgx19181), (90, .inr (.inl (0, 240, [], []))), (94, mgx5052)]
def mgc1301 : ak_C := (127, [.inl 81], mgh19186, [81, 94], [([], some (.inr (false, [(0, 0)])), mgh19183), ([], some (.inr (false, [(1, 1)])), mgh19185), ([], some (.inr (false, [(0, 0)])), mgh19088), ([], some (.inr (false, [(0, 0)])), mgh18996)])
theorem mgk1301 : ai_chk [mgc25, mgc148, mgc1299, mgc1300] mgc1301 (fun pc => sm_ch sm_t127 pc, sm_Kn 3 5 none, fun x => sm_lk sm_ca3 x, some .boolean) [81, 94] 5 0 [] [] 2000 [] = true := by decide +kernel
def mgh19187 : aw_H := [(81, mgx19184)]
def mgx19188 : aw_A := ms_o [(0, 8)] [(0, 4)] ar_t32 ar_t32 [(0, 180)] [(58, 58)] [(57, 60)] [(1, 8)] [(2, 2)]
def mgh19189 : aw_H := [(81, mgx19188)]
def mgx19190 : aw_A := ms_o [(0, 8)] [(0, 4)] ar_t32 ar_t32 [(0, 180)] [(59, 59)] [(57, 60)] [(1, 8)] [(2, 2)]
def mgh19191 : aw_H := [(81, mgx19190)]
def mgx19192 : aw_A := ms_o [(0, 8)] [(0, 4)] ar_t32 ar_t32 [(0, 180)] [(60, 60)] [(57, 60)] [(1, 8)] [(2, 2)]
def mgh19193 : aw_H := [(81, mgx19192)]
/-- MiceRegistersModel.skip -/
def mgh19194 : aw_H := [(81, mgx19184), (90, .inr (.inl (0, 240, [], [])))]
def mgc1302 : ak_C := (122, [.inl 81], mgh19194, [81], [([], none, mgh19187), ([], none, mgh19189), ([], none, mgh19191), ([], none, mgh19193)])
/-- MiceRegistersModel.readsLine -/
def mgx19195 : aw_A := ms_o [(0, 8)] [(0, 4)] ar_t32 ar_t32 [(0, 180)] [(54, 54)] [(55, 60)] [(1, 8)] [(2, 2)]
def mgh19196 : aw_H := [(81, mgx19195)]
def mgc1303 : ak_C := (124, [.inl 81], mgh19196, [], [([], some (.inr (false, [(0, 0)])), [])])
theorem mgk1303 : ai_chk [] mgc1303 (fun pc => sm_ch sm_t124 pc, sm_Kn 3 3 none, fun x => sm_lk sm_ca3 x, some .boolean) [] 3 0 [] [] 2000 [] = true := by decide +kernel
/-- MiceRegistersModel.figure -/
def mgc1304 : ak_C := (125, [.inl 81, .inr (false, [(0, 0)]), .inr (false, [(0, 7)])], mgh19028, [81], [([], some (.inr (false, [(-9, -9)])), mgh19017), ([], some (.inr (false, [(0, 7)])), mgh19107)])
/-- MiceRegistersModel.figure -/
def mgc1305 : ak_C := (125, [.inl 81, .inr (false, [(1, 1)]), .inr (false, [(9, 9)])], mgh19116, [81], [([], some (.inr (false, [(-9, -9)])), mgh19107), ([], some (.inr (false, [(1, 9)])), mgh19187)])
def mgh19197 : aw_H := [(81, mgx19195), (94, mgx5820)]
def mgx19198 : aw_A := ms_o [(0, 8)] [(0, 4)] ar_t32 ar_t32 [(0, 180)] [(57, 57)] [(57, 60)] [(1, 8)] [(3, 3)]
def mgh19199 : aw_H := [(81, mgx19198), (94, mgx6868)]
/-- MiceRegistersModel.readsMouse -/
def mgh19200 : aw_H := [(81, mgx19195), (90, .inr (.inl (0, 240, [], []))), (94, mgx5820)]
def mgc1306 : ak_C := (127, [.inl 81], mgh19200, [81, 94], [([], some (.inr (false, [(0, 0)])), mgh19197), ([], some (.inr (false, [(1, 1)])), mgh19199), ([], some (.inr (false, [(0, 0)])), mgh19105), ([], some (.inr (false, [(0, 0)])), mgh19015)])
theorem mgk1306 : ai_chk [mgc25, mgc148, mgc1304, mgc1305] mgc1306 (fun pc => sm_ch sm_t127 pc, sm_Kn 3 5 none, fun x => sm_lk sm_ca3 x, some .boolean) [81, 94] 5 0 [] [] 2000 [] = true := by decide +kernel
def mgh19201 : aw_H := [(81, mgx19198)]
def mgx19202 : aw_A := ms_o [(0, 8)] [(0, 4)] ar_t32 ar_t32 [(0, 180)] [(58, 58)] [(57, 60)] [(1, 8)] [(3, 3)]
def mgh19203 : aw_H := [(81, mgx19202)]
def mgx19204 : aw_A := ms_o [(0, 8)] [(0, 4)] ar_t32 ar_t32 [(0, 180)] [(59, 59)] [(57, 60)] [(1, 8)] [(3, 3)]
def mgh19205 : aw_H := [(81, mgx19204)]
def mgx19206 : aw_A := ms_o [(0, 8)] [(0, 4)] ar_t32 ar_t32 [(0, 180)] [(60, 60)] [(57, 60)] [(1, 8)] [(3, 3)]
def mgh19207 : aw_H := [(81, mgx19206)]
/-- MiceRegistersModel.skip -/
def mgh19208 : aw_H := [(81, mgx19198), (90, .inr (.inl (0, 240, [], [])))]
def mgc1307 : ak_C := (122, [.inl 81], mgh19208, [81], [([], none, mgh19201), ([], none, mgh19203), ([], none, mgh19205), ([], none, mgh19207)])
/-- MiceRegistersModel.readsLine -/
def mgx19209 : aw_A := ms_o [(0, 8)] [(0, 4)] ar_t32 ar_t32 [(0, 180)] [(54, 54)] [(55, 60)] [(1, 8)] [(3, 3)]
def mgh19210 : aw_H := [(81, mgx19209)]
def mgc1308 : ak_C := (124, [.inl 81], mgh19210, [], [([], some (.inr (false, [(0, 0)])), [])])
theorem mgk1308 : ai_chk [] mgc1308 (fun pc => sm_ch sm_t124 pc, sm_Kn 3 3 none, fun x => sm_lk sm_ca3 x, some .boolean) [] 3 0 [] [] 2000 [] = true := by decide +kernel
/-- MiceRegistersModel.figure -/
def mgc1309 : ak_C := (125, [.inl 81, .inr (false, [(0, 0)]), .inr (false, [(0, 7)])], mgh19046, [81], [([], some (.inr (false, [(-9, -9)])), mgh19035), ([], some (.inr (false, [(0, 7)])), mgh19123)])
/-- MiceRegistersModel.figure -/
def mgc1310 : ak_C := (125, [.inl 81, .inr (false, [(1, 1)]), .inr (false, [(9, 9)])], mgh19132, [81], [([], some (.inr (false, [(-9, -9)])), mgh19123), ([], some (.inr (false, [(1, 9)])), mgh19201)])
def mgh19211 : aw_H := [(81, mgx19209), (94, mgx6868)]
def mgx19212 : aw_A := ms_o [(0, 8)] [(0, 4)] ar_t32 ar_t32 [(0, 180)] [(57, 57)] [(57, 60)] [(1, 8)] [(4, 4)]
def mgh19213 : aw_H := [(81, mgx19212), (94, mgx8150)]
/-- MiceRegistersModel.readsMouse -/
def mgh19214 : aw_H := [(81, mgx19209), (90, .inr (.inl (0, 240, [], []))), (94, mgx6868)]
def mgc1311 : ak_C := (127, [.inl 81], mgh19214, [81, 94], [([], some (.inr (false, [(0, 0)])), mgh19211), ([], some (.inr (false, [(1, 1)])), mgh19213), ([], some (.inr (false, [(0, 0)])), mgh19121), ([], some (.inr (false, [(0, 0)])), mgh19033)])
theorem mgk1311 : ai_chk [mgc25, mgc148, mgc1309, mgc1310] mgc1311 (fun pc => sm_ch sm_t127 pc, sm_Kn 3 5 none, fun x => sm_lk sm_ca3 x, some .boolean) [81, 94] 5 0 [] [] 2000 [] = true := by decide +kernel
def mgh19215 : aw_H := [(81, mgx19212)]
def mgx19216 : aw_A := ms_o [(0, 8)] [(0, 4)] ar_t32 ar_t32 [(0, 180)] [(58, 58)] [(57, 60)] [(1, 8)] [(4, 4)]
def mgh19217 : aw_H := [(81, mgx19216)]
def mgx19218 : aw_A := ms_o [(0, 8)] [(0, 4)] ar_t32 ar_t32 [(0, 180)] [(59, 59)] [(57, 60)] [(1, 8)] [(4, 4)]
def mgh19219 : aw_H := [(81, mgx19218)]
def mgx19220 : aw_A := ms_o [(0, 8)] [(0, 4)] ar_t32 ar_t32 [(0, 180)] [(60, 60)] [(57, 60)] [(1, 8)] [(4, 4)]
def mgh19221 : aw_H := [(81, mgx19220)]
/-- MiceRegistersModel.skip -/
def mgh19222 : aw_H := [(81, mgx19212), (90, .inr (.inl (0, 240, [], [])))]
def mgc1312 : ak_C := (122, [.inl 81], mgh19222, [81], [([], none, mgh19215), ([], none, mgh19217), ([], none, mgh19219), ([], none, mgh19221)])
/-- MiceRegistersModel.readsLine -/
def mgx19223 : aw_A := ms_o [(0, 8)] [(0, 4)] ar_t32 ar_t32 [(0, 180)] [(54, 54)] [(55, 60)] [(1, 8)] [(4, 4)]
def mgh19224 : aw_H := [(81, mgx19223)]
def mgc1313 : ak_C := (124, [.inl 81], mgh19224, [], [([], some (.inr (false, [(0, 0)])), [])])
theorem mgk1313 : ai_chk [] mgc1313 (fun pc => sm_ch sm_t124 pc, sm_Kn 3 3 none, fun x => sm_lk sm_ca3 x, some .boolean) [] 3 0 [] [] 2000 [] = true := by decide +kernel
/-- MiceRegistersModel.readsMouse -/
def mgh19225 : aw_H := [(81, mgx19223), (90, .inr (.inl (0, 240, [], [])))]
def mgc1314 : ak_C := (127, [.inl 81], mgh19225, [], [([], some (.inr (false, [(0, 0)])), [])])
theorem mgk1314 : ai_chk [mgc25, mgc148] mgc1314 (fun pc => sm_ch sm_t127 pc, sm_Kn 3 5 none, fun x => sm_lk sm_ca3 x, some .boolean) [] 5 0 [] [] 2000 [] = true := by decide +kernel
def mgx19226 : aw_A := ms_o [(0, 8)] [(0, 4)] ar_t32 ar_t32 [(0, 180)] [(59, 59)] [(59, 60)] [(0, 7)] [(0, 0)]
def mgh19227 : aw_H := [(81, mgx19226)]
/-- MiceRegistersModel.figure -/
def mgh19228 : aw_H := [(81, mgx19152), (90, .inr (.inl (0, 240, [], [])))]
def mgc1315 : ak_C := (125, [.inl 81, .inr (false, [(0, 0)]), .inr (false, [(9, 9)])], mgh19228, [81], [([], some (.inr (false, [(-9, -9)])), mgh19153), ([], some (.inr (false, [(0, 9)])), mgh19227)])
/-- MiceRegistersModel.twoFigures -/
def mgc1316 : ak_C := (126, [.inl 81, .inr (false, [(1, 1)]), .inr (false, [(40, 40)])], mgh19154, [81], [([], some (.inr (false, [(-9, -9)])), mgh19069), ([], some (.inr (false, [(0, 99)])), mgh19227), ([], some (.inr (false, [(-9, -9)])), mgh19153)])
theorem mgk1316 : ai_chk [mgc1290, mgc1315, mgc144] mgc1316 (fun pc => sm_ch sm_t126 pc, sm_Kn 3 6 none, fun x => sm_lk sm_ca3 x, some .int) [81] 6 0 [] [] 2000 [] = true := by decide +kernel
def mgh19229 : aw_H := [(81, mgx19152), (92, .inr (.inl (0, 8, [], []))), (93, .inr (.inl (0, 8, [], [])))]
def mgx19230 : aw_A := ms_o [(0, 8)] [(0, 4)] ar_t32 ar_t32 [(0, 180)] [(59, 59)] [(59, 60)] [(1, 8)] [(0, 0)]
def mgh19231 : aw_H := [(81, mgx19230), (92, .inr (.inl (0, 8, [], []))), (93, .inr (.inl (0, 8, [], [])))]
def mgx19232 : aw_A := ms_o [(0, 8)] [(0, 4)] ar_t32 ar_t32 [(0, 180)] [(55, 55)] [(56, 60)] [(8, 8)] [(0, 0)]
def mgh19233 : aw_H := [(81, mgx19232), (92, .inr (.inl (0, 8, [], []))), (93, .inr (.inl (0, 8, [], [])))]
/-- MiceRegistersModel.readsLine -/
def mgx19234 : aw_A := ms_o [(0, 8)] [(0, 4)] ar_t32 ar_t32 [(0, 180)] [(55, 55)] [(56, 60)] [(0, 8)] [(0, 0)]
def mgh19235 : aw_H := [(81, mgx19234), (90, .inr (.inl (0, 240, [], []))), (92, .inr (.inl (0, 8, [], []))), (93, .inr (.inl (0, 8, [], [])))]
def mgc1317 : ak_C := (124, [.inl 81], mgh19235, [81, 92, 93], [([], some (.inr (false, [(0, 0)])), mgh19229), ([], some (.inr (false, [(1, 1)])), mgh19231), ([], some (.inr (false, [(0, 0)])), mgh19155), ([], some (.inr (false, [(0, 0)])), mgh19071), ([], some (.inr (false, [(0, 0)])), mgh19233)])
theorem mgk1317 : ai_chk [mgc1265, mgc1316] mgc1317 (fun pc => sm_ch sm_t124 pc, sm_Kn 3 3 none, fun x => sm_lk sm_ca3 x, some .boolean) [81, 92, 93] 3 0 [] [] 2000 [] = true := by decide +kernel
def mgh19236 : aw_H := [(81, mgx19230)]
def mgx19237 : aw_A := ms_o [(0, 8)] [(0, 4)] ar_t32 ar_t32 [(0, 180)] [(60, 60)] [(59, 60)] [(1, 8)] [(0, 0)]
def mgh19238 : aw_H := [(81, mgx19237)]
/-- MiceRegistersModel.skip -/
def mgh19239 : aw_H := [(81, mgx19230), (90, .inr (.inl (0, 240, [], [])))]
def mgc1318 : ak_C := (122, [.inl 81], mgh19239, [81], [([], none, mgh19236), ([], none, mgh19238)])
/-- MiceRegistersModel.figure -/
def mgc1319 : ak_C := (125, [.inl 81, .inr (false, [(0, 0)]), .inr (false, [(0, 7)])], mgh18993, [81], [([], some (.inr (false, [(-9, -9)])), mgh18984), ([], some (.inr (false, [(0, 7)])), mgh19078)])
/-- MiceRegistersModel.figure -/
def mgc1320 : ak_C := (125, [.inl 81, .inr (false, [(1, 1)]), .inr (false, [(9, 9)])], mgh19085, [81], [([], some (.inr (false, [(-9, -9)])), mgh19078), ([], some (.inr (false, [(1, 9)])), mgh19162)])
def mgh19240 : aw_H := [(81, mgx19234), (94, mgx5049)]
def mgx19241 : aw_A := ms_o [(0, 8)] [(0, 4)] ar_t32 ar_t32 [(0, 180)] [(58, 58)] [(58, 60)] [(1, 8)] [(1, 1)]
def mgh19242 : aw_H := [(81, mgx19241), (94, mgx5052)]
def mgh19243 : aw_H := [(81, mgx19072), (94, mgx5049)]
/-- MiceRegistersModel.readsMouse -/
def mgh19244 : aw_H := [(81, mgx19234), (90, .inr (.inl (0, 240, [], []))), (94, mgx5049)]
def mgc1321 : ak_C := (127, [.inl 81], mgh19244, [81, 94], [([], some (.inr (false, [(0, 0)])), mgh19240), ([], some (.inr (false, [(1, 1)])), mgh19242), ([], some (.inr (false, [(0, 0)])), mgh19243), ([], some (.inr (false, [(0, 0)])), mgh19171)])
theorem mgk1321 : ai_chk [mgc24, mgc148, mgc1319, mgc1320] mgc1321 (fun pc => sm_ch sm_t127 pc, sm_Kn 3 5 none, fun x => sm_lk sm_ca3 x, some .boolean) [81, 94] 5 0 [] [] 2000 [] = true := by decide +kernel
def mgh19245 : aw_H := [(81, mgx19241)]
def mgx19246 : aw_A := ms_o [(0, 8)] [(0, 4)] ar_t32 ar_t32 [(0, 180)] [(59, 59)] [(58, 60)] [(1, 8)] [(1, 1)]
def mgh19247 : aw_H := [(81, mgx19246)]
def mgx19248 : aw_A := ms_o [(0, 8)] [(0, 4)] ar_t32 ar_t32 [(0, 180)] [(60, 60)] [(58, 60)] [(1, 8)] [(1, 1)]
def mgh19249 : aw_H := [(81, mgx19248)]
/-- MiceRegistersModel.skip -/
def mgh19250 : aw_H := [(81, mgx19241), (90, .inr (.inl (0, 240, [], [])))]
def mgc1322 : ak_C := (122, [.inl 81], mgh19250, [81], [([], none, mgh19245), ([], none, mgh19247), ([], none, mgh19249)])
/-- MiceRegistersModel.readsLine -/
def mgx19251 : aw_A := ms_o [(0, 8)] [(0, 4)] ar_t32 ar_t32 [(0, 180)] [(55, 55)] [(56, 60)] [(1, 8)] [(1, 1)]
def mgh19252 : aw_H := [(81, mgx19251)]
def mgc1323 : ak_C := (124, [.inl 81], mgh19252, [], [([], some (.inr (false, [(0, 0)])), [])])
theorem mgk1323 : ai_chk [] mgc1323 (fun pc => sm_ch sm_t124 pc, sm_Kn 3 3 none, fun x => sm_lk sm_ca3 x, some .boolean) [] 3 0 [] [] 2000 [] = true := by decide +kernel
/-- MiceRegistersModel.figure -/
def mgc1324 : ak_C := (125, [.inl 81, .inr (false, [(0, 0)]), .inr (false, [(0, 7)])], mgh19100, [81], [([], some (.inr (false, [(-9, -9)])), mgh19091), ([], some (.inr (false, [(0, 7)])), mgh19173)])
/-- MiceRegistersModel.figure -/
def mgc1325 : ak_C := (125, [.inl 81, .inr (false, [(1, 1)]), .inr (false, [(9, 9)])], mgh19180, [81], [([], some (.inr (false, [(-9, -9)])), mgh19173), ([], some (.inr (false, [(1, 9)])), mgh19245)])
def mgh19253 : aw_H := [(81, mgx19251), (94, mgx5052)]
def mgx19254 : aw_A := ms_o [(0, 8)] [(0, 4)] ar_t32 ar_t32 [(0, 180)] [(58, 58)] [(58, 60)] [(1, 8)] [(2, 2)]
def mgh19255 : aw_H := [(81, mgx19254), (94, mgx5820)]
/-- MiceRegistersModel.readsMouse -/
def mgh19256 : aw_H := [(81, mgx19251), (90, .inr (.inl (0, 240, [], []))), (94, mgx5052)]
def mgc1326 : ak_C := (127, [.inl 81], mgh19256, [81, 94], [([], some (.inr (false, [(0, 0)])), mgh19253), ([], some (.inr (false, [(1, 1)])), mgh19255), ([], some (.inr (false, [(0, 0)])), mgh19170), ([], some (.inr (false, [(0, 0)])), mgh19088)])
theorem mgk1326 : ai_chk [mgc24, mgc148, mgc1324, mgc1325] mgc1326 (fun pc => sm_ch sm_t127 pc, sm_Kn 3 5 none, fun x => sm_lk sm_ca3 x, some .boolean) [81, 94] 5 0 [] [] 2000 [] = true := by decide +kernel
def mgh19257 : aw_H := [(81, mgx19254)]
def mgx19258 : aw_A := ms_o [(0, 8)] [(0, 4)] ar_t32 ar_t32 [(0, 180)] [(59, 59)] [(58, 60)] [(1, 8)] [(2, 2)]
def mgh19259 : aw_H := [(81, mgx19258)]
def mgx19260 : aw_A := ms_o [(0, 8)] [(0, 4)] ar_t32 ar_t32 [(0, 180)] [(60, 60)] [(58, 60)] [(1, 8)] [(2, 2)]
def mgh19261 : aw_H := [(81, mgx19260)]
/-- MiceRegistersModel.skip -/
def mgh19262 : aw_H := [(81, mgx19254), (90, .inr (.inl (0, 240, [], [])))]
def mgc1327 : ak_C := (122, [.inl 81], mgh19262, [81], [([], none, mgh19257), ([], none, mgh19259), ([], none, mgh19261)])
/-- MiceRegistersModel.readsLine -/
def mgx19263 : aw_A := ms_o [(0, 8)] [(0, 4)] ar_t32 ar_t32 [(0, 180)] [(55, 55)] [(56, 60)] [(1, 8)] [(2, 2)]
def mgh19264 : aw_H := [(81, mgx19263)]
def mgc1328 : ak_C := (124, [.inl 81], mgh19264, [], [([], some (.inr (false, [(0, 0)])), [])])
theorem mgk1328 : ai_chk [] mgc1328 (fun pc => sm_ch sm_t124 pc, sm_Kn 3 3 none, fun x => sm_lk sm_ca3 x, some .boolean) [] 3 0 [] [] 2000 [] = true := by decide +kernel
/-- MiceRegistersModel.figure -/
def mgc1329 : ak_C := (125, [.inl 81, .inr (false, [(0, 0)]), .inr (false, [(0, 7)])], mgh19116, [81], [([], some (.inr (false, [(-9, -9)])), mgh19107), ([], some (.inr (false, [(0, 7)])), mgh19187)])
/-- MiceRegistersModel.figure -/
def mgc1330 : ak_C := (125, [.inl 81, .inr (false, [(1, 1)]), .inr (false, [(9, 9)])], mgh19194, [81], [([], some (.inr (false, [(-9, -9)])), mgh19187), ([], some (.inr (false, [(1, 9)])), mgh19257)])
def mgh19265 : aw_H := [(81, mgx19263), (94, mgx5820)]
def mgx19266 : aw_A := ms_o [(0, 8)] [(0, 4)] ar_t32 ar_t32 [(0, 180)] [(58, 58)] [(58, 60)] [(1, 8)] [(3, 3)]
def mgh19267 : aw_H := [(81, mgx19266), (94, mgx6868)]
/-- MiceRegistersModel.readsMouse -/
def mgh19268 : aw_H := [(81, mgx19263), (90, .inr (.inl (0, 240, [], []))), (94, mgx5820)]
def mgc1331 : ak_C := (127, [.inl 81], mgh19268, [81, 94], [([], some (.inr (false, [(0, 0)])), mgh19265), ([], some (.inr (false, [(1, 1)])), mgh19267), ([], some (.inr (false, [(0, 0)])), mgh19185), ([], some (.inr (false, [(0, 0)])), mgh19105)])
theorem mgk1331 : ai_chk [mgc24, mgc148, mgc1329, mgc1330] mgc1331 (fun pc => sm_ch sm_t127 pc, sm_Kn 3 5 none, fun x => sm_lk sm_ca3 x, some .boolean) [81, 94] 5 0 [] [] 2000 [] = true := by decide +kernel
def mgh19269 : aw_H := [(81, mgx19266)]
def mgx19270 : aw_A := ms_o [(0, 8)] [(0, 4)] ar_t32 ar_t32 [(0, 180)] [(59, 59)] [(58, 60)] [(1, 8)] [(3, 3)]
def mgh19271 : aw_H := [(81, mgx19270)]
def mgx19272 : aw_A := ms_o [(0, 8)] [(0, 4)] ar_t32 ar_t32 [(0, 180)] [(60, 60)] [(58, 60)] [(1, 8)] [(3, 3)]
def mgh19273 : aw_H := [(81, mgx19272)]
/-- MiceRegistersModel.skip -/
def mgh19274 : aw_H := [(81, mgx19266), (90, .inr (.inl (0, 240, [], [])))]
def mgc1332 : ak_C := (122, [.inl 81], mgh19274, [81], [([], none, mgh19269), ([], none, mgh19271), ([], none, mgh19273)])
/-- MiceRegistersModel.readsLine -/
def mgx19275 : aw_A := ms_o [(0, 8)] [(0, 4)] ar_t32 ar_t32 [(0, 180)] [(55, 55)] [(56, 60)] [(1, 8)] [(3, 3)]
def mgh19276 : aw_H := [(81, mgx19275)]
def mgc1333 : ak_C := (124, [.inl 81], mgh19276, [], [([], some (.inr (false, [(0, 0)])), [])])
theorem mgk1333 : ai_chk [] mgc1333 (fun pc => sm_ch sm_t124 pc, sm_Kn 3 3 none, fun x => sm_lk sm_ca3 x, some .boolean) [] 3 0 [] [] 2000 [] = true := by decide +kernel
/-- MiceRegistersModel.figure -/
def mgc1334 : ak_C := (125, [.inl 81, .inr (false, [(0, 0)]), .inr (false, [(0, 7)])], mgh19132, [81], [([], some (.inr (false, [(-9, -9)])), mgh19123), ([], some (.inr (false, [(0, 7)])), mgh19201)])
/-- MiceRegistersModel.figure -/
def mgc1335 : ak_C := (125, [.inl 81, .inr (false, [(1, 1)]), .inr (false, [(9, 9)])], mgh19208, [81], [([], some (.inr (false, [(-9, -9)])), mgh19201), ([], some (.inr (false, [(1, 9)])), mgh19269)])
def mgh19277 : aw_H := [(81, mgx19275), (94, mgx6868)]
def mgx19278 : aw_A := ms_o [(0, 8)] [(0, 4)] ar_t32 ar_t32 [(0, 180)] [(58, 58)] [(58, 60)] [(1, 8)] [(4, 4)]
def mgh19279 : aw_H := [(81, mgx19278), (94, mgx8150)]
/-- MiceRegistersModel.readsMouse -/
def mgh19280 : aw_H := [(81, mgx19275), (90, .inr (.inl (0, 240, [], []))), (94, mgx6868)]
def mgc1336 : ak_C := (127, [.inl 81], mgh19280, [81, 94], [([], some (.inr (false, [(0, 0)])), mgh19277), ([], some (.inr (false, [(1, 1)])), mgh19279), ([], some (.inr (false, [(0, 0)])), mgh19199), ([], some (.inr (false, [(0, 0)])), mgh19121)])
theorem mgk1336 : ai_chk [mgc24, mgc148, mgc1334, mgc1335] mgc1336 (fun pc => sm_ch sm_t127 pc, sm_Kn 3 5 none, fun x => sm_lk sm_ca3 x, some .boolean) [81, 94] 5 0 [] [] 2000 [] = true := by decide +kernel
def mgh19281 : aw_H := [(81, mgx19278)]
def mgx19282 : aw_A := ms_o [(0, 8)] [(0, 4)] ar_t32 ar_t32 [(0, 180)] [(59, 59)] [(58, 60)] [(1, 8)] [(4, 4)]
def mgh19283 : aw_H := [(81, mgx19282)]
def mgx19284 : aw_A := ms_o [(0, 8)] [(0, 4)] ar_t32 ar_t32 [(0, 180)] [(60, 60)] [(58, 60)] [(1, 8)] [(4, 4)]
def mgh19285 : aw_H := [(81, mgx19284)]
/-- MiceRegistersModel.skip -/
def mgh19286 : aw_H := [(81, mgx19278), (90, .inr (.inl (0, 240, [], [])))]
def mgc1337 : ak_C := (122, [.inl 81], mgh19286, [81], [([], none, mgh19281), ([], none, mgh19283), ([], none, mgh19285)])
/-- MiceRegistersModel.readsLine -/
def mgx19287 : aw_A := ms_o [(0, 8)] [(0, 4)] ar_t32 ar_t32 [(0, 180)] [(55, 55)] [(56, 60)] [(1, 8)] [(4, 4)]
def mgh19288 : aw_H := [(81, mgx19287)]
def mgc1338 : ak_C := (124, [.inl 81], mgh19288, [], [([], some (.inr (false, [(0, 0)])), [])])
theorem mgk1338 : ai_chk [] mgc1338 (fun pc => sm_ch sm_t124 pc, sm_Kn 3 3 none, fun x => sm_lk sm_ca3 x, some .boolean) [] 3 0 [] [] 2000 [] = true := by decide +kernel
/-- MiceRegistersModel.readsMouse -/
def mgh19289 : aw_H := [(81, mgx19287), (90, .inr (.inl (0, 240, [], [])))]
def mgc1339 : ak_C := (127, [.inl 81], mgh19289, [], [([], some (.inr (false, [(0, 0)])), [])])
theorem mgk1339 : ai_chk [mgc24, mgc148] mgc1339 (fun pc => sm_ch sm_t127 pc, sm_Kn 3 5 none, fun x => sm_lk sm_ca3 x, some .boolean) [] 5 0 [] [] 2000 [] = true := by decide +kernel
def mgx19290 : aw_A := ms_o [(0, 8)] [(0, 4)] ar_t32 ar_t32 [(0, 180)] [(60, 60)] [(60, 60)] [(0, 7)] [(0, 0)]
def mgh19291 : aw_H := [(81, mgx19290)]
/-- MiceRegistersModel.figure -/
def mgh19292 : aw_H := [(81, mgx19226), (90, .inr (.inl (0, 240, [], [])))]
def mgc1340 : ak_C := (125, [.inl 81, .inr (false, [(0, 0)]), .inr (false, [(9, 9)])], mgh19292, [81], [([], some (.inr (false, [(-9, -9)])), mgh19227), ([], some (.inr (false, [(0, 9)])), mgh19291)])
/-- MiceRegistersModel.twoFigures -/
def mgc1341 : ak_C := (126, [.inl 81, .inr (false, [(1, 1)]), .inr (false, [(40, 40)])], mgh19228, [81], [([], some (.inr (false, [(-9, -9)])), mgh19153), ([], some (.inr (false, [(0, 99)])), mgh19291), ([], some (.inr (false, [(-9, -9)])), mgh19227)])
theorem mgk1341 : ai_chk [mgc1315, mgc1340, mgc144] mgc1341 (fun pc => sm_ch sm_t126 pc, sm_Kn 3 6 none, fun x => sm_lk sm_ca3 x, some .int) [81] 6 0 [] [] 2000 [] = true := by decide +kernel
def mgh19293 : aw_H := [(81, mgx19226), (92, .inr (.inl (0, 8, [], []))), (93, .inr (.inl (0, 8, [], [])))]
def mgx19294 : aw_A := ms_o [(0, 8)] [(0, 4)] ar_t32 ar_t32 [(0, 180)] [(60, 60)] [(60, 60)] [(1, 8)] [(0, 0)]
def mgh19295 : aw_H := [(81, mgx19294), (92, .inr (.inl (0, 8, [], []))), (93, .inr (.inl (0, 8, [], [])))]
def mgx19296 : aw_A := ms_o [(0, 8)] [(0, 4)] ar_t32 ar_t32 [(0, 180)] [(56, 56)] [(57, 60)] [(8, 8)] [(0, 0)]
def mgh19297 : aw_H := [(81, mgx19296), (92, .inr (.inl (0, 8, [], []))), (93, .inr (.inl (0, 8, [], [])))]
/-- MiceRegistersModel.readsLine -/
def mgx19298 : aw_A := ms_o [(0, 8)] [(0, 4)] ar_t32 ar_t32 [(0, 180)] [(56, 56)] [(57, 60)] [(0, 8)] [(0, 0)]
def mgh19299 : aw_H := [(81, mgx19298), (90, .inr (.inl (0, 240, [], []))), (92, .inr (.inl (0, 8, [], []))), (93, .inr (.inl (0, 8, [], [])))]
def mgc1342 : ak_C := (124, [.inl 81], mgh19299, [81, 92, 93], [([], some (.inr (false, [(0, 0)])), mgh19293), ([], some (.inr (false, [(1, 1)])), mgh19295), ([], some (.inr (false, [(0, 0)])), mgh19229), ([], some (.inr (false, [(0, 0)])), mgh19155), ([], some (.inr (false, [(0, 0)])), mgh19297)])
theorem mgk1342 : ai_chk [mgc1290, mgc1341] mgc1342 (fun pc => sm_ch sm_t124 pc, sm_Kn 3 3 none, fun x => sm_lk sm_ca3 x, some .boolean) [81, 92, 93] 3 0 [] [] 2000 [] = true := by decide +kernel
def mgh19300 : aw_H := [(81, mgx19294)]
/-- MiceRegistersModel.skip -/
def mgh19301 : aw_H := [(81, mgx19294), (90, .inr (.inl (0, 240, [], [])))]
def mgc1343 : ak_C := (122, [.inl 81], mgh19301, [81], [([], none, mgh19300)])
/-- MiceRegistersModel.figure -/
def mgc1344 : ak_C := (125, [.inl 81, .inr (false, [(0, 0)]), .inr (false, [(0, 7)])], mgh19085, [81], [([], some (.inr (false, [(-9, -9)])), mgh19078), ([], some (.inr (false, [(0, 7)])), mgh19162)])
/-- MiceRegistersModel.figure -/
def mgc1345 : ak_C := (125, [.inl 81, .inr (false, [(1, 1)]), .inr (false, [(9, 9)])], mgh19167, [81], [([], some (.inr (false, [(-9, -9)])), mgh19162), ([], some (.inr (false, [(1, 9)])), mgh19236)])
def mgh19302 : aw_H := [(81, mgx19298), (94, mgx5049)]
def mgx19303 : aw_A := ms_o [(0, 8)] [(0, 4)] ar_t32 ar_t32 [(0, 180)] [(59, 59)] [(59, 60)] [(1, 8)] [(1, 1)]
def mgh19304 : aw_H := [(81, mgx19303), (94, mgx5052)]
def mgh19305 : aw_H := [(81, mgx19156), (94, mgx5049)]
/-- MiceRegistersModel.readsMouse -/
def mgh19306 : aw_H := [(81, mgx19298), (90, .inr (.inl (0, 240, [], []))), (94, mgx5049)]
def mgc1346 : ak_C := (127, [.inl 81], mgh19306, [81, 94], [([], some (.inr (false, [(0, 0)])), mgh19302), ([], some (.inr (false, [(1, 1)])), mgh19304), ([], some (.inr (false, [(0, 0)])), mgh19305), ([], some (.inr (false, [(0, 0)])), mgh19243)])
theorem mgk1346 : ai_chk [mgc23, mgc148, mgc1344, mgc1345] mgc1346 (fun pc => sm_ch sm_t127 pc, sm_Kn 3 5 none, fun x => sm_lk sm_ca3 x, some .boolean) [81, 94] 5 0 [] [] 2000 [] = true := by decide +kernel
def mgh19307 : aw_H := [(81, mgx19303)]
def mgx19308 : aw_A := ms_o [(0, 8)] [(0, 4)] ar_t32 ar_t32 [(0, 180)] [(60, 60)] [(59, 60)] [(1, 8)] [(1, 1)]
def mgh19309 : aw_H := [(81, mgx19308)]
/-- MiceRegistersModel.skip -/
def mgh19310 : aw_H := [(81, mgx19303), (90, .inr (.inl (0, 240, [], [])))]
def mgc1347 : ak_C := (122, [.inl 81], mgh19310, [81], [([], none, mgh19307), ([], none, mgh19309)])
/-- MiceRegistersModel.readsLine -/
def mgx19311 : aw_A := ms_o [(0, 8)] [(0, 4)] ar_t32 ar_t32 [(0, 180)] [(56, 56)] [(57, 60)] [(1, 8)] [(1, 1)]
def mgh19312 : aw_H := [(81, mgx19311)]
def mgc1348 : ak_C := (124, [.inl 81], mgh19312, [], [([], some (.inr (false, [(0, 0)])), [])])
theorem mgk1348 : ai_chk [] mgc1348 (fun pc => sm_ch sm_t124 pc, sm_Kn 3 3 none, fun x => sm_lk sm_ca3 x, some .boolean) [] 3 0 [] [] 2000 [] = true := by decide +kernel
/-- MiceRegistersModel.figure -/
def mgc1349 : ak_C := (125, [.inl 81, .inr (false, [(0, 0)]), .inr (false, [(0, 7)])], mgh19180, [81], [([], some (.inr (false, [(-9, -9)])), mgh19173), ([], some (.inr (false, [(0, 7)])), mgh19245)])
/-- MiceRegistersModel.figure -/
def mgc1350 : ak_C := (125, [.inl 81, .inr (false, [(1, 1)]), .inr (false, [(9, 9)])], mgh19250, [81], [([], some (.inr (false, [(-9, -9)])), mgh19245), ([], some (.inr (false, [(1, 9)])), mgh19307)])
def mgh19313 : aw_H := [(81, mgx19311), (94, mgx5052)]
def mgx19314 : aw_A := ms_o [(0, 8)] [(0, 4)] ar_t32 ar_t32 [(0, 180)] [(59, 59)] [(59, 60)] [(1, 8)] [(2, 2)]
def mgh19315 : aw_H := [(81, mgx19314), (94, mgx5820)]
/-- MiceRegistersModel.readsMouse -/
def mgh19316 : aw_H := [(81, mgx19311), (90, .inr (.inl (0, 240, [], []))), (94, mgx5052)]
def mgc1351 : ak_C := (127, [.inl 81], mgh19316, [81, 94], [([], some (.inr (false, [(0, 0)])), mgh19313), ([], some (.inr (false, [(1, 1)])), mgh19315), ([], some (.inr (false, [(0, 0)])), mgh19242), ([], some (.inr (false, [(0, 0)])), mgh19170)])
theorem mgk1351 : ai_chk [mgc23, mgc148, mgc1349, mgc1350] mgc1351 (fun pc => sm_ch sm_t127 pc, sm_Kn 3 5 none, fun x => sm_lk sm_ca3 x, some .boolean) [81, 94] 5 0 [] [] 2000 [] = true := by decide +kernel
def mgh19317 : aw_H := [(81, mgx19314)]
def mgx19318 : aw_A := ms_o [(0, 8)] [(0, 4)] ar_t32 ar_t32 [(0, 180)] [(60, 60)] [(59, 60)] [(1, 8)] [(2, 2)]
def mgh19319 : aw_H := [(81, mgx19318)]
/-- MiceRegistersModel.skip -/
def mgh19320 : aw_H := [(81, mgx19314), (90, .inr (.inl (0, 240, [], [])))]
def mgc1352 : ak_C := (122, [.inl 81], mgh19320, [81], [([], none, mgh19317), ([], none, mgh19319)])
/-- MiceRegistersModel.readsLine -/
def mgx19321 : aw_A := ms_o [(0, 8)] [(0, 4)] ar_t32 ar_t32 [(0, 180)] [(56, 56)] [(57, 60)] [(1, 8)] [(2, 2)]
def mgh19322 : aw_H := [(81, mgx19321)]
def mgc1353 : ak_C := (124, [.inl 81], mgh19322, [], [([], some (.inr (false, [(0, 0)])), [])])
theorem mgk1353 : ai_chk [] mgc1353 (fun pc => sm_ch sm_t124 pc, sm_Kn 3 3 none, fun x => sm_lk sm_ca3 x, some .boolean) [] 3 0 [] [] 2000 [] = true := by decide +kernel
/-- MiceRegistersModel.figure -/
def mgc1354 : ak_C := (125, [.inl 81, .inr (false, [(0, 0)]), .inr (false, [(0, 7)])], mgh19194, [81], [([], some (.inr (false, [(-9, -9)])), mgh19187), ([], some (.inr (false, [(0, 7)])), mgh19257)])
/-- MiceRegistersModel.figure -/
def mgc1355 : ak_C := (125, [.inl 81, .inr (false, [(1, 1)]), .inr (false, [(9, 9)])], mgh19262, [81], [([], some (.inr (false, [(-9, -9)])), mgh19257), ([], some (.inr (false, [(1, 9)])), mgh19317)])
def mgh19323 : aw_H := [(81, mgx19321), (94, mgx5820)]
def mgx19324 : aw_A := ms_o [(0, 8)] [(0, 4)] ar_t32 ar_t32 [(0, 180)] [(59, 59)] [(59, 60)] [(1, 8)] [(3, 3)]
def mgh19325 : aw_H := [(81, mgx19324), (94, mgx6868)]
/-- MiceRegistersModel.readsMouse -/
def mgh19326 : aw_H := [(81, mgx19321), (90, .inr (.inl (0, 240, [], []))), (94, mgx5820)]
def mgc1356 : ak_C := (127, [.inl 81], mgh19326, [81, 94], [([], some (.inr (false, [(0, 0)])), mgh19323), ([], some (.inr (false, [(1, 1)])), mgh19325), ([], some (.inr (false, [(0, 0)])), mgh19255), ([], some (.inr (false, [(0, 0)])), mgh19185)])
theorem mgk1356 : ai_chk [mgc23, mgc148, mgc1354, mgc1355] mgc1356 (fun pc => sm_ch sm_t127 pc, sm_Kn 3 5 none, fun x => sm_lk sm_ca3 x, some .boolean) [81, 94] 5 0 [] [] 2000 [] = true := by decide +kernel
def mgh19327 : aw_H := [(81, mgx19324)]
def mgx19328 : aw_A := ms_o [(0, 8)] [(0, 4)] ar_t32 ar_t32 [(0, 180)] [(60, 60)] [(59, 60)] [(1, 8)] [(3, 3)]
def mgh19329 : aw_H := [(81, mgx19328)]
/-- MiceRegistersModel.skip -/
def mgh19330 : aw_H := [(81, mgx19324), (90, .inr (.inl (0, 240, [], [])))]
def mgc1357 : ak_C := (122, [.inl 81], mgh19330, [81], [([], none, mgh19327), ([], none, mgh19329)])
/-- MiceRegistersModel.readsLine -/
def mgx19331 : aw_A := ms_o [(0, 8)] [(0, 4)] ar_t32 ar_t32 [(0, 180)] [(56, 56)] [(57, 60)] [(1, 8)] [(3, 3)]
def mgh19332 : aw_H := [(81, mgx19331)]
def mgc1358 : ak_C := (124, [.inl 81], mgh19332, [], [([], some (.inr (false, [(0, 0)])), [])])
theorem mgk1358 : ai_chk [] mgc1358 (fun pc => sm_ch sm_t124 pc, sm_Kn 3 3 none, fun x => sm_lk sm_ca3 x, some .boolean) [] 3 0 [] [] 2000 [] = true := by decide +kernel
/-- MiceRegistersModel.figure -/
def mgc1359 : ak_C := (125, [.inl 81, .inr (false, [(0, 0)]), .inr (false, [(0, 7)])], mgh19208, [81], [([], some (.inr (false, [(-9, -9)])), mgh19201), ([], some (.inr (false, [(0, 7)])), mgh19269)])
/-- MiceRegistersModel.figure -/
def mgc1360 : ak_C := (125, [.inl 81, .inr (false, [(1, 1)]), .inr (false, [(9, 9)])], mgh19274, [81], [([], some (.inr (false, [(-9, -9)])), mgh19269), ([], some (.inr (false, [(1, 9)])), mgh19327)])
def mgh19333 : aw_H := [(81, mgx19331), (94, mgx6868)]
def mgx19334 : aw_A := ms_o [(0, 8)] [(0, 4)] ar_t32 ar_t32 [(0, 180)] [(59, 59)] [(59, 60)] [(1, 8)] [(4, 4)]
def mgh19335 : aw_H := [(81, mgx19334), (94, mgx8150)]
/-- MiceRegistersModel.readsMouse -/
def mgh19336 : aw_H := [(81, mgx19331), (90, .inr (.inl (0, 240, [], []))), (94, mgx6868)]
def mgc1361 : ak_C := (127, [.inl 81], mgh19336, [81, 94], [([], some (.inr (false, [(0, 0)])), mgh19333), ([], some (.inr (false, [(1, 1)])), mgh19335), ([], some (.inr (false, [(0, 0)])), mgh19267), ([], some (.inr (false, [(0, 0)])), mgh19199)])
theorem mgk1361 : ai_chk [mgc23, mgc148, mgc1359, mgc1360] mgc1361 (fun pc => sm_ch sm_t127 pc, sm_Kn 3 5 none, fun x => sm_lk sm_ca3 x, some .boolean) [81, 94] 5 0 [] [] 2000 [] = true := by decide +kernel
def mgh19337 : aw_H := [(81, mgx19334)]
def mgx19338 : aw_A := ms_o [(0, 8)] [(0, 4)] ar_t32 ar_t32 [(0, 180)] [(60, 60)] [(59, 60)] [(1, 8)] [(4, 4)]
def mgh19339 : aw_H := [(81, mgx19338)]
/-- MiceRegistersModel.skip -/
def mgh19340 : aw_H := [(81, mgx19334), (90, .inr (.inl (0, 240, [], [])))]
def mgc1362 : ak_C := (122, [.inl 81], mgh19340, [81], [([], none, mgh19337), ([], none, mgh19339)])
/-- MiceRegistersModel.readsLine -/
def mgx19341 : aw_A := ms_o [(0, 8)] [(0, 4)] ar_t32 ar_t32 [(0, 180)] [(56, 56)] [(57, 60)] [(1, 8)] [(4, 4)]
def mgh19342 : aw_H := [(81, mgx19341)]
def mgc1363 : ak_C := (124, [.inl 81], mgh19342, [], [([], some (.inr (false, [(0, 0)])), [])])
theorem mgk1363 : ai_chk [] mgc1363 (fun pc => sm_ch sm_t124 pc, sm_Kn 3 3 none, fun x => sm_lk sm_ca3 x, some .boolean) [] 3 0 [] [] 2000 [] = true := by decide +kernel
/-- MiceRegistersModel.readsMouse -/
def mgh19343 : aw_H := [(81, mgx19341), (90, .inr (.inl (0, 240, [], [])))]
def mgc1364 : ak_C := (127, [.inl 81], mgh19343, [], [([], some (.inr (false, [(0, 0)])), [])])
theorem mgk1364 : ai_chk [mgc23, mgc148] mgc1364 (fun pc => sm_ch sm_t127 pc, sm_Kn 3 5 none, fun x => sm_lk sm_ca3 x, some .boolean) [] 5 0 [] [] 2000 [] = true := by decide +kernel
/-- MiceRegistersModel.figure -/
def mgh19344 : aw_H := [(81, mgx19290), (90, .inr (.inl (0, 240, [], [])))]
def mgc1365 : ak_C := (125, [.inl 81, .inr (false, [(0, 0)]), .inr (false, [(9, 9)])], mgh19344, [81], [([], some (.inr (false, [(-9, -9)])), mgh19291)])
/-- MiceRegistersModel.twoFigures -/
def mgc1366 : ak_C := (126, [.inl 81, .inr (false, [(1, 1)]), .inr (false, [(40, 40)])], mgh19292, [81], [([], some (.inr (false, [(-9, -9)])), mgh19291), ([], some (.inr (false, [(-9, -9)])), mgh19227)])
theorem mgk1366 : ai_chk [mgc1340, mgc1365] mgc1366 (fun pc => sm_ch sm_t126 pc, sm_Kn 3 6 none, fun x => sm_lk sm_ca3 x, some .int) [81] 6 0 [] [] 2000 [] = true := by decide +kernel
def mgx19345 : aw_A := ms_o [(0, 8)] [(0, 4)] ar_t32 ar_t32 [(0, 180)] [(57, 57)] [(58, 60)] [(8, 8)] [(0, 0)]
def mgh19346 : aw_H := [(81, mgx19345)]
/-- MiceRegistersModel.readsLine -/
def mgx19347 : aw_A := ms_o [(0, 8)] [(0, 4)] ar_t32 ar_t32 [(0, 180)] [(57, 57)] [(58, 60)] [(0, 8)] [(0, 0)]
def mgh19348 : aw_H := [(81, mgx19347), (90, .inr (.inl (0, 240, [], [])))]
def mgc1367 : ak_C := (124, [.inl 81], mgh19348, [81], [([], some (.inr (false, [(0, 0)])), mgh19227), ([], some (.inr (false, [(0, 0)])), mgh19291), ([], some (.inr (false, [(0, 0)])), mgh19153), ([], some (.inr (false, [(0, 0)])), mgh19346)])
theorem mgk1367 : ai_chk [mgc1315, mgc1366] mgc1367 (fun pc => sm_ch sm_t124 pc, sm_Kn 3 3 none, fun x => sm_lk sm_ca3 x, some .boolean) [81] 3 0 [] [] 2000 [] = true := by decide +kernel
/-- MiceRegistersModel.figure -/
def mgc1368 : ak_C := (125, [.inl 81, .inr (false, [(0, 0)]), .inr (false, [(0, 7)])], mgh19167, [81], [([], some (.inr (false, [(-9, -9)])), mgh19162), ([], some (.inr (false, [(0, 7)])), mgh19236)])
/-- MiceRegistersModel.figure -/
def mgc1369 : ak_C := (125, [.inl 81, .inr (false, [(1, 1)]), .inr (false, [(9, 9)])], mgh19239, [81], [([], some (.inr (false, [(-9, -9)])), mgh19236), ([], some (.inr (false, [(1, 9)])), mgh19300)])
def mgh19349 : aw_H := [(81, mgx19347), (94, mgx5049)]
def mgx19350 : aw_A := ms_o [(0, 8)] [(0, 4)] ar_t32 ar_t32 [(0, 180)] [(60, 60)] [(60, 60)] [(1, 8)] [(1, 1)]
def mgh19351 : aw_H := [(81, mgx19350), (94, mgx5052)]
def mgh19352 : aw_H := [(81, mgx19230), (94, mgx5049)]
/-- MiceRegistersModel.readsMouse -/
def mgh19353 : aw_H := [(81, mgx19347), (90, .inr (.inl (0, 240, [], []))), (94, mgx5049)]
def mgc1370 : ak_C := (127, [.inl 81], mgh19353, [81, 94], [([], some (.inr (false, [(0, 0)])), mgh19349), ([], some (.inr (false, [(1, 1)])), mgh19351), ([], some (.inr (false, [(0, 0)])), mgh19352), ([], some (.inr (false, [(0, 0)])), mgh19305)])
theorem mgk1370 : ai_chk [mgc22, mgc148, mgc1368, mgc1369] mgc1370 (fun pc => sm_ch sm_t127 pc, sm_Kn 3 5 none, fun x => sm_lk sm_ca3 x, some .boolean) [81, 94] 5 0 [] [] 2000 [] = true := by decide +kernel
def mgh19354 : aw_H := [(81, mgx19350)]
/-- MiceRegistersModel.skip -/
def mgh19355 : aw_H := [(81, mgx19350), (90, .inr (.inl (0, 240, [], [])))]
def mgc1371 : ak_C := (122, [.inl 81], mgh19355, [81], [([], none, mgh19354)])
/-- MiceRegistersModel.readsLine -/
def mgx19356 : aw_A := ms_o [(0, 8)] [(0, 4)] ar_t32 ar_t32 [(0, 180)] [(57, 57)] [(58, 60)] [(1, 8)] [(1, 1)]
def mgh19357 : aw_H := [(81, mgx19356)]
def mgc1372 : ak_C := (124, [.inl 81], mgh19357, [], [([], some (.inr (false, [(0, 0)])), [])])
theorem mgk1372 : ai_chk [] mgc1372 (fun pc => sm_ch sm_t124 pc, sm_Kn 3 3 none, fun x => sm_lk sm_ca3 x, some .boolean) [] 3 0 [] [] 2000 [] = true := by decide +kernel
/-- MiceRegistersModel.figure -/
def mgc1373 : ak_C := (125, [.inl 81, .inr (false, [(0, 0)]), .inr (false, [(0, 7)])], mgh19250, [81], [([], some (.inr (false, [(-9, -9)])), mgh19245), ([], some (.inr (false, [(0, 7)])), mgh19307)])
/-- MiceRegistersModel.figure -/
def mgc1374 : ak_C := (125, [.inl 81, .inr (false, [(1, 1)]), .inr (false, [(9, 9)])], mgh19310, [81], [([], some (.inr (false, [(-9, -9)])), mgh19307), ([], some (.inr (false, [(1, 9)])), mgh19354)])
def mgh19358 : aw_H := [(81, mgx19356), (94, mgx5052)]
def mgx19359 : aw_A := ms_o [(0, 8)] [(0, 4)] ar_t32 ar_t32 [(0, 180)] [(60, 60)] [(60, 60)] [(1, 8)] [(2, 2)]
def mgh19360 : aw_H := [(81, mgx19359), (94, mgx5820)]
/-- MiceRegistersModel.readsMouse -/
def mgh19361 : aw_H := [(81, mgx19356), (90, .inr (.inl (0, 240, [], []))), (94, mgx5052)]
def mgc1375 : ak_C := (127, [.inl 81], mgh19361, [81, 94], [([], some (.inr (false, [(0, 0)])), mgh19358), ([], some (.inr (false, [(1, 1)])), mgh19360), ([], some (.inr (false, [(0, 0)])), mgh19304), ([], some (.inr (false, [(0, 0)])), mgh19242)])
theorem mgk1375 : ai_chk [mgc22, mgc148, mgc1373, mgc1374] mgc1375 (fun pc => sm_ch sm_t127 pc, sm_Kn 3 5 none, fun x => sm_lk sm_ca3 x, some .boolean) [81, 94] 5 0 [] [] 2000 [] = true := by decide +kernel
def mgh19362 : aw_H := [(81, mgx19359)]
/-- MiceRegistersModel.skip -/
def mgh19363 : aw_H := [(81, mgx19359), (90, .inr (.inl (0, 240, [], [])))]
def mgc1376 : ak_C := (122, [.inl 81], mgh19363, [81], [([], none, mgh19362)])
/-- MiceRegistersModel.readsLine -/
def mgx19364 : aw_A := ms_o [(0, 8)] [(0, 4)] ar_t32 ar_t32 [(0, 180)] [(57, 57)] [(58, 60)] [(1, 8)] [(2, 2)]
def mgh19365 : aw_H := [(81, mgx19364)]
def mgc1377 : ak_C := (124, [.inl 81], mgh19365, [], [([], some (.inr (false, [(0, 0)])), [])])
theorem mgk1377 : ai_chk [] mgc1377 (fun pc => sm_ch sm_t124 pc, sm_Kn 3 3 none, fun x => sm_lk sm_ca3 x, some .boolean) [] 3 0 [] [] 2000 [] = true := by decide +kernel
/-- MiceRegistersModel.figure -/
def mgc1378 : ak_C := (125, [.inl 81, .inr (false, [(0, 0)]), .inr (false, [(0, 7)])], mgh19262, [81], [([], some (.inr (false, [(-9, -9)])), mgh19257), ([], some (.inr (false, [(0, 7)])), mgh19317)])
/-- MiceRegistersModel.figure -/
def mgc1379 : ak_C := (125, [.inl 81, .inr (false, [(1, 1)]), .inr (false, [(9, 9)])], mgh19320, [81], [([], some (.inr (false, [(-9, -9)])), mgh19317), ([], some (.inr (false, [(1, 9)])), mgh19362)])
def mgh19366 : aw_H := [(81, mgx19364), (94, mgx5820)]
def mgx19367 : aw_A := ms_o [(0, 8)] [(0, 4)] ar_t32 ar_t32 [(0, 180)] [(60, 60)] [(60, 60)] [(1, 8)] [(3, 3)]
def mgh19368 : aw_H := [(81, mgx19367), (94, mgx6868)]
/-- MiceRegistersModel.readsMouse -/
def mgh19369 : aw_H := [(81, mgx19364), (90, .inr (.inl (0, 240, [], []))), (94, mgx5820)]
def mgc1380 : ak_C := (127, [.inl 81], mgh19369, [81, 94], [([], some (.inr (false, [(0, 0)])), mgh19366), ([], some (.inr (false, [(1, 1)])), mgh19368), ([], some (.inr (false, [(0, 0)])), mgh19315), ([], some (.inr (false, [(0, 0)])), mgh19255)])
theorem mgk1380 : ai_chk [mgc22, mgc148, mgc1378, mgc1379] mgc1380 (fun pc => sm_ch sm_t127 pc, sm_Kn 3 5 none, fun x => sm_lk sm_ca3 x, some .boolean) [81, 94] 5 0 [] [] 2000 [] = true := by decide +kernel
def mgh19370 : aw_H := [(81, mgx19367)]
/-- MiceRegistersModel.skip -/
def mgh19371 : aw_H := [(81, mgx19367), (90, .inr (.inl (0, 240, [], [])))]
def mgc1381 : ak_C := (122, [.inl 81], mgh19371, [81], [([], none, mgh19370)])
/-- MiceRegistersModel.readsLine -/
def mgx19372 : aw_A := ms_o [(0, 8)] [(0, 4)] ar_t32 ar_t32 [(0, 180)] [(57, 57)] [(58, 60)] [(1, 8)] [(3, 3)]
def mgh19373 : aw_H := [(81, mgx19372)]
def mgc1382 : ak_C := (124, [.inl 81], mgh19373, [], [([], some (.inr (false, [(0, 0)])), [])])
theorem mgk1382 : ai_chk [] mgc1382 (fun pc => sm_ch sm_t124 pc, sm_Kn 3 3 none, fun x => sm_lk sm_ca3 x, some .boolean) [] 3 0 [] [] 2000 [] = true := by decide +kernel
/-- MiceRegistersModel.figure -/
def mgc1383 : ak_C := (125, [.inl 81, .inr (false, [(0, 0)]), .inr (false, [(0, 7)])], mgh19274, [81], [([], some (.inr (false, [(-9, -9)])), mgh19269), ([], some (.inr (false, [(0, 7)])), mgh19327)])
/-- MiceRegistersModel.figure -/
def mgc1384 : ak_C := (125, [.inl 81, .inr (false, [(1, 1)]), .inr (false, [(9, 9)])], mgh19330, [81], [([], some (.inr (false, [(-9, -9)])), mgh19327), ([], some (.inr (false, [(1, 9)])), mgh19370)])
def mgh19374 : aw_H := [(81, mgx19372), (94, mgx6868)]
def mgx19375 : aw_A := ms_o [(0, 8)] [(0, 4)] ar_t32 ar_t32 [(0, 180)] [(60, 60)] [(60, 60)] [(1, 8)] [(4, 4)]
def mgh19376 : aw_H := [(81, mgx19375), (94, mgx8150)]
/-- MiceRegistersModel.readsMouse -/
def mgh19377 : aw_H := [(81, mgx19372), (90, .inr (.inl (0, 240, [], []))), (94, mgx6868)]
def mgc1385 : ak_C := (127, [.inl 81], mgh19377, [81, 94], [([], some (.inr (false, [(0, 0)])), mgh19374), ([], some (.inr (false, [(1, 1)])), mgh19376), ([], some (.inr (false, [(0, 0)])), mgh19325), ([], some (.inr (false, [(0, 0)])), mgh19267)])
theorem mgk1385 : ai_chk [mgc22, mgc148, mgc1383, mgc1384] mgc1385 (fun pc => sm_ch sm_t127 pc, sm_Kn 3 5 none, fun x => sm_lk sm_ca3 x, some .boolean) [81, 94] 5 0 [] [] 2000 [] = true := by decide +kernel
def mgh19378 : aw_H := [(81, mgx19375)]
/-- MiceRegistersModel.skip -/
def mgh19379 : aw_H := [(81, mgx19375), (90, .inr (.inl (0, 240, [], [])))]
def mgc1386 : ak_C := (122, [.inl 81], mgh19379, [81], [([], none, mgh19378)])
/-- MiceRegistersModel.readsLine -/
def mgx19380 : aw_A := ms_o [(0, 8)] [(0, 4)] ar_t32 ar_t32 [(0, 180)] [(57, 57)] [(58, 60)] [(1, 8)] [(4, 4)]
def mgh19381 : aw_H := [(81, mgx19380)]
def mgc1387 : ak_C := (124, [.inl 81], mgh19381, [], [([], some (.inr (false, [(0, 0)])), [])])
theorem mgk1387 : ai_chk [] mgc1387 (fun pc => sm_ch sm_t124 pc, sm_Kn 3 3 none, fun x => sm_lk sm_ca3 x, some .boolean) [] 3 0 [] [] 2000 [] = true := by decide +kernel
/-- MiceRegistersModel.readsMouse -/
def mgh19382 : aw_H := [(81, mgx19380), (90, .inr (.inl (0, 240, [], [])))]
def mgc1388 : ak_C := (127, [.inl 81], mgh19382, [], [([], some (.inr (false, [(0, 0)])), [])])
theorem mgk1388 : ai_chk [mgc22, mgc148] mgc1388 (fun pc => sm_ch sm_t127 pc, sm_Kn 3 5 none, fun x => sm_lk sm_ca3 x, some .boolean) [] 5 0 [] [] 2000 [] = true := by decide +kernel
/-- MiceRegistersModel.twoFigures -/
def mgc1389 : ak_C := (126, [.inl 81, .inr (false, [(1, 1)]), .inr (false, [(40, 40)])], mgh19344, [81], [([], some (.inr (false, [(-9, -9)])), mgh19291)])
theorem mgk1389 : ai_chk [mgc1365] mgc1389 (fun pc => sm_ch sm_t126 pc, sm_Kn 3 6 none, fun x => sm_lk sm_ca3 x, some .int) [81] 6 0 [] [] 2000 [] = true := by decide +kernel
def mgx19383 : aw_A := ms_o [(0, 8)] [(0, 4)] ar_t32 ar_t32 [(0, 180)] [(58, 58)] [(59, 60)] [(8, 8)] [(0, 0)]
def mgh19384 : aw_H := [(81, mgx19383)]
/-- MiceRegistersModel.readsLine -/
def mgx19385 : aw_A := ms_o [(0, 8)] [(0, 4)] ar_t32 ar_t32 [(0, 180)] [(58, 58)] [(59, 60)] [(0, 8)] [(0, 0)]
def mgh19386 : aw_H := [(81, mgx19385), (90, .inr (.inl (0, 240, [], [])))]
def mgc1390 : ak_C := (124, [.inl 81], mgh19386, [81], [([], some (.inr (false, [(0, 0)])), mgh19291), ([], some (.inr (false, [(0, 0)])), mgh19227), ([], some (.inr (false, [(0, 0)])), mgh19384)])
theorem mgk1390 : ai_chk [mgc1340, mgc1389] mgc1390 (fun pc => sm_ch sm_t124 pc, sm_Kn 3 3 none, fun x => sm_lk sm_ca3 x, some .boolean) [81] 3 0 [] [] 2000 [] = true := by decide +kernel
/-- MiceRegistersModel.figure -/
def mgc1391 : ak_C := (125, [.inl 81, .inr (false, [(0, 0)]), .inr (false, [(0, 7)])], mgh19239, [81], [([], some (.inr (false, [(-9, -9)])), mgh19236), ([], some (.inr (false, [(0, 7)])), mgh19300)])
/-- MiceRegistersModel.figure -/
def mgc1392 : ak_C := (125, [.inl 81, .inr (false, [(1, 1)]), .inr (false, [(9, 9)])], mgh19301, [81], [([], some (.inr (false, [(-9, -9)])), mgh19300)])
def mgh19387 : aw_H := [(81, mgx19385)]
/-- MiceRegistersModel.readsMouse -/
def mgc1393 : ak_C := (127, [.inl 81], mgh19386, [81], [([], some (.inr (false, [(0, 0)])), mgh19387), ([], some (.inr (false, [(0, 0)])), mgh19300), ([], some (.inr (false, [(0, 0)])), mgh19236)])
theorem mgk1393 : ai_chk [mgc21, mgc148, mgc1391, mgc1392] mgc1393 (fun pc => sm_ch sm_t127 pc, sm_Kn 3 5 none, fun x => sm_lk sm_ca3 x, some .boolean) [81] 5 0 [] [] 2000 [] = true := by decide +kernel
/-- MiceRegistersModel.readsLine -/
def mgx19388 : aw_A := ms_o [(0, 8)] [(0, 4)] ar_t32 ar_t32 [(0, 180)] [(58, 58)] [(59, 60)] [(1, 8)] [(1, 1)]
def mgh19389 : aw_H := [(81, mgx19388)]
def mgc1394 : ak_C := (124, [.inl 81], mgh19389, [], [([], some (.inr (false, [(0, 0)])), [])])
theorem mgk1394 : ai_chk [] mgc1394 (fun pc => sm_ch sm_t124 pc, sm_Kn 3 3 none, fun x => sm_lk sm_ca3 x, some .boolean) [] 3 0 [] [] 2000 [] = true := by decide +kernel
/-- MiceRegistersModel.figure -/
def mgc1395 : ak_C := (125, [.inl 81, .inr (false, [(0, 0)]), .inr (false, [(0, 7)])], mgh19310, [81], [([], some (.inr (false, [(-9, -9)])), mgh19307), ([], some (.inr (false, [(0, 7)])), mgh19354)])
/-- MiceRegistersModel.figure -/
def mgc1396 : ak_C := (125, [.inl 81, .inr (false, [(1, 1)]), .inr (false, [(9, 9)])], mgh19355, [81], [([], some (.inr (false, [(-9, -9)])), mgh19354)])
/-- MiceRegistersModel.readsMouse -/
def mgh19390 : aw_H := [(81, mgx19388), (90, .inr (.inl (0, 240, [], [])))]
def mgc1397 : ak_C := (127, [.inl 81], mgh19390, [81], [([], some (.inr (false, [(0, 0)])), mgh19389), ([], some (.inr (false, [(0, 0)])), mgh19354), ([], some (.inr (false, [(0, 0)])), mgh19307)])
theorem mgk1397 : ai_chk [mgc21, mgc148, mgc1395, mgc1396] mgc1397 (fun pc => sm_ch sm_t127 pc, sm_Kn 3 5 none, fun x => sm_lk sm_ca3 x, some .boolean) [81] 5 0 [] [] 2000 [] = true := by decide +kernel
/-- MiceRegistersModel.readsLine -/
def mgx19391 : aw_A := ms_o [(0, 8)] [(0, 4)] ar_t32 ar_t32 [(0, 180)] [(58, 58)] [(59, 60)] [(1, 8)] [(2, 2)]
def mgh19392 : aw_H := [(81, mgx19391)]
def mgc1398 : ak_C := (124, [.inl 81], mgh19392, [], [([], some (.inr (false, [(0, 0)])), [])])
theorem mgk1398 : ai_chk [] mgc1398 (fun pc => sm_ch sm_t124 pc, sm_Kn 3 3 none, fun x => sm_lk sm_ca3 x, some .boolean) [] 3 0 [] [] 2000 [] = true := by decide +kernel
/-- MiceRegistersModel.figure -/
def mgc1399 : ak_C := (125, [.inl 81, .inr (false, [(0, 0)]), .inr (false, [(0, 7)])], mgh19320, [81], [([], some (.inr (false, [(-9, -9)])), mgh19317), ([], some (.inr (false, [(0, 7)])), mgh19362)])
/-- MiceRegistersModel.figure -/
def mgc1400 : ak_C := (125, [.inl 81, .inr (false, [(1, 1)]), .inr (false, [(9, 9)])], mgh19363, [81], [([], some (.inr (false, [(-9, -9)])), mgh19362)])
/-- MiceRegistersModel.readsMouse -/
def mgh19393 : aw_H := [(81, mgx19391), (90, .inr (.inl (0, 240, [], [])))]
def mgc1401 : ak_C := (127, [.inl 81], mgh19393, [81], [([], some (.inr (false, [(0, 0)])), mgh19392), ([], some (.inr (false, [(0, 0)])), mgh19362), ([], some (.inr (false, [(0, 0)])), mgh19317)])
theorem mgk1401 : ai_chk [mgc21, mgc148, mgc1399, mgc1400] mgc1401 (fun pc => sm_ch sm_t127 pc, sm_Kn 3 5 none, fun x => sm_lk sm_ca3 x, some .boolean) [81] 5 0 [] [] 2000 [] = true := by decide +kernel
/-- MiceRegistersModel.readsLine -/
def mgx19394 : aw_A := ms_o [(0, 8)] [(0, 4)] ar_t32 ar_t32 [(0, 180)] [(58, 58)] [(59, 60)] [(1, 8)] [(3, 3)]
def mgh19395 : aw_H := [(81, mgx19394)]
def mgc1402 : ak_C := (124, [.inl 81], mgh19395, [], [([], some (.inr (false, [(0, 0)])), [])])
theorem mgk1402 : ai_chk [] mgc1402 (fun pc => sm_ch sm_t124 pc, sm_Kn 3 3 none, fun x => sm_lk sm_ca3 x, some .boolean) [] 3 0 [] [] 2000 [] = true := by decide +kernel
/-- MiceRegistersModel.figure -/
def mgc1403 : ak_C := (125, [.inl 81, .inr (false, [(0, 0)]), .inr (false, [(0, 7)])], mgh19330, [81], [([], some (.inr (false, [(-9, -9)])), mgh19327), ([], some (.inr (false, [(0, 7)])), mgh19370)])
/-- MiceRegistersModel.figure -/
def mgc1404 : ak_C := (125, [.inl 81, .inr (false, [(1, 1)]), .inr (false, [(9, 9)])], mgh19371, [81], [([], some (.inr (false, [(-9, -9)])), mgh19370)])
/-- MiceRegistersModel.readsMouse -/
def mgh19396 : aw_H := [(81, mgx19394), (90, .inr (.inl (0, 240, [], [])))]
def mgc1405 : ak_C := (127, [.inl 81], mgh19396, [81], [([], some (.inr (false, [(0, 0)])), mgh19395), ([], some (.inr (false, [(0, 0)])), mgh19370), ([], some (.inr (false, [(0, 0)])), mgh19327)])
theorem mgk1405 : ai_chk [mgc21, mgc148, mgc1403, mgc1404] mgc1405 (fun pc => sm_ch sm_t127 pc, sm_Kn 3 5 none, fun x => sm_lk sm_ca3 x, some .boolean) [81] 5 0 [] [] 2000 [] = true := by decide +kernel
/-- MiceRegistersModel.readsLine -/
def mgx19397 : aw_A := ms_o [(0, 8)] [(0, 4)] ar_t32 ar_t32 [(0, 180)] [(58, 58)] [(59, 60)] [(1, 8)] [(4, 4)]
def mgh19398 : aw_H := [(81, mgx19397)]
def mgc1406 : ak_C := (124, [.inl 81], mgh19398, [], [([], some (.inr (false, [(0, 0)])), [])])
theorem mgk1406 : ai_chk [] mgc1406 (fun pc => sm_ch sm_t124 pc, sm_Kn 3 3 none, fun x => sm_lk sm_ca3 x, some .boolean) [] 3 0 [] [] 2000 [] = true := by decide +kernel
/-- MiceRegistersModel.readsMouse -/
def mgh19399 : aw_H := [(81, mgx19397), (90, .inr (.inl (0, 240, [], [])))]
def mgc1407 : ak_C := (127, [.inl 81], mgh19399, [], [([], some (.inr (false, [(0, 0)])), [])])
theorem mgk1407 : ai_chk [mgc21, mgc148] mgc1407 (fun pc => sm_ch sm_t127 pc, sm_Kn 3 5 none, fun x => sm_lk sm_ca3 x, some .boolean) [] 5 0 [] [] 2000 [] = true := by decide +kernel
def mgx19400 : aw_A := ms_o [(0, 8)] [(0, 4)] ar_t32 ar_t32 [(0, 180)] [(59, 59)] [(60, 60)] [(8, 8)] [(0, 0)]
def mgh19401 : aw_H := [(81, mgx19400)]
/-- MiceRegistersModel.readsLine -/
def mgx19402 : aw_A := ms_o [(0, 8)] [(0, 4)] ar_t32 ar_t32 [(0, 180)] [(59, 59)] [(60, 60)] [(0, 8)] [(0, 0)]
def mgh19403 : aw_H := [(81, mgx19402), (90, .inr (.inl (0, 240, [], [])))]
def mgc1408 : ak_C := (124, [.inl 81], mgh19403, [81], [([], some (.inr (false, [(0, 0)])), mgh19291), ([], some (.inr (false, [(0, 0)])), mgh19401)])
theorem mgk1408 : ai_chk [mgc1365] mgc1408 (fun pc => sm_ch sm_t124 pc, sm_Kn 3 3 none, fun x => sm_lk sm_ca3 x, some .boolean) [81] 3 0 [] [] 2000 [] = true := by decide +kernel
/-- MiceRegistersModel.figure -/
def mgc1409 : ak_C := (125, [.inl 81, .inr (false, [(0, 0)]), .inr (false, [(0, 7)])], mgh19301, [81], [([], some (.inr (false, [(-9, -9)])), mgh19300)])
def mgh19404 : aw_H := [(81, mgx19402)]
/-- MiceRegistersModel.readsMouse -/
def mgc1410 : ak_C := (127, [.inl 81], mgh19403, [81], [([], some (.inr (false, [(0, 0)])), mgh19404), ([], some (.inr (false, [(0, 0)])), mgh19300)])
theorem mgk1410 : ai_chk [mgc20, mgc148, mgc1409] mgc1410 (fun pc => sm_ch sm_t127 pc, sm_Kn 3 5 none, fun x => sm_lk sm_ca3 x, some .boolean) [81] 5 0 [] [] 2000 [] = true := by decide +kernel
/-- MiceRegistersModel.readsLine -/
def mgx19405 : aw_A := ms_o [(0, 8)] [(0, 4)] ar_t32 ar_t32 [(0, 180)] [(59, 59)] [(60, 60)] [(1, 8)] [(1, 1)]
def mgh19406 : aw_H := [(81, mgx19405)]
def mgc1411 : ak_C := (124, [.inl 81], mgh19406, [], [([], some (.inr (false, [(0, 0)])), [])])
theorem mgk1411 : ai_chk [] mgc1411 (fun pc => sm_ch sm_t124 pc, sm_Kn 3 3 none, fun x => sm_lk sm_ca3 x, some .boolean) [] 3 0 [] [] 2000 [] = true := by decide +kernel
/-- MiceRegistersModel.figure -/
def mgc1412 : ak_C := (125, [.inl 81, .inr (false, [(0, 0)]), .inr (false, [(0, 7)])], mgh19355, [81], [([], some (.inr (false, [(-9, -9)])), mgh19354)])
/-- MiceRegistersModel.readsMouse -/
def mgh19407 : aw_H := [(81, mgx19405), (90, .inr (.inl (0, 240, [], [])))]
def mgc1413 : ak_C := (127, [.inl 81], mgh19407, [81], [([], some (.inr (false, [(0, 0)])), mgh19406), ([], some (.inr (false, [(0, 0)])), mgh19354)])
theorem mgk1413 : ai_chk [mgc20, mgc148, mgc1412] mgc1413 (fun pc => sm_ch sm_t127 pc, sm_Kn 3 5 none, fun x => sm_lk sm_ca3 x, some .boolean) [81] 5 0 [] [] 2000 [] = true := by decide +kernel
/-- MiceRegistersModel.readsLine -/
def mgx19408 : aw_A := ms_o [(0, 8)] [(0, 4)] ar_t32 ar_t32 [(0, 180)] [(59, 59)] [(60, 60)] [(1, 8)] [(2, 2)]
def mgh19409 : aw_H := [(81, mgx19408)]
def mgc1414 : ak_C := (124, [.inl 81], mgh19409, [], [([], some (.inr (false, [(0, 0)])), [])])
theorem mgk1414 : ai_chk [] mgc1414 (fun pc => sm_ch sm_t124 pc, sm_Kn 3 3 none, fun x => sm_lk sm_ca3 x, some .boolean) [] 3 0 [] [] 2000 [] = true := by decide +kernel
/-- MiceRegistersModel.figure -/
def mgc1415 : ak_C := (125, [.inl 81, .inr (false, [(0, 0)]), .inr (false, [(0, 7)])], mgh19363, [81], [([], some (.inr (false, [(-9, -9)])), mgh19362)])
/-- MiceRegistersModel.readsMouse -/
def mgh19410 : aw_H := [(81, mgx19408), (90, .inr (.inl (0, 240, [], [])))]
def mgc1416 : ak_C := (127, [.inl 81], mgh19410, [81], [([], some (.inr (false, [(0, 0)])), mgh19409), ([], some (.inr (false, [(0, 0)])), mgh19362)])
theorem mgk1416 : ai_chk [mgc20, mgc148, mgc1415] mgc1416 (fun pc => sm_ch sm_t127 pc, sm_Kn 3 5 none, fun x => sm_lk sm_ca3 x, some .boolean) [81] 5 0 [] [] 2000 [] = true := by decide +kernel
/-- MiceRegistersModel.readsLine -/
def mgx19411 : aw_A := ms_o [(0, 8)] [(0, 4)] ar_t32 ar_t32 [(0, 180)] [(59, 59)] [(60, 60)] [(1, 8)] [(3, 3)]
def mgh19412 : aw_H := [(81, mgx19411)]
def mgc1417 : ak_C := (124, [.inl 81], mgh19412, [], [([], some (.inr (false, [(0, 0)])), [])])
theorem mgk1417 : ai_chk [] mgc1417 (fun pc => sm_ch sm_t124 pc, sm_Kn 3 3 none, fun x => sm_lk sm_ca3 x, some .boolean) [] 3 0 [] [] 2000 [] = true := by decide +kernel
/-- MiceRegistersModel.figure -/
def mgc1418 : ak_C := (125, [.inl 81, .inr (false, [(0, 0)]), .inr (false, [(0, 7)])], mgh19371, [81], [([], some (.inr (false, [(-9, -9)])), mgh19370)])
/-- MiceRegistersModel.readsMouse -/
def mgh19413 : aw_H := [(81, mgx19411), (90, .inr (.inl (0, 240, [], [])))]
def mgc1419 : ak_C := (127, [.inl 81], mgh19413, [81], [([], some (.inr (false, [(0, 0)])), mgh19412), ([], some (.inr (false, [(0, 0)])), mgh19370)])
theorem mgk1419 : ai_chk [mgc20, mgc148, mgc1418] mgc1419 (fun pc => sm_ch sm_t127 pc, sm_Kn 3 5 none, fun x => sm_lk sm_ca3 x, some .boolean) [81] 5 0 [] [] 2000 [] = true := by decide +kernel
/-- MiceRegistersModel.readsLine -/
def mgx19414 : aw_A := ms_o [(0, 8)] [(0, 4)] ar_t32 ar_t32 [(0, 180)] [(59, 59)] [(60, 60)] [(1, 8)] [(4, 4)]
def mgh19415 : aw_H := [(81, mgx19414)]
def mgc1420 : ak_C := (124, [.inl 81], mgh19415, [], [([], some (.inr (false, [(0, 0)])), [])])
theorem mgk1420 : ai_chk [] mgc1420 (fun pc => sm_ch sm_t124 pc, sm_Kn 3 3 none, fun x => sm_lk sm_ca3 x, some .boolean) [] 3 0 [] [] 2000 [] = true := by decide +kernel
/-- MiceRegistersModel.readsMouse -/
def mgh19416 : aw_H := [(81, mgx19414), (90, .inr (.inl (0, 240, [], [])))]
def mgc1421 : ak_C := (127, [.inl 81], mgh19416, [], [([], some (.inr (false, [(0, 0)])), [])])
theorem mgk1421 : ai_chk [mgc20, mgc148] mgc1421 (fun pc => sm_ch sm_t127 pc, sm_Kn 3 5 none, fun x => sm_lk sm_ca3 x, some .boolean) [] 5 0 [] [] 2000 [] = true := by decide +kernel
def mgx19417 : aw_A := ms_o [(0, 8)] [(0, 4)] ar_t32 ar_t32 [(0, 180)] [(1, 60)] [(-1, 60)] [(0, 8)] [(0, 4)]
def mgh19418 : aw_H := [(81, mgx19417), (92, .inr (.inl (0, 8, [], []))), (93, .inr (.inl (0, 8, [], []))), (94, mgx5049)]
def mgh19419 : aw_H := [(81, mgx502), (92, .inr (.inl (0, 8, [], []))), (93, .inr (.inl (0, 8, [], []))), (94, mgx5049)]
def mgx19420 : aw_A := ms_o [(0, 8)] [(0, 4)] ar_t32 ar_t32 [(0, 180)] [(8, 60)] [(8, 60)] [(1, 8)] [(1, 1)]
def mgh19421 : aw_H := [(81, mgx19420), (92, .inr (.inl (0, 8, [], []))), (93, .inr (.inl (0, 8, [], []))), (94, mgx5052)]
def mgx19422 : aw_A := ms_o [(0, 8)] [(0, 4)] ar_t32 ar_t32 [(0, 180)] [(11, 60)] [(11, 60)] [(1, 8)] [(2, 2)]
def mgh19423 : aw_H := [(81, mgx19422), (92, .inr (.inl (0, 8, [], []))), (93, .inr (.inl (0, 8, [], []))), (94, mgx5820)]
def mgx19424 : aw_A := ms_o [(0, 8)] [(0, 4)] ar_t32 ar_t32 [(0, 180)] [(14, 60)] [(14, 60)] [(1, 8)] [(3, 3)]
def mgh19425 : aw_H := [(81, mgx19424), (92, .inr (.inl (0, 8, [], []))), (93, .inr (.inl (0, 8, [], []))), (94, mgx6868)]
def mgx19426 : aw_A := ms_o [(0, 8)] [(0, 4)] ar_t32 ar_t32 [(0, 180)] [(17, 60)] [(17, 60)] [(1, 8)] [(4, 4)]
def mgh19427 : aw_H := [(81, mgx19426), (92, .inr (.inl (0, 8, [], []))), (93, .inr (.inl (0, 8, [], []))), (94, mgx8150)]
/-- MiceRegistersModel.faultOf -/
def mgh19428 : aw_H := [(81, mgx0), (89, mgx497), (90, .inr (.inl (0, 240, [], []))), (92, .inr (.inl (0, 8, [], []))), (93, .inr (.inl (0, 8, [], []))), (94, mgx5049)]
def mgc1422 : ak_C := (120, [.inl 81, .inr (false, [(0, 3)])], mgh19428, [81, 92, 93, 94], [([], some (.inr (false, [(1, 60)])), mgh19418), ([], some (.inr (false, [(0, 0)])), mgh19419), ([], some (.inr (false, [(-9, -9)])), mgh19421), ([], some (.inr (false, [(-9, -9)])), mgh19423), ([], some (.inr (false, [(-9, -9)])), mgh19425), ([], some (.inr (false, [(-9, -9)])), mgh19427)])
def mgb1422 : sm_P := (fun pc => sm_ch sm_t120 pc, sm_Kn 3 3 none, fun x => sm_lk sm_ca3 x, some .int)
def mgn1422_0 : Nat × aw_S := (0, ai_lv mgc1422.2.1 0, [], mgc1422.2.2.1)
def mgh19429 : aw_H := [(81, mgx867), (89, mgx497), (90, .inr (.inl (0, 240, [], []))), (92, .inr (.inl (0, 8, [], []))), (93, .inr (.inl (0, 8, [], []))), (94, mgx5049)]
def mgn1422_1 : Nat × aw_S := (46, [(0, .inl 81), (1, .inr (false, [(0, 3)])), (2, .inr (false, [(1, 1)]))], [], mgh19429)
def mgh19430 : aw_H := [(81, mgx502), (89, mgx497), (90, .inr (.inl (0, 240, [], []))), (92, .inr (.inl (0, 8, [], []))), (93, .inr (.inl (0, 8, [], []))), (94, mgx5049)]
def mgn1422_2 : Nat × aw_S := (46, [(0, .inl 81), (1, .inr (false, [(0, 3)])), (2, .inr (false, [(0, 0)]))], [], mgh19430)
def mgh19431 : aw_H := [(81, mgx865), (89, mgx497), (90, .inr (.inl (0, 240, [], []))), (92, .inr (.inl (0, 8, [], []))), (93, .inr (.inl (0, 8, [], []))), (94, mgx5049)]
def mgn1422_3 : Nat × aw_S := (46, [(0, .inl 81), (1, .inr (false, [(0, 3)])), (2, .inr (false, [(1, 1)]))], [], mgh19431)
def mgh19432 : aw_H := [(81, mgx869), (89, mgx497), (90, .inr (.inl (0, 240, [], []))), (92, .inr (.inl (0, 8, [], []))), (93, .inr (.inl (0, 8, [], []))), (94, mgx5049)]
def mgn1422_4 : Nat × aw_S := (46, [(0, .inl 81), (1, .inr (false, [(0, 3)])), (2, .inr (false, [(1, 1)]))], [], mgh19432)
def mgh19433 : aw_H := [(81, mgx863), (89, mgx497), (90, .inr (.inl (0, 240, [], []))), (92, .inr (.inl (0, 8, [], []))), (93, .inr (.inl (0, 8, [], []))), (94, mgx5049)]
def mgn1422_5 : Nat × aw_S := (46, [(0, .inl 81), (1, .inr (false, [(0, 3)])), (2, .inr (false, [(1, 1)]))], [], mgh19433)
def mgh19434 : aw_H := [(81, mgx506), (89, mgx497), (90, .inr (.inl (0, 240, [], []))), (92, .inr (.inl (0, 8, [], []))), (93, .inr (.inl (0, 8, [], []))), (94, mgx5049)]
def mgn1422_6 : Nat × aw_S := (46, [(0, .inl 81), (1, .inr (false, [(0, 3)])), (2, .inr (false, [(0, 0)]))], [], mgh19434)
def mgh19435 : aw_H := [(81, mgx504), (89, mgx497), (90, .inr (.inl (0, 240, [], []))), (92, .inr (.inl (0, 8, [], []))), (93, .inr (.inl (0, 8, [], []))), (94, mgx5049)]
def mgn1422_7 : Nat × aw_S := (46, [(0, .inl 81), (1, .inr (false, [(0, 3)])), (2, .inr (false, [(0, 0)]))], [], mgh19435)
def mgx19436 : aw_A := ms_o [(0, 8)] [(0, 4)] ar_t32 ar_t32 [(0, 180)] [(7, 7)] [(1, 60)] [(0, 1)] [(0, 0)]
def mgh19437 : aw_H := [(81, mgx19436), (89, mgx497), (90, .inr (.inl (0, 240, [], []))), (92, .inr (.inl (0, 8, [], []))), (93, .inr (.inl (0, 8, [], []))), (94, mgx5049)]
def mgn1422_8 : Nat × aw_S := (46, [(0, .inl 81), (1, .inr (false, [(0, 3)])), (2, .inr (false, [(1, 1)]))], [], mgh19437)
def mgx19438 : aw_A := ms_o [(0, 8)] [(0, 4)] ar_t32 ar_t32 [(0, 180)] [(8, 8)] [(1, 60)] [(0, 1)] [(0, 0)]
def mgh19439 : aw_H := [(81, mgx19438), (89, mgx497), (90, .inr (.inl (0, 240, [], []))), (92, .inr (.inl (0, 8, [], []))), (93, .inr (.inl (0, 8, [], []))), (94, mgx5049)]
def mgn1422_9 : Nat × aw_S := (46, [(0, .inl 81), (1, .inr (false, [(0, 3)])), (2, .inr (false, [(1, 1)]))], [], mgh19439)
def mgx19440 : aw_A := ms_o [(0, 8)] [(0, 4)] ar_t32 ar_t32 [(0, 180)] [(6, 6)] [(1, 60)] [(0, 1)] [(0, 0)]
def mgh19441 : aw_H := [(81, mgx19440), (89, mgx497), (90, .inr (.inl (0, 240, [], []))), (92, .inr (.inl (0, 8, [], []))), (93, .inr (.inl (0, 8, [], []))), (94, mgx5049)]
def mgn1422_10 : Nat × aw_S := (46, [(0, .inl 81), (1, .inr (false, [(0, 3)])), (2, .inr (false, [(1, 1)]))], [], mgh19441)
def mgx19442 : aw_A := ms_o [(0, 8)] [(0, 4)] ar_t32 ar_t32 [(0, 180)] [(5, 5)] [(1, 60)] [(0, 1)] [(0, 0)]
def mgh19443 : aw_H := [(81, mgx19442), (89, mgx497), (90, .inr (.inl (0, 240, [], []))), (92, .inr (.inl (0, 8, [], []))), (93, .inr (.inl (0, 8, [], []))), (94, mgx5049)]
def mgn1422_11 : Nat × aw_S := (46, [(0, .inl 81), (1, .inr (false, [(0, 3)])), (2, .inr (false, [(1, 1)]))], [], mgh19443)
def mgh19444 : aw_H := [(81, mgx5051), (89, mgx497), (90, .inr (.inl (0, 240, [], []))), (92, .inr (.inl (0, 8, [], []))), (93, .inr (.inl (0, 8, [], []))), (94, mgx5052)]
def mgn1422_12 : Nat × aw_S := (46, [(0, .inl 81), (1, .inr (false, [(0, 3)])), (2, .inr (false, [(1, 1)]))], [], mgh19444)
def mgh19445 : aw_H := [(81, mgx5819), (89, mgx497), (90, .inr (.inl (0, 240, [], []))), (92, .inr (.inl (0, 8, [], []))), (93, .inr (.inl (0, 8, [], []))), (94, mgx5820)]
def mgn1422_13 : Nat × aw_S := (46, [(0, .inl 81), (1, .inr (false, [(0, 3)])), (2, .inr (false, [(1, 1)]))], [], mgh19445)
def mgh19446 : aw_H := [(81, mgx6867), (89, mgx497), (90, .inr (.inl (0, 240, [], []))), (92, .inr (.inl (0, 8, [], []))), (93, .inr (.inl (0, 8, [], []))), (94, mgx6868)]
def mgn1422_14 : Nat × aw_S := (46, [(0, .inl 81), (1, .inr (false, [(0, 3)])), (2, .inr (false, [(1, 1)]))], [], mgh19446)
def mgh19447 : aw_H := [(81, mgx8149), (89, mgx497), (90, .inr (.inl (0, 240, [], []))), (92, .inr (.inl (0, 8, [], []))), (93, .inr (.inl (0, 8, [], []))), (94, mgx8150)]
def mgn1422_15 : Nat × aw_S := (46, [(0, .inl 81), (1, .inr (false, [(0, 3)])), (2, .inr (false, [(1, 1)]))], [], mgh19447)
def mgh19448 : aw_H := [(81, mgx9627), (89, mgx497), (90, .inr (.inl (0, 240, [], []))), (92, .inr (.inl (0, 8, [], []))), (93, .inr (.inl (0, 8, [], []))), (94, mgx8150)]
def mgn1422_16 : Nat × aw_S := (46, [(0, .inl 81), (1, .inr (false, [(0, 3)])), (2, .inr (false, [(0, 0)]))], [], mgh19448)
def mgh19449 : aw_H := [(81, mgx8146), (89, mgx497), (90, .inr (.inl (0, 240, [], []))), (92, .inr (.inl (0, 8, [], []))), (93, .inr (.inl (0, 8, [], []))), (94, mgx6868)]
def mgn1422_17 : Nat × aw_S := (46, [(0, .inl 81), (1, .inr (false, [(0, 3)])), (2, .inr (false, [(0, 0)]))], [], mgh19449)
def mgh19450 : aw_H := [(81, mgx6864), (89, mgx497), (90, .inr (.inl (0, 240, [], []))), (92, .inr (.inl (0, 8, [], []))), (93, .inr (.inl (0, 8, [], []))), (94, mgx5820)]
def mgn1422_18 : Nat × aw_S := (46, [(0, .inl 81), (1, .inr (false, [(0, 3)])), (2, .inr (false, [(0, 0)]))], [], mgh19450)
def mgh19451 : aw_H := [(81, mgx5816), (89, mgx497), (90, .inr (.inl (0, 240, [], []))), (92, .inr (.inl (0, 8, [], []))), (93, .inr (.inl (0, 8, [], []))), (94, mgx5052)]
def mgn1422_19 : Nat × aw_S := (46, [(0, .inl 81), (1, .inr (false, [(0, 3)])), (2, .inr (false, [(0, 0)]))], [], mgh19451)
def mgx19452 : aw_A := ms_o [(0, 8)] [(0, 4)] ar_t32 ar_t32 [(0, 180)] [(10, 10)] [(1, 60)] [(0, 2)] [(0, 0)]
def mgh19453 : aw_H := [(81, mgx19452), (89, mgx497), (90, .inr (.inl (0, 240, [], []))), (92, .inr (.inl (0, 8, [], []))), (93, .inr (.inl (0, 8, [], []))), (94, mgx5049)]
def mgn1422_20 : Nat × aw_S := (46, [(0, .inl 81), (1, .inr (false, [(0, 3)])), (2, .inr (false, [(1, 1)]))], [], mgh19453)
def mgx19454 : aw_A := ms_o [(0, 8)] [(0, 4)] ar_t32 ar_t32 [(0, 180)] [(5, 5)] [(-1, 60)] [(0, 1)] [(0, 0)]
def mgh19455 : aw_H := [(81, mgx19454), (89, mgx497), (90, .inr (.inl (0, 240, [], []))), (92, .inr (.inl (0, 8, [], []))), (93, .inr (.inl (0, 8, [], []))), (94, mgx5049)]
def mgn1422_21 : Nat × aw_S := (46, [(0, .inl 81), (1, .inr (false, [(0, 3)])), (2, .inr (false, [(0, 0)]))], [], mgh19455)
def mgx19456 : aw_A := ms_o [(0, 8)] [(0, 4)] ar_t32 ar_t32 [(0, 180)] [(6, 6)] [(-1, 60)] [(0, 1)] [(0, 0)]
def mgh19457 : aw_H := [(81, mgx19456), (89, mgx497), (90, .inr (.inl (0, 240, [], []))), (92, .inr (.inl (0, 8, [], []))), (93, .inr (.inl (0, 8, [], []))), (94, mgx5049)]
def mgn1422_22 : Nat × aw_S := (46, [(0, .inl 81), (1, .inr (false, [(0, 3)])), (2, .inr (false, [(0, 0)]))], [], mgh19457)
def mgh19458 : aw_H := [(81, mgx5062), (89, mgx497), (90, .inr (.inl (0, 240, [], []))), (92, .inr (.inl (0, 8, [], []))), (93, .inr (.inl (0, 8, [], []))), (94, mgx5052)]
def mgn1422_23 : Nat × aw_S := (46, [(0, .inl 81), (1, .inr (false, [(0, 3)])), (2, .inr (false, [(1, 1)]))], [], mgh19458)
def mgx19459 : aw_A := ms_o [(0, 8)] [(0, 4)] ar_t32 ar_t32 [(0, 180)] [(8, 8)] [(-1, 60)] [(0, 1)] [(0, 0)]
def mgh19460 : aw_H := [(81, mgx19459), (89, mgx497), (90, .inr (.inl (0, 240, [], []))), (92, .inr (.inl (0, 8, [], []))), (93, .inr (.inl (0, 8, [], []))), (94, mgx5049)]
def mgn1422_24 : Nat × aw_S := (46, [(0, .inl 81), (1, .inr (false, [(0, 3)])), (2, .inr (false, [(0, 0)]))], [], mgh19460)
def mgh19461 : aw_H := [(81, mgx5058), (89, mgx497), (90, .inr (.inl (0, 240, [], []))), (92, .inr (.inl (0, 8, [], []))), (93, .inr (.inl (0, 8, [], []))), (94, mgx5052)]
def mgn1422_25 : Nat × aw_S := (46, [(0, .inl 81), (1, .inr (false, [(0, 3)])), (2, .inr (false, [(1, 1)]))], [], mgh19461)
def mgh19462 : aw_H := [(81, mgx5824), (89, mgx497), (90, .inr (.inl (0, 240, [], []))), (92, .inr (.inl (0, 8, [], []))), (93, .inr (.inl (0, 8, [], []))), (94, mgx5820)]
def mgn1422_26 : Nat × aw_S := (46, [(0, .inl 81), (1, .inr (false, [(0, 3)])), (2, .inr (false, [(1, 1)]))], [], mgh19462)
def mgh19463 : aw_H := [(81, mgx6872), (89, mgx497), (90, .inr (.inl (0, 240, [], []))), (92, .inr (.inl (0, 8, [], []))), (93, .inr (.inl (0, 8, [], []))), (94, mgx6868)]
def mgn1422_27 : Nat × aw_S := (46, [(0, .inl 81), (1, .inr (false, [(0, 3)])), (2, .inr (false, [(1, 1)]))], [], mgh19463)
def mgh19464 : aw_H := [(81, mgx8154), (89, mgx497), (90, .inr (.inl (0, 240, [], []))), (92, .inr (.inl (0, 8, [], []))), (93, .inr (.inl (0, 8, [], []))), (94, mgx8150)]
def mgn1422_28 : Nat × aw_S := (46, [(0, .inl 81), (1, .inr (false, [(0, 3)])), (2, .inr (false, [(1, 1)]))], [], mgh19464)
def mgh19465 : aw_H := [(81, mgx10069), (89, mgx497), (90, .inr (.inl (0, 240, [], []))), (92, .inr (.inl (0, 8, [], []))), (93, .inr (.inl (0, 8, [], []))), (94, mgx8150)]
def mgn1422_29 : Nat × aw_S := (46, [(0, .inl 81), (1, .inr (false, [(0, 3)])), (2, .inr (false, [(0, 0)]))], [], mgh19465)
def mgh19466 : aw_H := [(81, mgx7266), (89, mgx497), (90, .inr (.inl (0, 240, [], []))), (92, .inr (.inl (0, 8, [], []))), (93, .inr (.inl (0, 8, [], []))), (94, mgx6868)]
def mgn1422_30 : Nat × aw_S := (46, [(0, .inl 81), (1, .inr (false, [(0, 3)])), (2, .inr (false, [(0, 0)]))], [], mgh19466)
def mgh19467 : aw_H := [(81, mgx6146), (89, mgx497), (90, .inr (.inl (0, 240, [], []))), (92, .inr (.inl (0, 8, [], []))), (93, .inr (.inl (0, 8, [], []))), (94, mgx5820)]
def mgn1422_31 : Nat × aw_S := (46, [(0, .inl 81), (1, .inr (false, [(0, 3)])), (2, .inr (false, [(0, 0)]))], [], mgh19467)
def mgh19468 : aw_H := [(81, mgx5276), (89, mgx497), (90, .inr (.inl (0, 240, [], []))), (92, .inr (.inl (0, 8, [], []))), (93, .inr (.inl (0, 8, [], []))), (94, mgx5052)]
def mgn1422_32 : Nat × aw_S := (46, [(0, .inl 81), (1, .inr (false, [(0, 3)])), (2, .inr (false, [(0, 0)]))], [], mgh19468)
def mgx19469 : aw_A := ms_o [(0, 8)] [(0, 4)] ar_t32 ar_t32 [(0, 180)] [(7, 7)] [(-1, 60)] [(0, 1)] [(0, 0)]
def mgh19470 : aw_H := [(81, mgx19469), (89, mgx497), (90, .inr (.inl (0, 240, [], []))), (92, .inr (.inl (0, 8, [], []))), (93, .inr (.inl (0, 8, [], []))), (94, mgx5049)]
def mgn1422_33 : Nat × aw_S := (46, [(0, .inl 81), (1, .inr (false, [(0, 3)])), (2, .inr (false, [(0, 0)]))], [], mgh19470)
def mgx19471 : aw_A := ms_o [(0, 8)] [(0, 4)] ar_t32 ar_t32 [(0, 180)] [(9, 9)] [(1, 60)] [(0, 2)] [(0, 0)]
def mgh19472 : aw_H := [(81, mgx19471), (89, mgx497), (90, .inr (.inl (0, 240, [], []))), (92, .inr (.inl (0, 8, [], []))), (93, .inr (.inl (0, 8, [], []))), (94, mgx5049)]
def mgn1422_34 : Nat × aw_S := (46, [(0, .inl 81), (1, .inr (false, [(0, 3)])), (2, .inr (false, [(1, 1)]))], [], mgh19472)
def mgx19473 : aw_A := ms_o [(0, 8)] [(0, 4)] ar_t32 ar_t32 [(0, 180)] [(10, 10)] [(-1, 60)] [(0, 2)] [(0, 0)]
def mgh19474 : aw_H := [(81, mgx19473), (89, mgx497), (90, .inr (.inl (0, 240, [], []))), (92, .inr (.inl (0, 8, [], []))), (93, .inr (.inl (0, 8, [], []))), (94, mgx5049)]
def mgn1422_35 : Nat × aw_S := (46, [(0, .inl 81), (1, .inr (false, [(0, 3)])), (2, .inr (false, [(0, 0)]))], [], mgh19474)
def mgx19475 : aw_A := ms_o [(0, 8)] [(0, 4)] ar_t32 ar_t32 [(0, 180)] [(13, 13)] [(1, 60)] [(0, 3)] [(0, 0)]
def mgh19476 : aw_H := [(81, mgx19475), (89, mgx497), (90, .inr (.inl (0, 240, [], []))), (92, .inr (.inl (0, 8, [], []))), (93, .inr (.inl (0, 8, [], []))), (94, mgx5049)]
def mgn1422_36 : Nat × aw_S := (46, [(0, .inl 81), (1, .inr (false, [(0, 3)])), (2, .inr (false, [(1, 1)]))], [], mgh19476)
def mgx19477 : aw_A := ms_o [(0, 8)] [(0, 4)] ar_t32 ar_t32 [(0, 180)] [(13, 13)] [(8, 60)] [(1, 2)] [(1, 1)]
def mgh19478 : aw_H := [(81, mgx19477), (89, mgx497), (90, .inr (.inl (0, 240, [], []))), (92, .inr (.inl (0, 8, [], []))), (93, .inr (.inl (0, 8, [], []))), (94, mgx5052)]
def mgn1422_37 : Nat × aw_S := (46, [(0, .inl 81), (1, .inr (false, [(0, 3)])), (2, .inr (false, [(1, 1)]))], [], mgh19478)
def mgx19479 : aw_A := ms_o [(0, 8)] [(0, 4)] ar_t32 ar_t32 [(0, 180)] [(9, 9)] [(-1, 60)] [(0, 2)] [(0, 0)]
def mgh19480 : aw_H := [(81, mgx19479), (89, mgx497), (90, .inr (.inl (0, 240, [], []))), (92, .inr (.inl (0, 8, [], []))), (93, .inr (.inl (0, 8, [], []))), (94, mgx5049)]
def mgn1422_38 : Nat × aw_S := (46, [(0, .inl 81), (1, .inr (false, [(0, 3)])), (2, .inr (false, [(0, 0)]))], [], mgh19480)
def mgx19481 : aw_A := ms_o [(0, 8)] [(0, 4)] ar_t32 ar_t32 [(0, 180)] [(11, 11)] [(1, 60)] [(0, 2)] [(0, 0)]
def mgh19482 : aw_H := [(81, mgx19481), (89, mgx497), (90, .inr (.inl (0, 240, [], []))), (92, .inr (.inl (0, 8, [], []))), (93, .inr (.inl (0, 8, [], []))), (94, mgx5049)]
def mgn1422_39 : Nat × aw_S := (46, [(0, .inl 81), (1, .inr (false, [(0, 3)])), (2, .inr (false, [(1, 1)]))], [], mgh19482)
def mgx19483 : aw_A := ms_o [(0, 8)] [(0, 4)] ar_t32 ar_t32 [(0, 180)] [(11, 11)] [(-1, 60)] [(0, 2)] [(0, 0)]
def mgh19484 : aw_H := [(81, mgx19483), (89, mgx497), (90, .inr (.inl (0, 240, [], []))), (92, .inr (.inl (0, 8, [], []))), (93, .inr (.inl (0, 8, [], []))), (94, mgx5049)]
def mgn1422_40 : Nat × aw_S := (46, [(0, .inl 81), (1, .inr (false, [(0, 3)])), (2, .inr (false, [(0, 0)]))], [], mgh19484)
def mgx19485 : aw_A := ms_o [(0, 8)] [(0, 4)] ar_t32 ar_t32 [(0, 180)] [(14, 14)] [(8, 60)] [(1, 2)] [(1, 1)]
def mgh19486 : aw_H := [(81, mgx19485), (89, mgx497), (90, .inr (.inl (0, 240, [], []))), (92, .inr (.inl (0, 8, [], []))), (93, .inr (.inl (0, 8, [], []))), (94, mgx5052)]
def mgn1422_41 : Nat × aw_S := (46, [(0, .inl 81), (1, .inr (false, [(0, 3)])), (2, .inr (false, [(1, 1)]))], [], mgh19486)
def mgh19487 : aw_H := [(81, mgx5060), (89, mgx497), (90, .inr (.inl (0, 240, [], []))), (92, .inr (.inl (0, 8, [], []))), (93, .inr (.inl (0, 8, [], []))), (94, mgx5052)]
def mgn1422_42 : Nat × aw_S := (46, [(0, .inl 81), (1, .inr (false, [(0, 3)])), (2, .inr (false, [(1, 1)]))], [], mgh19487)
def mgh19488 : aw_H := [(81, mgx5712), (89, mgx497), (90, .inr (.inl (0, 240, [], []))), (92, .inr (.inl (0, 8, [], []))), (93, .inr (.inl (0, 8, [], []))), (94, mgx5052)]
def mgn1422_43 : Nat × aw_S := (46, [(0, .inl 81), (1, .inr (false, [(0, 3)])), (2, .inr (false, [(0, 0)]))], [], mgh19488)
def mgh19489 : aw_H := [(81, mgx5496), (89, mgx497), (90, .inr (.inl (0, 240, [], []))), (92, .inr (.inl (0, 8, [], []))), (93, .inr (.inl (0, 8, [], []))), (94, mgx5052)]
def mgn1422_44 : Nat × aw_S := (46, [(0, .inl 81), (1, .inr (false, [(0, 3)])), (2, .inr (false, [(0, 0)]))], [], mgh19489)
def mgh19490 : aw_H := [(81, mgx5826), (89, mgx497), (90, .inr (.inl (0, 240, [], []))), (92, .inr (.inl (0, 8, [], []))), (93, .inr (.inl (0, 8, [], []))), (94, mgx5820)]
def mgn1422_45 : Nat × aw_S := (46, [(0, .inl 81), (1, .inr (false, [(0, 3)])), (2, .inr (false, [(1, 1)]))], [], mgh19490)
def mgh19491 : aw_H := [(81, mgx6458), (89, mgx497), (90, .inr (.inl (0, 240, [], []))), (92, .inr (.inl (0, 8, [], []))), (93, .inr (.inl (0, 8, [], []))), (94, mgx5820)]
def mgn1422_46 : Nat × aw_S := (46, [(0, .inl 81), (1, .inr (false, [(0, 3)])), (2, .inr (false, [(0, 0)]))], [], mgh19491)
def mgh19492 : aw_H := [(81, mgx6874), (89, mgx497), (90, .inr (.inl (0, 240, [], []))), (92, .inr (.inl (0, 8, [], []))), (93, .inr (.inl (0, 8, [], []))), (94, mgx6868)]
def mgn1422_47 : Nat × aw_S := (46, [(0, .inl 81), (1, .inr (false, [(0, 3)])), (2, .inr (false, [(1, 1)]))], [], mgh19492)
def mgh19493 : aw_H := [(81, mgx7667), (89, mgx497), (90, .inr (.inl (0, 240, [], []))), (92, .inr (.inl (0, 8, [], []))), (93, .inr (.inl (0, 8, [], []))), (94, mgx6868)]
def mgn1422_48 : Nat × aw_S := (46, [(0, .inl 81), (1, .inr (false, [(0, 3)])), (2, .inr (false, [(0, 0)]))], [], mgh19493)
def mgh19494 : aw_H := [(81, mgx8156), (89, mgx497), (90, .inr (.inl (0, 240, [], []))), (92, .inr (.inl (0, 8, [], []))), (93, .inr (.inl (0, 8, [], []))), (94, mgx8150)]
def mgn1422_49 : Nat × aw_S := (46, [(0, .inl 81), (1, .inr (false, [(0, 3)])), (2, .inr (false, [(1, 1)]))], [], mgh19494)
def mgh19495 : aw_H := [(81, mgx10500), (89, mgx497), (90, .inr (.inl (0, 240, [], []))), (92, .inr (.inl (0, 8, [], []))), (93, .inr (.inl (0, 8, [], []))), (94, mgx8150)]
def mgn1422_50 : Nat × aw_S := (46, [(0, .inl 81), (1, .inr (false, [(0, 3)])), (2, .inr (false, [(0, 0)]))], [], mgh19495)
def mgh19496 : aw_H := [(81, mgx5828), (89, mgx497), (90, .inr (.inl (0, 240, [], []))), (92, .inr (.inl (0, 8, [], []))), (93, .inr (.inl (0, 8, [], []))), (94, mgx5820)]
def mgn1422_51 : Nat × aw_S := (46, [(0, .inl 81), (1, .inr (false, [(0, 3)])), (2, .inr (false, [(1, 1)]))], [], mgh19496)
def mgh19497 : aw_H := [(81, mgx6876), (89, mgx497), (90, .inr (.inl (0, 240, [], []))), (92, .inr (.inl (0, 8, [], []))), (93, .inr (.inl (0, 8, [], []))), (94, mgx6868)]
def mgn1422_52 : Nat × aw_S := (46, [(0, .inl 81), (1, .inr (false, [(0, 3)])), (2, .inr (false, [(1, 1)]))], [], mgh19497)
def mgh19498 : aw_H := [(81, mgx8158), (89, mgx497), (90, .inr (.inl (0, 240, [], []))), (92, .inr (.inl (0, 8, [], []))), (93, .inr (.inl (0, 8, [], []))), (94, mgx8150)]
def mgn1422_53 : Nat × aw_S := (46, [(0, .inl 81), (1, .inr (false, [(0, 3)])), (2, .inr (false, [(1, 1)]))], [], mgh19498)
def mgh19499 : aw_H := [(81, mgx10921), (89, mgx497), (90, .inr (.inl (0, 240, [], []))), (92, .inr (.inl (0, 8, [], []))), (93, .inr (.inl (0, 8, [], []))), (94, mgx8150)]
def mgn1422_54 : Nat × aw_S := (46, [(0, .inl 81), (1, .inr (false, [(0, 3)])), (2, .inr (false, [(0, 0)]))], [], mgh19499)
def mgh19500 : aw_H := [(81, mgx8054), (89, mgx497), (90, .inr (.inl (0, 240, [], []))), (92, .inr (.inl (0, 8, [], []))), (93, .inr (.inl (0, 8, [], []))), (94, mgx6868)]
def mgn1422_55 : Nat × aw_S := (46, [(0, .inl 81), (1, .inr (false, [(0, 3)])), (2, .inr (false, [(0, 0)]))], [], mgh19500)
def mgh19501 : aw_H := [(81, mgx6766), (89, mgx497), (90, .inr (.inl (0, 240, [], []))), (92, .inr (.inl (0, 8, [], []))), (93, .inr (.inl (0, 8, [], []))), (94, mgx5820)]
def mgn1422_56 : Nat × aw_S := (46, [(0, .inl 81), (1, .inr (false, [(0, 3)])), (2, .inr (false, [(0, 0)]))], [], mgh19501)
def mgx19502 : aw_A := ms_o [(0, 8)] [(0, 4)] ar_t32 ar_t32 [(0, 180)] [(15, 15)] [(1, 60)] [(0, 3)] [(0, 0)]
def mgh19503 : aw_H := [(81, mgx19502), (89, mgx497), (90, .inr (.inl (0, 240, [], []))), (92, .inr (.inl (0, 8, [], []))), (93, .inr (.inl (0, 8, [], []))), (94, mgx5049)]
def mgn1422_57 : Nat × aw_S := (46, [(0, .inl 81), (1, .inr (false, [(0, 3)])), (2, .inr (false, [(1, 1)]))], [], mgh19503)
def mgx19504 : aw_A := ms_o [(0, 8)] [(0, 4)] ar_t32 ar_t32 [(0, 180)] [(12, 12)] [(8, 60)] [(1, 2)] [(1, 1)]
def mgh19505 : aw_H := [(81, mgx19504), (89, mgx497), (90, .inr (.inl (0, 240, [], []))), (92, .inr (.inl (0, 8, [], []))), (93, .inr (.inl (0, 8, [], []))), (94, mgx5052)]
def mgn1422_58 : Nat × aw_S := (46, [(0, .inl 81), (1, .inr (false, [(0, 3)])), (2, .inr (false, [(1, 1)]))], [], mgh19505)
def mgh19506 : aw_H := [(81, mgx6662), (89, mgx497), (90, .inr (.inl (0, 240, [], []))), (92, .inr (.inl (0, 8, [], []))), (93, .inr (.inl (0, 8, [], []))), (94, mgx5052)]
def mgn1422_59 : Nat × aw_S := (46, [(0, .inl 81), (1, .inr (false, [(0, 3)])), (2, .inr (false, [(0, 0)]))], [], mgh19506)
def mgh19507 : aw_H := [(81, mgx6038), (89, mgx497), (90, .inr (.inl (0, 240, [], []))), (92, .inr (.inl (0, 8, [], []))), (93, .inr (.inl (0, 8, [], []))), (94, mgx5052)]
def mgn1422_60 : Nat × aw_S := (46, [(0, .inl 81), (1, .inr (false, [(0, 3)])), (2, .inr (false, [(0, 0)]))], [], mgh19507)
def mgx19508 : aw_A := ms_o [(0, 8)] [(0, 4)] ar_t32 ar_t32 [(0, 180)] [(17, 17)] [(11, 60)] [(1, 2)] [(2, 2)]
def mgh19509 : aw_H := [(81, mgx19508), (89, mgx497), (90, .inr (.inl (0, 240, [], []))), (92, .inr (.inl (0, 8, [], []))), (93, .inr (.inl (0, 8, [], []))), (94, mgx5820)]
def mgn1422_61 : Nat × aw_S := (46, [(0, .inl 81), (1, .inr (false, [(0, 3)])), (2, .inr (false, [(1, 1)]))], [], mgh19509)
def mgh19510 : aw_H := [(81, mgx6352), (89, mgx497), (90, .inr (.inl (0, 240, [], []))), (92, .inr (.inl (0, 8, [], []))), (93, .inr (.inl (0, 8, [], []))), (94, mgx5052)]
def mgn1422_62 : Nat × aw_S := (46, [(0, .inl 81), (1, .inr (false, [(0, 3)])), (2, .inr (false, [(0, 0)]))], [], mgh19510)
def mgx19511 : aw_A := ms_o [(0, 8)] [(0, 4)] ar_t32 ar_t32 [(0, 180)] [(15, 15)] [(11, 60)] [(1, 2)] [(2, 2)]
def mgh19512 : aw_H := [(81, mgx19511), (89, mgx497), (90, .inr (.inl (0, 240, [], []))), (92, .inr (.inl (0, 8, [], []))), (93, .inr (.inl (0, 8, [], []))), (94, mgx5820)]
def mgn1422_63 : Nat × aw_S := (46, [(0, .inl 81), (1, .inr (false, [(0, 3)])), (2, .inr (false, [(1, 1)]))], [], mgh19512)
def mgh19513 : aw_H := [(81, mgx7166), (89, mgx497), (90, .inr (.inl (0, 240, [], []))), (92, .inr (.inl (0, 8, [], []))), (93, .inr (.inl (0, 8, [], []))), (94, mgx5820)]
def mgn1422_64 : Nat × aw_S := (46, [(0, .inl 81), (1, .inr (false, [(0, 3)])), (2, .inr (false, [(0, 0)]))], [], mgh19513)
def mgx19514 : aw_A := ms_o [(0, 8)] [(0, 4)] ar_t32 ar_t32 [(0, 180)] [(18, 18)] [(14, 60)] [(1, 2)] [(3, 3)]
def mgh19515 : aw_H := [(81, mgx19514), (89, mgx497), (90, .inr (.inl (0, 240, [], []))), (92, .inr (.inl (0, 8, [], []))), (93, .inr (.inl (0, 8, [], []))), (94, mgx6868)]
def mgn1422_65 : Nat × aw_S := (46, [(0, .inl 81), (1, .inr (false, [(0, 3)])), (2, .inr (false, [(1, 1)]))], [], mgh19515)
def mgx19516 : aw_A := ms_o [(0, 8)] [(0, 4)] ar_t32 ar_t32 [(0, 180)] [(21, 21)] [(17, 60)] [(1, 2)] [(4, 4)]
def mgh19517 : aw_H := [(81, mgx19516), (89, mgx497), (90, .inr (.inl (0, 240, [], []))), (92, .inr (.inl (0, 8, [], []))), (93, .inr (.inl (0, 8, [], []))), (94, mgx8150)]
def mgn1422_66 : Nat × aw_S := (46, [(0, .inl 81), (1, .inr (false, [(0, 3)])), (2, .inr (false, [(1, 1)]))], [], mgh19517)
def mgh19518 : aw_H := [(81, mgx11344), (89, mgx497), (90, .inr (.inl (0, 240, [], []))), (92, .inr (.inl (0, 8, [], []))), (93, .inr (.inl (0, 8, [], []))), (94, mgx8150)]
def mgn1422_67 : Nat × aw_S := (46, [(0, .inl 81), (1, .inr (false, [(0, 3)])), (2, .inr (false, [(0, 0)]))], [], mgh19518)
def mgh19519 : aw_H := [(81, mgx8526), (89, mgx497), (90, .inr (.inl (0, 240, [], []))), (92, .inr (.inl (0, 8, [], []))), (93, .inr (.inl (0, 8, [], []))), (94, mgx6868)]
def mgn1422_68 : Nat × aw_S := (46, [(0, .inl 81), (1, .inr (false, [(0, 3)])), (2, .inr (false, [(0, 0)]))], [], mgh19519)
def mgx19520 : aw_A := ms_o [(0, 8)] [(0, 4)] ar_t32 ar_t32 [(0, 180)] [(16, 16)] [(11, 60)] [(1, 2)] [(2, 2)]
def mgh19521 : aw_H := [(81, mgx19520), (89, mgx497), (90, .inr (.inl (0, 240, [], []))), (92, .inr (.inl (0, 8, [], []))), (93, .inr (.inl (0, 8, [], []))), (94, mgx5820)]
def mgn1422_69 : Nat × aw_S := (46, [(0, .inl 81), (1, .inr (false, [(0, 3)])), (2, .inr (false, [(1, 1)]))], [], mgh19521)
def mgh19522 : aw_H := [(81, mgx7568), (89, mgx497), (90, .inr (.inl (0, 240, [], []))), (92, .inr (.inl (0, 8, [], []))), (93, .inr (.inl (0, 8, [], []))), (94, mgx5820)]
def mgn1422_70 : Nat × aw_S := (46, [(0, .inl 81), (1, .inr (false, [(0, 3)])), (2, .inr (false, [(0, 0)]))], [], mgh19522)
def mgx19523 : aw_A := ms_o [(0, 8)] [(0, 4)] ar_t32 ar_t32 [(0, 180)] [(20, 20)] [(14, 60)] [(1, 2)] [(3, 3)]
def mgh19524 : aw_H := [(81, mgx19523), (89, mgx497), (90, .inr (.inl (0, 240, [], []))), (92, .inr (.inl (0, 8, [], []))), (93, .inr (.inl (0, 8, [], []))), (94, mgx6868)]
def mgn1422_71 : Nat × aw_S := (46, [(0, .inl 81), (1, .inr (false, [(0, 3)])), (2, .inr (false, [(1, 1)]))], [], mgh19524)
def mgh19525 : aw_H := [(81, mgx7956), (89, mgx497), (90, .inr (.inl (0, 240, [], []))), (92, .inr (.inl (0, 8, [], []))), (93, .inr (.inl (0, 8, [], []))), (94, mgx5820)]
def mgn1422_72 : Nat × aw_S := (46, [(0, .inl 81), (1, .inr (false, [(0, 3)])), (2, .inr (false, [(0, 0)]))], [], mgh19525)
def mgx19526 : aw_A := ms_o [(0, 8)] [(0, 4)] ar_t32 ar_t32 [(0, 180)] [(19, 19)] [(14, 60)] [(1, 2)] [(3, 3)]
def mgh19527 : aw_H := [(81, mgx19526), (89, mgx497), (90, .inr (.inl (0, 240, [], []))), (92, .inr (.inl (0, 8, [], []))), (93, .inr (.inl (0, 8, [], []))), (94, mgx6868)]
def mgn1422_73 : Nat × aw_S := (46, [(0, .inl 81), (1, .inr (false, [(0, 3)])), (2, .inr (false, [(1, 1)]))], [], mgh19527)
def mgh19528 : aw_H := [(81, mgx9449), (89, mgx497), (90, .inr (.inl (0, 240, [], []))), (92, .inr (.inl (0, 8, [], []))), (93, .inr (.inl (0, 8, [], []))), (94, mgx6868)]
def mgn1422_74 : Nat × aw_S := (46, [(0, .inl 81), (1, .inr (false, [(0, 3)])), (2, .inr (false, [(0, 0)]))], [], mgh19528)
def mgx19529 : aw_A := ms_o [(0, 8)] [(0, 4)] ar_t32 ar_t32 [(0, 180)] [(22, 22)] [(17, 60)] [(1, 2)] [(4, 4)]
def mgh19530 : aw_H := [(81, mgx19529), (89, mgx497), (90, .inr (.inl (0, 240, [], []))), (92, .inr (.inl (0, 8, [], []))), (93, .inr (.inl (0, 8, [], []))), (94, mgx8150)]
def mgn1422_75 : Nat × aw_S := (46, [(0, .inl 81), (1, .inr (false, [(0, 3)])), (2, .inr (false, [(1, 1)]))], [], mgh19530)
def mgh19531 : aw_H := [(81, mgx11746), (89, mgx497), (90, .inr (.inl (0, 240, [], []))), (92, .inr (.inl (0, 8, [], []))), (93, .inr (.inl (0, 8, [], []))), (94, mgx8150)]
def mgn1422_76 : Nat × aw_S := (46, [(0, .inl 81), (1, .inr (false, [(0, 3)])), (2, .inr (false, [(0, 0)]))], [], mgh19531)
def mgh19532 : aw_H := [(81, mgx8986), (89, mgx497), (90, .inr (.inl (0, 240, [], []))), (92, .inr (.inl (0, 8, [], []))), (93, .inr (.inl (0, 8, [], []))), (94, mgx6868)]
def mgn1422_77 : Nat × aw_S := (46, [(0, .inl 81), (1, .inr (false, [(0, 3)])), (2, .inr (false, [(0, 0)]))], [], mgh19532)
def mgx19533 : aw_A := ms_o [(0, 8)] [(0, 4)] ar_t32 ar_t32 [(0, 180)] [(23, 23)] [(17, 60)] [(1, 2)] [(4, 4)]
def mgh19534 : aw_H := [(81, mgx19533), (89, mgx497), (90, .inr (.inl (0, 240, [], []))), (92, .inr (.inl (0, 8, [], []))), (93, .inr (.inl (0, 8, [], []))), (94, mgx8150)]
def mgn1422_78 : Nat × aw_S := (46, [(0, .inl 81), (1, .inr (false, [(0, 3)])), (2, .inr (false, [(1, 1)]))], [], mgh19534)
def mgh19535 : aw_H := [(81, mgx12137), (89, mgx497), (90, .inr (.inl (0, 240, [], []))), (92, .inr (.inl (0, 8, [], []))), (93, .inr (.inl (0, 8, [], []))), (94, mgx8150)]
def mgn1422_79 : Nat × aw_S := (46, [(0, .inl 81), (1, .inr (false, [(0, 3)])), (2, .inr (false, [(0, 0)]))], [], mgh19535)
def mgh19536 : aw_H := [(81, mgx510), (89, mgx497), (90, .inr (.inl (0, 240, [], []))), (92, .inr (.inl (0, 8, [], []))), (93, .inr (.inl (0, 8, [], []))), (94, mgx5049)]
def mgn1422_80 : Nat × aw_S := (46, [(0, .inl 81), (1, .inr (false, [(0, 3)])), (2, .inr (false, [(0, 0)]))], [], mgh19536)
def mgx19537 : aw_A := ms_o [(0, 8)] [(0, 4)] ar_t32 ar_t32 [(0, 180)] [(12, 12)] [(1, 60)] [(0, 2)] [(0, 0)]
def mgh19538 : aw_H := [(81, mgx19537), (89, mgx497), (90, .inr (.inl (0, 240, [], []))), (92, .inr (.inl (0, 8, [], []))), (93, .inr (.inl (0, 8, [], []))), (94, mgx5049)]
def mgn1422_81 : Nat × aw_S := (46, [(0, .inl 81), (1, .inr (false, [(0, 3)])), (2, .inr (false, [(1, 1)]))], [], mgh19538)
def mgx19539 : aw_A := ms_o [(0, 8)] [(0, 4)] ar_t32 ar_t32 [(0, 180)] [(16, 16)] [(8, 60)] [(1, 3)] [(1, 1)]
def mgh19540 : aw_H := [(81, mgx19539), (89, mgx497), (90, .inr (.inl (0, 240, [], []))), (92, .inr (.inl (0, 8, [], []))), (93, .inr (.inl (0, 8, [], []))), (94, mgx5052)]
def mgn1422_82 : Nat × aw_S := (46, [(0, .inl 81), (1, .inr (false, [(0, 3)])), (2, .inr (false, [(1, 1)]))], [], mgh19540)
def mgx19541 : aw_A := ms_o [(0, 8)] [(0, 4)] ar_t32 ar_t32 [(0, 180)] [(13, 13)] [(-1, 60)] [(0, 3)] [(0, 0)]
def mgh19542 : aw_H := [(81, mgx19541), (89, mgx497), (90, .inr (.inl (0, 240, [], []))), (92, .inr (.inl (0, 8, [], []))), (93, .inr (.inl (0, 8, [], []))), (94, mgx5049)]
def mgn1422_83 : Nat × aw_S := (46, [(0, .inl 81), (1, .inr (false, [(0, 3)])), (2, .inr (false, [(0, 0)]))], [], mgh19542)
def mgx19543 : aw_A := ms_o [(0, 8)] [(0, 4)] ar_t32 ar_t32 [(0, 180)] [(12, 12)] [(-1, 60)] [(0, 2)] [(0, 0)]
def mgh19544 : aw_H := [(81, mgx19543), (89, mgx497), (90, .inr (.inl (0, 240, [], []))), (92, .inr (.inl (0, 8, [], []))), (93, .inr (.inl (0, 8, [], []))), (94, mgx5049)]
def mgn1422_84 : Nat × aw_S := (46, [(0, .inl 81), (1, .inr (false, [(0, 3)])), (2, .inr (false, [(0, 0)]))], [], mgh19544)
def mgx19545 : aw_A := ms_o [(0, 8)] [(0, 4)] ar_t32 ar_t32 [(0, 180)] [(16, 16)] [(1, 60)] [(0, 3)] [(0, 0)]
def mgh19546 : aw_H := [(81, mgx19545), (89, mgx497), (90, .inr (.inl (0, 240, [], []))), (92, .inr (.inl (0, 8, [], []))), (93, .inr (.inl (0, 8, [], []))), (94, mgx5049)]
def mgn1422_85 : Nat × aw_S := (46, [(0, .inl 81), (1, .inr (false, [(0, 3)])), (2, .inr (false, [(1, 1)]))], [], mgh19546)
def mgx19547 : aw_A := ms_o [(0, 8)] [(0, 4)] ar_t32 ar_t32 [(0, 180)] [(15, 15)] [(8, 60)] [(1, 2)] [(1, 1)]
def mgh19548 : aw_H := [(81, mgx19547), (89, mgx497), (90, .inr (.inl (0, 240, [], []))), (92, .inr (.inl (0, 8, [], []))), (93, .inr (.inl (0, 8, [], []))), (94, mgx5052)]
def mgn1422_86 : Nat × aw_S := (46, [(0, .inl 81), (1, .inr (false, [(0, 3)])), (2, .inr (false, [(1, 1)]))], [], mgh19548)
def mgx19549 : aw_A := ms_o [(0, 8)] [(0, 4)] ar_t32 ar_t32 [(0, 180)] [(18, 18)] [(11, 60)] [(1, 2)] [(2, 2)]
def mgh19550 : aw_H := [(81, mgx19549), (89, mgx497), (90, .inr (.inl (0, 240, [], []))), (92, .inr (.inl (0, 8, [], []))), (93, .inr (.inl (0, 8, [], []))), (94, mgx5820)]
def mgn1422_87 : Nat × aw_S := (46, [(0, .inl 81), (1, .inr (false, [(0, 3)])), (2, .inr (false, [(1, 1)]))], [], mgh19550)
def mgx19551 : aw_A := ms_o [(0, 8)] [(0, 4)] ar_t32 ar_t32 [(0, 180)] [(21, 21)] [(14, 60)] [(1, 2)] [(3, 3)]
def mgh19552 : aw_H := [(81, mgx19551), (89, mgx497), (90, .inr (.inl (0, 240, [], []))), (92, .inr (.inl (0, 8, [], []))), (93, .inr (.inl (0, 8, [], []))), (94, mgx6868)]
def mgn1422_88 : Nat × aw_S := (46, [(0, .inl 81), (1, .inr (false, [(0, 3)])), (2, .inr (false, [(1, 1)]))], [], mgh19552)
def mgx19553 : aw_A := ms_o [(0, 8)] [(0, 4)] ar_t32 ar_t32 [(0, 180)] [(24, 24)] [(17, 60)] [(1, 2)] [(4, 4)]
def mgh19554 : aw_H := [(81, mgx19553), (89, mgx497), (90, .inr (.inl (0, 240, [], []))), (92, .inr (.inl (0, 8, [], []))), (93, .inr (.inl (0, 8, [], []))), (94, mgx8150)]
def mgn1422_89 : Nat × aw_S := (46, [(0, .inl 81), (1, .inr (false, [(0, 3)])), (2, .inr (false, [(1, 1)]))], [], mgh19554)
def mgh19555 : aw_H := [(81, mgx12518), (89, mgx497), (90, .inr (.inl (0, 240, [], []))), (92, .inr (.inl (0, 8, [], []))), (93, .inr (.inl (0, 8, [], []))), (94, mgx8150)]
def mgn1422_90 : Nat × aw_S := (46, [(0, .inl 81), (1, .inr (false, [(0, 3)])), (2, .inr (false, [(0, 0)]))], [], mgh19555)
def mgh19556 : aw_H := [(81, mgx9899), (89, mgx497), (90, .inr (.inl (0, 240, [], []))), (92, .inr (.inl (0, 8, [], []))), (93, .inr (.inl (0, 8, [], []))), (94, mgx6868)]
def mgn1422_91 : Nat × aw_S := (46, [(0, .inl 81), (1, .inr (false, [(0, 3)])), (2, .inr (false, [(0, 0)]))], [], mgh19556)
def mgh19557 : aw_H := [(81, mgx8433), (89, mgx497), (90, .inr (.inl (0, 240, [], []))), (92, .inr (.inl (0, 8, [], []))), (93, .inr (.inl (0, 8, [], []))), (94, mgx5820)]
def mgn1422_92 : Nat × aw_S := (46, [(0, .inl 81), (1, .inr (false, [(0, 3)])), (2, .inr (false, [(0, 0)]))], [], mgh19557)
def mgx19558 : aw_A := ms_o [(0, 8)] [(0, 4)] ar_t32 ar_t32 [(0, 180)] [(19, 19)] [(11, 60)] [(1, 3)] [(2, 2)]
def mgh19559 : aw_H := [(81, mgx19558), (89, mgx497), (90, .inr (.inl (0, 240, [], []))), (92, .inr (.inl (0, 8, [], []))), (93, .inr (.inl (0, 8, [], []))), (94, mgx5820)]
def mgn1422_93 : Nat × aw_S := (46, [(0, .inl 81), (1, .inr (false, [(0, 3)])), (2, .inr (false, [(1, 1)]))], [], mgh19559)
def mgx19560 : aw_A := ms_o [(0, 8)] [(0, 4)] ar_t32 ar_t32 [(0, 180)] [(22, 22)] [(14, 60)] [(1, 3)] [(3, 3)]
def mgh19561 : aw_H := [(81, mgx19560), (89, mgx497), (90, .inr (.inl (0, 240, [], []))), (92, .inr (.inl (0, 8, [], []))), (93, .inr (.inl (0, 8, [], []))), (94, mgx6868)]
def mgn1422_94 : Nat × aw_S := (46, [(0, .inl 81), (1, .inr (false, [(0, 3)])), (2, .inr (false, [(1, 1)]))], [], mgh19561)
def mgh19562 : aw_H := [(81, mgx10333), (89, mgx497), (90, .inr (.inl (0, 240, [], []))), (92, .inr (.inl (0, 8, [], []))), (93, .inr (.inl (0, 8, [], []))), (94, mgx6868)]
def mgn1422_95 : Nat × aw_S := (46, [(0, .inl 81), (1, .inr (false, [(0, 3)])), (2, .inr (false, [(0, 0)]))], [], mgh19562)
def mgx19563 : aw_A := ms_o [(0, 8)] [(0, 4)] ar_t32 ar_t32 [(0, 180)] [(25, 25)] [(17, 60)] [(1, 3)] [(4, 4)]
def mgh19564 : aw_H := [(81, mgx19563), (89, mgx497), (90, .inr (.inl (0, 240, [], []))), (92, .inr (.inl (0, 8, [], []))), (93, .inr (.inl (0, 8, [], []))), (94, mgx8150)]
def mgn1422_96 : Nat × aw_S := (46, [(0, .inl 81), (1, .inr (false, [(0, 3)])), (2, .inr (false, [(1, 1)]))], [], mgh19564)
def mgh19565 : aw_H := [(81, mgx12901), (89, mgx497), (90, .inr (.inl (0, 240, [], []))), (92, .inr (.inl (0, 8, [], []))), (93, .inr (.inl (0, 8, [], []))), (94, mgx8150)]
def mgn1422_97 : Nat × aw_S := (46, [(0, .inl 81), (1, .inr (false, [(0, 3)])), (2, .inr (false, [(0, 0)]))], [], mgh19565)
def mgh19566 : aw_H := [(81, mgx8894), (89, mgx497), (90, .inr (.inl (0, 240, [], []))), (92, .inr (.inl (0, 8, [], []))), (93, .inr (.inl (0, 8, [], []))), (94, mgx5820)]
def mgn1422_98 : Nat × aw_S := (46, [(0, .inl 81), (1, .inr (false, [(0, 3)])), (2, .inr (false, [(0, 0)]))], [], mgh19566)
def mgh19567 : aw_H := [(81, mgx7067), (89, mgx497), (90, .inr (.inl (0, 240, [], []))), (92, .inr (.inl (0, 8, [], []))), (93, .inr (.inl (0, 8, [], []))), (94, mgx5052)]
def mgn1422_99 : Nat × aw_S := (46, [(0, .inl 81), (1, .inr (false, [(0, 3)])), (2, .inr (false, [(0, 0)]))], [], mgh19567)
def mgh19568 : aw_H := [(81, mgx7468), (89, mgx497), (90, .inr (.inl (0, 240, [], []))), (92, .inr (.inl (0, 8, [], []))), (93, .inr (.inl (0, 8, [], []))), (94, mgx5052)]
def mgn1422_100 : Nat × aw_S := (46, [(0, .inl 81), (1, .inr (false, [(0, 3)])), (2, .inr (false, [(0, 0)]))], [], mgh19568)
def mgx19569 : aw_A := ms_o [(0, 8)] [(0, 4)] ar_t32 ar_t32 [(0, 180)] [(17, 17)] [(1, 60)] [(0, 4)] [(0, 0)]
def mgh19570 : aw_H := [(81, mgx19569), (89, mgx497), (90, .inr (.inl (0, 240, [], []))), (92, .inr (.inl (0, 8, [], []))), (93, .inr (.inl (0, 8, [], []))), (94, mgx5049)]
def mgn1422_101 : Nat × aw_S := (46, [(0, .inl 81), (1, .inr (false, [(0, 3)])), (2, .inr (false, [(1, 1)]))], [], mgh19570)
def mgh19571 : aw_H := [(81, mgx508), (89, mgx497), (90, .inr (.inl (0, 240, [], []))), (92, .inr (.inl (0, 8, [], []))), (93, .inr (.inl (0, 8, [], []))), (94, mgx5049)]
def mgn1422_102 : Nat × aw_S := (46, [(0, .inl 81), (1, .inr (false, [(0, 3)])), (2, .inr (false, [(0, 0)]))], [], mgh19571)
def mgx19572 : aw_A := ms_o [(0, 8)] [(0, 4)] ar_t32 ar_t32 [(0, 180)] [(14, 14)] [(1, 60)] [(0, 3)] [(0, 0)]
def mgh19573 : aw_H := [(81, mgx19572), (89, mgx497), (90, .inr (.inl (0, 240, [], []))), (92, .inr (.inl (0, 8, [], []))), (93, .inr (.inl (0, 8, [], []))), (94, mgx5049)]
def mgn1422_103 : Nat × aw_S := (46, [(0, .inl 81), (1, .inr (false, [(0, 3)])), (2, .inr (false, [(1, 1)]))], [], mgh19573)
def mgx19574 : aw_A := ms_o [(0, 8)] [(0, 4)] ar_t32 ar_t32 [(0, 180)] [(14, 14)] [(-1, 60)] [(0, 3)] [(0, 0)]
def mgh19575 : aw_H := [(81, mgx19574), (89, mgx497), (90, .inr (.inl (0, 240, [], []))), (92, .inr (.inl (0, 8, [], []))), (93, .inr (.inl (0, 8, [], []))), (94, mgx5049)]
def mgn1422_104 : Nat × aw_S := (46, [(0, .inl 81), (1, .inr (false, [(0, 3)])), (2, .inr (false, [(0, 0)]))], [], mgh19575)
def mgx19576 : aw_A := ms_o [(0, 8)] [(0, 4)] ar_t32 ar_t32 [(0, 180)] [(15, 15)] [(-1, 60)] [(0, 3)] [(0, 0)]
def mgh19577 : aw_H := [(81, mgx19576), (89, mgx497), (90, .inr (.inl (0, 240, [], []))), (92, .inr (.inl (0, 8, [], []))), (93, .inr (.inl (0, 8, [], []))), (94, mgx5049)]
def mgn1422_105 : Nat × aw_S := (46, [(0, .inl 81), (1, .inr (false, [(0, 3)])), (2, .inr (false, [(0, 0)]))], [], mgh19577)
def mgx19578 : aw_A := ms_o [(0, 8)] [(0, 4)] ar_t32 ar_t32 [(0, 180)] [(16, 16)] [(-1, 60)] [(0, 3)] [(0, 0)]
def mgh19579 : aw_H := [(81, mgx19578), (89, mgx497), (90, .inr (.inl (0, 240, [], []))), (92, .inr (.inl (0, 8, [], []))), (93, .inr (.inl (0, 8, [], []))), (94, mgx5049)]
def mgn1422_106 : Nat × aw_S := (46, [(0, .inl 81), (1, .inr (false, [(0, 3)])), (2, .inr (false, [(0, 0)]))], [], mgh19579)
def mgx19580 : aw_A := ms_o [(0, 8)] [(0, 4)] ar_t32 ar_t32 [(0, 180)] [(17, 17)] [(-1, 60)] [(0, 4)] [(0, 0)]
def mgh19581 : aw_H := [(81, mgx19580), (89, mgx497), (90, .inr (.inl (0, 240, [], []))), (92, .inr (.inl (0, 8, [], []))), (93, .inr (.inl (0, 8, [], []))), (94, mgx5049)]
def mgn1422_107 : Nat × aw_S := (46, [(0, .inl 81), (1, .inr (false, [(0, 3)])), (2, .inr (false, [(0, 0)]))], [], mgh19581)
def mgx19582 : aw_A := ms_o [(0, 8)] [(0, 4)] ar_t32 ar_t32 [(0, 180)] [(18, 18)] [(1, 60)] [(0, 4)] [(0, 0)]
def mgh19583 : aw_H := [(81, mgx19582), (89, mgx497), (90, .inr (.inl (0, 240, [], []))), (92, .inr (.inl (0, 8, [], []))), (93, .inr (.inl (0, 8, [], []))), (94, mgx5049)]
def mgn1422_108 : Nat × aw_S := (46, [(0, .inl 81), (1, .inr (false, [(0, 3)])), (2, .inr (false, [(1, 1)]))], [], mgh19583)
def mgx19584 : aw_A := ms_o [(0, 8)] [(0, 4)] ar_t32 ar_t32 [(0, 180)] [(18, 18)] [(-1, 60)] [(0, 4)] [(0, 0)]
def mgh19585 : aw_H := [(81, mgx19584), (89, mgx497), (90, .inr (.inl (0, 240, [], []))), (92, .inr (.inl (0, 8, [], []))), (93, .inr (.inl (0, 8, [], []))), (94, mgx5049)]
def mgn1422_109 : Nat × aw_S := (46, [(0, .inl 81), (1, .inr (false, [(0, 3)])), (2, .inr (false, [(0, 0)]))], [], mgh19585)
def mgx19586 : aw_A := ms_o [(0, 8)] [(0, 4)] ar_t32 ar_t32 [(0, 180)] [(21, 21)] [(1, 60)] [(0, 5)] [(0, 0)]
def mgh19587 : aw_H := [(81, mgx19586), (89, mgx497), (90, .inr (.inl (0, 240, [], []))), (92, .inr (.inl (0, 8, [], []))), (93, .inr (.inl (0, 8, [], []))), (94, mgx5049)]
def mgn1422_110 : Nat × aw_S := (46, [(0, .inl 81), (1, .inr (false, [(0, 3)])), (2, .inr (false, [(1, 1)]))], [], mgh19587)
def mgx19588 : aw_A := ms_o [(0, 8)] [(0, 4)] ar_t32 ar_t32 [(0, 180)] [(17, 17)] [(8, 60)] [(1, 3)] [(1, 1)]
def mgh19589 : aw_H := [(81, mgx19588), (89, mgx497), (90, .inr (.inl (0, 240, [], []))), (92, .inr (.inl (0, 8, [], []))), (93, .inr (.inl (0, 8, [], []))), (94, mgx5052)]
def mgn1422_111 : Nat × aw_S := (46, [(0, .inl 81), (1, .inr (false, [(0, 3)])), (2, .inr (false, [(1, 1)]))], [], mgh19589)
def mgx19590 : aw_A := ms_o [(0, 8)] [(0, 4)] ar_t32 ar_t32 [(0, 180)] [(20, 20)] [(11, 60)] [(1, 3)] [(2, 2)]
def mgh19591 : aw_H := [(81, mgx19590), (89, mgx497), (90, .inr (.inl (0, 240, [], []))), (92, .inr (.inl (0, 8, [], []))), (93, .inr (.inl (0, 8, [], []))), (94, mgx5820)]
def mgn1422_112 : Nat × aw_S := (46, [(0, .inl 81), (1, .inr (false, [(0, 3)])), (2, .inr (false, [(1, 1)]))], [], mgh19591)
def mgh19592 : aw_H := [(81, mgx9358), (89, mgx497), (90, .inr (.inl (0, 240, [], []))), (92, .inr (.inl (0, 8, [], []))), (93, .inr (.inl (0, 8, [], []))), (94, mgx5820)]
def mgn1422_113 : Nat × aw_S := (46, [(0, .inl 81), (1, .inr (false, [(0, 3)])), (2, .inr (false, [(0, 0)]))], [], mgh19592)
def mgx19593 : aw_A := ms_o [(0, 8)] [(0, 4)] ar_t32 ar_t32 [(0, 180)] [(23, 23)] [(14, 60)] [(1, 3)] [(3, 3)]
def mgh19594 : aw_H := [(81, mgx19593), (89, mgx497), (90, .inr (.inl (0, 240, [], []))), (92, .inr (.inl (0, 8, [], []))), (93, .inr (.inl (0, 8, [], []))), (94, mgx6868)]
def mgn1422_114 : Nat × aw_S := (46, [(0, .inl 81), (1, .inr (false, [(0, 3)])), (2, .inr (false, [(1, 1)]))], [], mgh19594)
def mgx19595 : aw_A := ms_o [(0, 8)] [(0, 4)] ar_t32 ar_t32 [(0, 180)] [(26, 26)] [(17, 60)] [(1, 3)] [(4, 4)]
def mgh19596 : aw_H := [(81, mgx19595), (89, mgx497), (90, .inr (.inl (0, 240, [], []))), (92, .inr (.inl (0, 8, [], []))), (93, .inr (.inl (0, 8, [], []))), (94, mgx8150)]
def mgn1422_115 : Nat × aw_S := (46, [(0, .inl 81), (1, .inr (false, [(0, 3)])), (2, .inr (false, [(1, 1)]))], [], mgh19596)
def mgh19597 : aw_H := [(81, mgx13263), (89, mgx497), (90, .inr (.inl (0, 240, [], []))), (92, .inr (.inl (0, 8, [], []))), (93, .inr (.inl (0, 8, [], []))), (94, mgx8150)]
def mgn1422_116 : Nat × aw_S := (46, [(0, .inl 81), (1, .inr (false, [(0, 3)])), (2, .inr (false, [(0, 0)]))], [], mgh19597)
def mgh19598 : aw_H := [(81, mgx10756), (89, mgx497), (90, .inr (.inl (0, 240, [], []))), (92, .inr (.inl (0, 8, [], []))), (93, .inr (.inl (0, 8, [], []))), (94, mgx6868)]
def mgn1422_117 : Nat × aw_S := (46, [(0, .inl 81), (1, .inr (false, [(0, 3)])), (2, .inr (false, [(0, 0)]))], [], mgh19598)
def mgh19599 : aw_H := [(81, mgx7858), (89, mgx497), (90, .inr (.inl (0, 240, [], []))), (92, .inr (.inl (0, 8, [], []))), (93, .inr (.inl (0, 8, [], []))), (94, mgx5052)]
def mgn1422_118 : Nat × aw_S := (46, [(0, .inl 81), (1, .inr (false, [(0, 3)])), (2, .inr (false, [(0, 0)]))], [], mgh19599)
def mgx19600 : aw_A := ms_o [(0, 8)] [(0, 4)] ar_t32 ar_t32 [(0, 180)] [(20, 20)] [(8, 60)] [(1, 4)] [(1, 1)]
def mgh19601 : aw_H := [(81, mgx19600), (89, mgx497), (90, .inr (.inl (0, 240, [], []))), (92, .inr (.inl (0, 8, [], []))), (93, .inr (.inl (0, 8, [], []))), (94, mgx5052)]
def mgn1422_119 : Nat × aw_S := (46, [(0, .inl 81), (1, .inr (false, [(0, 3)])), (2, .inr (false, [(1, 1)]))], [], mgh19601)
def mgx19602 : aw_A := ms_o [(0, 8)] [(0, 4)] ar_t32 ar_t32 [(0, 180)] [(22, 22)] [(1, 60)] [(0, 5)] [(0, 0)]
def mgh19603 : aw_H := [(81, mgx19602), (89, mgx497), (90, .inr (.inl (0, 240, [], []))), (92, .inr (.inl (0, 8, [], []))), (93, .inr (.inl (0, 8, [], []))), (94, mgx5049)]
def mgn1422_120 : Nat × aw_S := (46, [(0, .inl 81), (1, .inr (false, [(0, 3)])), (2, .inr (false, [(1, 1)]))], [], mgh19603)
def mgx19604 : aw_A := ms_o [(0, 8)] [(0, 4)] ar_t32 ar_t32 [(0, 180)] [(19, 19)] [(1, 60)] [(0, 4)] [(0, 0)]
def mgh19605 : aw_H := [(81, mgx19604), (89, mgx497), (90, .inr (.inl (0, 240, [], []))), (92, .inr (.inl (0, 8, [], []))), (93, .inr (.inl (0, 8, [], []))), (94, mgx5049)]
def mgn1422_121 : Nat × aw_S := (46, [(0, .inl 81), (1, .inr (false, [(0, 3)])), (2, .inr (false, [(1, 1)]))], [], mgh19605)
def mgx19606 : aw_A := ms_o [(0, 8)] [(0, 4)] ar_t32 ar_t32 [(0, 180)] [(19, 19)] [(-1, 60)] [(0, 4)] [(0, 0)]
def mgh19607 : aw_H := [(81, mgx19606), (89, mgx497), (90, .inr (.inl (0, 240, [], []))), (92, .inr (.inl (0, 8, [], []))), (93, .inr (.inl (0, 8, [], []))), (94, mgx5049)]
def mgn1422_122 : Nat × aw_S := (46, [(0, .inl 81), (1, .inr (false, [(0, 3)])), (2, .inr (false, [(0, 0)]))], [], mgh19607)
def mgx19608 : aw_A := ms_o [(0, 8)] [(0, 4)] ar_t32 ar_t32 [(0, 180)] [(22, 22)] [(8, 60)] [(1, 4)] [(1, 1)]
def mgh19609 : aw_H := [(81, mgx19608), (89, mgx497), (90, .inr (.inl (0, 240, [], []))), (92, .inr (.inl (0, 8, [], []))), (93, .inr (.inl (0, 8, [], []))), (94, mgx5052)]
def mgn1422_123 : Nat × aw_S := (46, [(0, .inl 81), (1, .inr (false, [(0, 3)])), (2, .inr (false, [(1, 1)]))], [], mgh19609)
def mgx19610 : aw_A := ms_o [(0, 8)] [(0, 4)] ar_t32 ar_t32 [(0, 180)] [(21, 21)] [(8, 60)] [(1, 4)] [(1, 1)]
def mgh19611 : aw_H := [(81, mgx19610), (89, mgx497), (90, .inr (.inl (0, 240, [], []))), (92, .inr (.inl (0, 8, [], []))), (93, .inr (.inl (0, 8, [], []))), (94, mgx5052)]
def mgn1422_124 : Nat × aw_S := (46, [(0, .inl 81), (1, .inr (false, [(0, 3)])), (2, .inr (false, [(1, 1)]))], [], mgh19611)
def mgh19612 : aw_H := [(81, mgx10160), (89, mgx497), (90, .inr (.inl (0, 240, [], []))), (92, .inr (.inl (0, 8, [], []))), (93, .inr (.inl (0, 8, [], []))), (94, mgx5052)]
def mgn1422_125 : Nat × aw_S := (46, [(0, .inl 81), (1, .inr (false, [(0, 3)])), (2, .inr (false, [(0, 0)]))], [], mgh19612)
def mgx19613 : aw_A := ms_o [(0, 8)] [(0, 4)] ar_t32 ar_t32 [(0, 180)] [(23, 23)] [(1, 60)] [(0, 5)] [(0, 0)]
def mgh19614 : aw_H := [(81, mgx19613), (89, mgx497), (90, .inr (.inl (0, 240, [], []))), (92, .inr (.inl (0, 8, [], []))), (93, .inr (.inl (0, 8, [], []))), (94, mgx5049)]
def mgn1422_126 : Nat × aw_S := (46, [(0, .inl 81), (1, .inr (false, [(0, 3)])), (2, .inr (false, [(1, 1)]))], [], mgh19614)
def mgx19615 : aw_A := ms_o [(0, 8)] [(0, 4)] ar_t32 ar_t32 [(0, 180)] [(19, 19)] [(8, 60)] [(1, 3)] [(1, 1)]
def mgh19616 : aw_H := [(81, mgx19615), (89, mgx497), (90, .inr (.inl (0, 240, [], []))), (92, .inr (.inl (0, 8, [], []))), (93, .inr (.inl (0, 8, [], []))), (94, mgx5052)]
def mgn1422_127 : Nat × aw_S := (46, [(0, .inl 81), (1, .inr (false, [(0, 3)])), (2, .inr (false, [(1, 1)]))], [], mgh19616)
def mgh19617 : aw_H := [(81, mgx9719), (89, mgx497), (90, .inr (.inl (0, 240, [], []))), (92, .inr (.inl (0, 8, [], []))), (93, .inr (.inl (0, 8, [], []))), (94, mgx5052)]
def mgn1422_128 : Nat × aw_S := (46, [(0, .inl 81), (1, .inr (false, [(0, 3)])), (2, .inr (false, [(0, 0)]))], [], mgh19617)
def mgx19618 : aw_A := ms_o [(0, 8)] [(0, 4)] ar_t32 ar_t32 [(0, 180)] [(18, 18)] [(8, 60)] [(1, 3)] [(1, 1)]
def mgh19619 : aw_H := [(81, mgx19618), (89, mgx497), (90, .inr (.inl (0, 240, [], []))), (92, .inr (.inl (0, 8, [], []))), (93, .inr (.inl (0, 8, [], []))), (94, mgx5052)]
def mgn1422_129 : Nat × aw_S := (46, [(0, .inl 81), (1, .inr (false, [(0, 3)])), (2, .inr (false, [(1, 1)]))], [], mgh19619)
def mgh19620 : aw_H := [(81, mgx9266), (89, mgx497), (90, .inr (.inl (0, 240, [], []))), (92, .inr (.inl (0, 8, [], []))), (93, .inr (.inl (0, 8, [], []))), (94, mgx5052)]
def mgn1422_130 : Nat × aw_S := (46, [(0, .inl 81), (1, .inr (false, [(0, 3)])), (2, .inr (false, [(0, 0)]))], [], mgh19620)
def mgx19621 : aw_A := ms_o [(0, 8)] [(0, 4)] ar_t32 ar_t32 [(0, 180)] [(24, 24)] [(11, 60)] [(1, 4)] [(2, 2)]
def mgh19622 : aw_H := [(81, mgx19621), (89, mgx497), (90, .inr (.inl (0, 240, [], []))), (92, .inr (.inl (0, 8, [], []))), (93, .inr (.inl (0, 8, [], []))), (94, mgx5820)]
def mgn1422_131 : Nat × aw_S := (46, [(0, .inl 81), (1, .inr (false, [(0, 3)])), (2, .inr (false, [(1, 1)]))], [], mgh19622)
def mgh19623 : aw_H := [(81, mgx8337), (89, mgx497), (90, .inr (.inl (0, 240, [], []))), (92, .inr (.inl (0, 8, [], []))), (93, .inr (.inl (0, 8, [], []))), (94, mgx5052)]
def mgn1422_132 : Nat × aw_S := (46, [(0, .inl 81), (1, .inr (false, [(0, 3)])), (2, .inr (false, [(0, 0)]))], [], mgh19623)
def mgx19624 : aw_A := ms_o [(0, 8)] [(0, 4)] ar_t32 ar_t32 [(0, 180)] [(21, 21)] [(11, 60)] [(1, 3)] [(2, 2)]
def mgh19625 : aw_H := [(81, mgx19624), (89, mgx497), (90, .inr (.inl (0, 240, [], []))), (92, .inr (.inl (0, 8, [], []))), (93, .inr (.inl (0, 8, [], []))), (94, mgx5820)]
def mgn1422_133 : Nat × aw_S := (46, [(0, .inl 81), (1, .inr (false, [(0, 3)])), (2, .inr (false, [(1, 1)]))], [], mgh19625)
def mgx19626 : aw_A := ms_o [(0, 8)] [(0, 4)] ar_t32 ar_t32 [(0, 180)] [(24, 24)] [(14, 60)] [(1, 3)] [(3, 3)]
def mgh19627 : aw_H := [(81, mgx19626), (89, mgx497), (90, .inr (.inl (0, 240, [], []))), (92, .inr (.inl (0, 8, [], []))), (93, .inr (.inl (0, 8, [], []))), (94, mgx6868)]
def mgn1422_134 : Nat × aw_S := (46, [(0, .inl 81), (1, .inr (false, [(0, 3)])), (2, .inr (false, [(1, 1)]))], [], mgh19627)
def mgx19628 : aw_A := ms_o [(0, 8)] [(0, 4)] ar_t32 ar_t32 [(0, 180)] [(27, 27)] [(17, 60)] [(1, 3)] [(4, 4)]
def mgh19629 : aw_H := [(81, mgx19628), (89, mgx497), (90, .inr (.inl (0, 240, [], []))), (92, .inr (.inl (0, 8, [], []))), (93, .inr (.inl (0, 8, [], []))), (94, mgx8150)]
def mgn1422_135 : Nat × aw_S := (46, [(0, .inl 81), (1, .inr (false, [(0, 3)])), (2, .inr (false, [(1, 1)]))], [], mgh19629)
def mgh19630 : aw_H := [(81, mgx13614), (89, mgx497), (90, .inr (.inl (0, 240, [], []))), (92, .inr (.inl (0, 8, [], []))), (93, .inr (.inl (0, 8, [], []))), (94, mgx8150)]
def mgn1422_136 : Nat × aw_S := (46, [(0, .inl 81), (1, .inr (false, [(0, 3)])), (2, .inr (false, [(0, 0)]))], [], mgh19630)
def mgh19631 : aw_H := [(81, mgx11182), (89, mgx497), (90, .inr (.inl (0, 240, [], []))), (92, .inr (.inl (0, 8, [], []))), (93, .inr (.inl (0, 8, [], []))), (94, mgx6868)]
def mgn1422_137 : Nat × aw_S := (46, [(0, .inl 81), (1, .inr (false, [(0, 3)])), (2, .inr (false, [(0, 0)]))], [], mgh19631)
def mgh19632 : aw_H := [(81, mgx9809), (89, mgx497), (90, .inr (.inl (0, 240, [], []))), (92, .inr (.inl (0, 8, [], []))), (93, .inr (.inl (0, 8, [], []))), (94, mgx5820)]
def mgn1422_138 : Nat × aw_S := (46, [(0, .inl 81), (1, .inr (false, [(0, 3)])), (2, .inr (false, [(0, 0)]))], [], mgh19632)
def mgx19633 : aw_A := ms_o [(0, 8)] [(0, 4)] ar_t32 ar_t32 [(0, 180)] [(22, 22)] [(11, 60)] [(1, 3)] [(2, 2)]
def mgh19634 : aw_H := [(81, mgx19633), (89, mgx497), (90, .inr (.inl (0, 240, [], []))), (92, .inr (.inl (0, 8, [], []))), (93, .inr (.inl (0, 8, [], []))), (94, mgx5820)]
def mgn1422_139 : Nat × aw_S := (46, [(0, .inl 81), (1, .inr (false, [(0, 3)])), (2, .inr (false, [(1, 1)]))], [], mgh19634)
def mgx19635 : aw_A := ms_o [(0, 8)] [(0, 4)] ar_t32 ar_t32 [(0, 180)] [(25, 25)] [(14, 60)] [(1, 3)] [(3, 3)]
def mgh19636 : aw_H := [(81, mgx19635), (89, mgx497), (90, .inr (.inl (0, 240, [], []))), (92, .inr (.inl (0, 8, [], []))), (93, .inr (.inl (0, 8, [], []))), (94, mgx6868)]
def mgn1422_140 : Nat × aw_S := (46, [(0, .inl 81), (1, .inr (false, [(0, 3)])), (2, .inr (false, [(1, 1)]))], [], mgh19636)
def mgx19637 : aw_A := ms_o [(0, 8)] [(0, 4)] ar_t32 ar_t32 [(0, 180)] [(28, 28)] [(17, 60)] [(1, 3)] [(4, 4)]
def mgh19638 : aw_H := [(81, mgx19637), (89, mgx497), (90, .inr (.inl (0, 240, [], []))), (92, .inr (.inl (0, 8, [], []))), (93, .inr (.inl (0, 8, [], []))), (94, mgx8150)]
def mgn1422_141 : Nat × aw_S := (46, [(0, .inl 81), (1, .inr (false, [(0, 3)])), (2, .inr (false, [(1, 1)]))], [], mgh19638)
def mgh19639 : aw_H := [(81, mgx13955), (89, mgx497), (90, .inr (.inl (0, 240, [], []))), (92, .inr (.inl (0, 8, [], []))), (93, .inr (.inl (0, 8, [], []))), (94, mgx8150)]
def mgn1422_142 : Nat × aw_S := (46, [(0, .inl 81), (1, .inr (false, [(0, 3)])), (2, .inr (false, [(0, 0)]))], [], mgh19639)
def mgh19640 : aw_H := [(81, mgx11592), (89, mgx497), (90, .inr (.inl (0, 240, [], []))), (92, .inr (.inl (0, 8, [], []))), (93, .inr (.inl (0, 8, [], []))), (94, mgx6868)]
def mgn1422_143 : Nat × aw_S := (46, [(0, .inl 81), (1, .inr (false, [(0, 3)])), (2, .inr (false, [(0, 0)]))], [], mgh19640)
def mgh19641 : aw_H := [(81, mgx10248), (89, mgx497), (90, .inr (.inl (0, 240, [], []))), (92, .inr (.inl (0, 8, [], []))), (93, .inr (.inl (0, 8, [], []))), (94, mgx5820)]
def mgn1422_144 : Nat × aw_S := (46, [(0, .inl 81), (1, .inr (false, [(0, 3)])), (2, .inr (false, [(0, 0)]))], [], mgh19641)
def mgx19642 : aw_A := ms_o [(0, 8)] [(0, 4)] ar_t32 ar_t32 [(0, 180)] [(25, 25)] [(11, 60)] [(1, 4)] [(2, 2)]
def mgh19643 : aw_H := [(81, mgx19642), (89, mgx497), (90, .inr (.inl (0, 240, [], []))), (92, .inr (.inl (0, 8, [], []))), (93, .inr (.inl (0, 8, [], []))), (94, mgx5820)]
def mgn1422_145 : Nat × aw_S := (46, [(0, .inl 81), (1, .inr (false, [(0, 3)])), (2, .inr (false, [(1, 1)]))], [], mgh19643)
def mgx19644 : aw_A := ms_o [(0, 8)] [(0, 4)] ar_t32 ar_t32 [(0, 180)] [(23, 23)] [(11, 60)] [(1, 4)] [(2, 2)]
def mgh19645 : aw_H := [(81, mgx19644), (89, mgx497), (90, .inr (.inl (0, 240, [], []))), (92, .inr (.inl (0, 8, [], []))), (93, .inr (.inl (0, 8, [], []))), (94, mgx5820)]
def mgn1422_146 : Nat × aw_S := (46, [(0, .inl 81), (1, .inr (false, [(0, 3)])), (2, .inr (false, [(1, 1)]))], [], mgh19645)
def mgh19646 : aw_H := [(81, mgx10672), (89, mgx497), (90, .inr (.inl (0, 240, [], []))), (92, .inr (.inl (0, 8, [], []))), (93, .inr (.inl (0, 8, [], []))), (94, mgx5820)]
def mgn1422_147 : Nat × aw_S := (46, [(0, .inl 81), (1, .inr (false, [(0, 3)])), (2, .inr (false, [(0, 0)]))], [], mgh19646)
def mgx19647 : aw_A := ms_o [(0, 8)] [(0, 4)] ar_t32 ar_t32 [(0, 180)] [(26, 26)] [(14, 60)] [(1, 4)] [(3, 3)]
def mgh19648 : aw_H := [(81, mgx19647), (89, mgx497), (90, .inr (.inl (0, 240, [], []))), (92, .inr (.inl (0, 8, [], []))), (93, .inr (.inl (0, 8, [], []))), (94, mgx6868)]
def mgn1422_148 : Nat × aw_S := (46, [(0, .inl 81), (1, .inr (false, [(0, 3)])), (2, .inr (false, [(1, 1)]))], [], mgh19648)
def mgx19649 : aw_A := ms_o [(0, 8)] [(0, 4)] ar_t32 ar_t32 [(0, 180)] [(29, 29)] [(17, 60)] [(1, 4)] [(4, 4)]
def mgh19650 : aw_H := [(81, mgx19649), (89, mgx497), (90, .inr (.inl (0, 240, [], []))), (92, .inr (.inl (0, 8, [], []))), (93, .inr (.inl (0, 8, [], []))), (94, mgx8150)]
def mgn1422_149 : Nat × aw_S := (46, [(0, .inl 81), (1, .inr (false, [(0, 3)])), (2, .inr (false, [(1, 1)]))], [], mgh19650)
def mgh19651 : aw_H := [(81, mgx14298), (89, mgx497), (90, .inr (.inl (0, 240, [], []))), (92, .inr (.inl (0, 8, [], []))), (93, .inr (.inl (0, 8, [], []))), (94, mgx8150)]
def mgn1422_150 : Nat × aw_S := (46, [(0, .inl 81), (1, .inr (false, [(0, 3)])), (2, .inr (false, [(0, 0)]))], [], mgh19651)
def mgh19652 : aw_H := [(81, mgx11986), (89, mgx497), (90, .inr (.inl (0, 240, [], []))), (92, .inr (.inl (0, 8, [], []))), (93, .inr (.inl (0, 8, [], []))), (94, mgx6868)]
def mgn1422_151 : Nat × aw_S := (46, [(0, .inl 81), (1, .inr (false, [(0, 3)])), (2, .inr (false, [(0, 0)]))], [], mgh19652)
def mgh19653 : aw_H := [(81, mgx11510), (89, mgx497), (90, .inr (.inl (0, 240, [], []))), (92, .inr (.inl (0, 8, [], []))), (93, .inr (.inl (0, 8, [], []))), (94, mgx5820)]
def mgn1422_152 : Nat × aw_S := (46, [(0, .inl 81), (1, .inr (false, [(0, 3)])), (2, .inr (false, [(0, 0)]))], [], mgh19653)
def mgh19654 : aw_H := [(81, mgx11099), (89, mgx497), (90, .inr (.inl (0, 240, [], []))), (92, .inr (.inl (0, 8, [], []))), (93, .inr (.inl (0, 8, [], []))), (94, mgx5820)]
def mgn1422_153 : Nat × aw_S := (46, [(0, .inl 81), (1, .inr (false, [(0, 3)])), (2, .inr (false, [(0, 0)]))], [], mgh19654)
def mgx19655 : aw_A := ms_o [(0, 8)] [(0, 4)] ar_t32 ar_t32 [(0, 180)] [(28, 28)] [(14, 60)] [(1, 4)] [(3, 3)]
def mgh19656 : aw_H := [(81, mgx19655), (89, mgx497), (90, .inr (.inl (0, 240, [], []))), (92, .inr (.inl (0, 8, [], []))), (93, .inr (.inl (0, 8, [], []))), (94, mgx6868)]
def mgn1422_154 : Nat × aw_S := (46, [(0, .inl 81), (1, .inr (false, [(0, 3)])), (2, .inr (false, [(1, 1)]))], [], mgh19656)
def mgx19657 : aw_A := ms_o [(0, 8)] [(0, 4)] ar_t32 ar_t32 [(0, 180)] [(27, 27)] [(14, 60)] [(1, 4)] [(3, 3)]
def mgh19658 : aw_H := [(81, mgx19657), (89, mgx497), (90, .inr (.inl (0, 240, [], []))), (92, .inr (.inl (0, 8, [], []))), (93, .inr (.inl (0, 8, [], []))), (94, mgx6868)]
def mgn1422_155 : Nat × aw_S := (46, [(0, .inl 81), (1, .inr (false, [(0, 3)])), (2, .inr (false, [(1, 1)]))], [], mgh19658)
def mgh19659 : aw_H := [(81, mgx12755), (89, mgx497), (90, .inr (.inl (0, 240, [], []))), (92, .inr (.inl (0, 8, [], []))), (93, .inr (.inl (0, 8, [], []))), (94, mgx6868)]
def mgn1422_156 : Nat × aw_S := (46, [(0, .inl 81), (1, .inr (false, [(0, 3)])), (2, .inr (false, [(0, 0)]))], [], mgh19659)
def mgh19660 : aw_H := [(81, mgx12369), (89, mgx497), (90, .inr (.inl (0, 240, [], []))), (92, .inr (.inl (0, 8, [], []))), (93, .inr (.inl (0, 8, [], []))), (94, mgx6868)]
def mgn1422_157 : Nat × aw_S := (46, [(0, .inl 81), (1, .inr (false, [(0, 3)])), (2, .inr (false, [(0, 0)]))], [], mgh19660)
def mgx19661 : aw_A := ms_o [(0, 8)] [(0, 4)] ar_t32 ar_t32 [(0, 180)] [(30, 30)] [(17, 60)] [(1, 4)] [(4, 4)]
def mgh19662 : aw_H := [(81, mgx19661), (89, mgx497), (90, .inr (.inl (0, 240, [], []))), (92, .inr (.inl (0, 8, [], []))), (93, .inr (.inl (0, 8, [], []))), (94, mgx8150)]
def mgn1422_158 : Nat × aw_S := (46, [(0, .inl 81), (1, .inr (false, [(0, 3)])), (2, .inr (false, [(1, 1)]))], [], mgh19662)
def mgh19663 : aw_H := [(81, mgx14620), (89, mgx497), (90, .inr (.inl (0, 240, [], []))), (92, .inr (.inl (0, 8, [], []))), (93, .inr (.inl (0, 8, [], []))), (94, mgx8150)]
def mgn1422_159 : Nat × aw_S := (46, [(0, .inl 81), (1, .inr (false, [(0, 3)])), (2, .inr (false, [(0, 0)]))], [], mgh19663)
def mgx19664 : aw_A := ms_o [(0, 8)] [(0, 4)] ar_t32 ar_t32 [(0, 180)] [(31, 31)] [(17, 60)] [(1, 4)] [(4, 4)]
def mgh19665 : aw_H := [(81, mgx19664), (89, mgx497), (90, .inr (.inl (0, 240, [], []))), (92, .inr (.inl (0, 8, [], []))), (93, .inr (.inl (0, 8, [], []))), (94, mgx8150)]
def mgn1422_160 : Nat × aw_S := (46, [(0, .inl 81), (1, .inr (false, [(0, 3)])), (2, .inr (false, [(1, 1)]))], [], mgh19665)
def mgh19666 : aw_H := [(81, mgx14931), (89, mgx497), (90, .inr (.inl (0, 240, [], []))), (92, .inr (.inl (0, 8, [], []))), (93, .inr (.inl (0, 8, [], []))), (94, mgx8150)]
def mgn1422_161 : Nat × aw_S := (46, [(0, .inl 81), (1, .inr (false, [(0, 3)])), (2, .inr (false, [(0, 0)]))], [], mgh19666)
def mgh19667 : aw_H := [(81, mgx8803), (89, mgx497), (90, .inr (.inl (0, 240, [], []))), (92, .inr (.inl (0, 8, [], []))), (93, .inr (.inl (0, 8, [], []))), (94, mgx5052)]
def mgn1422_162 : Nat × aw_S := (46, [(0, .inl 81), (1, .inr (false, [(0, 3)])), (2, .inr (false, [(0, 0)]))], [], mgh19667)
def mgx19668 : aw_A := ms_o [(0, 8)] [(0, 4)] ar_t32 ar_t32 [(0, 180)] [(20, 20)] [(1, 60)] [(0, 4)] [(0, 0)]
def mgh19669 : aw_H := [(81, mgx19668), (89, mgx497), (90, .inr (.inl (0, 240, [], []))), (92, .inr (.inl (0, 8, [], []))), (93, .inr (.inl (0, 8, [], []))), (94, mgx5049)]
def mgn1422_163 : Nat × aw_S := (46, [(0, .inl 81), (1, .inr (false, [(0, 3)])), (2, .inr (false, [(1, 1)]))], [], mgh19669)
def mgx19670 : aw_A := ms_o [(0, 8)] [(0, 4)] ar_t32 ar_t32 [(0, 180)] [(20, 20)] [(-1, 60)] [(0, 4)] [(0, 0)]
def mgh19671 : aw_H := [(81, mgx19670), (89, mgx497), (90, .inr (.inl (0, 240, [], []))), (92, .inr (.inl (0, 8, [], []))), (93, .inr (.inl (0, 8, [], []))), (94, mgx5049)]
def mgn1422_164 : Nat × aw_S := (46, [(0, .inl 81), (1, .inr (false, [(0, 3)])), (2, .inr (false, [(0, 0)]))], [], mgh19671)
def mgx19672 : aw_A := ms_o [(0, 8)] [(0, 4)] ar_t32 ar_t32 [(0, 180)] [(25, 25)] [(1, 60)] [(0, 6)] [(0, 0)]
def mgh19673 : aw_H := [(81, mgx19672), (89, mgx497), (90, .inr (.inl (0, 240, [], []))), (92, .inr (.inl (0, 8, [], []))), (93, .inr (.inl (0, 8, [], []))), (94, mgx5049)]
def mgn1422_165 : Nat × aw_S := (46, [(0, .inl 81), (1, .inr (false, [(0, 3)])), (2, .inr (false, [(1, 1)]))], [], mgh19673)
def mgx19674 : aw_A := ms_o [(0, 8)] [(0, 4)] ar_t32 ar_t32 [(0, 180)] [(27, 27)] [(1, 60)] [(0, 6)] [(0, 0)]
def mgh19675 : aw_H := [(81, mgx19674), (89, mgx497), (90, .inr (.inl (0, 240, [], []))), (92, .inr (.inl (0, 8, [], []))), (93, .inr (.inl (0, 8, [], []))), (94, mgx5049)]
def mgn1422_166 : Nat × aw_S := (46, [(0, .inl 81), (1, .inr (false, [(0, 3)])), (2, .inr (false, [(1, 1)]))], [], mgh19675)
def mgx19676 : aw_A := ms_o [(0, 8)] [(0, 4)] ar_t32 ar_t32 [(0, 180)] [(26, 26)] [(8, 60)] [(1, 5)] [(1, 1)]
def mgh19677 : aw_H := [(81, mgx19676), (89, mgx497), (90, .inr (.inl (0, 240, [], []))), (92, .inr (.inl (0, 8, [], []))), (93, .inr (.inl (0, 8, [], []))), (94, mgx5052)]
def mgn1422_167 : Nat × aw_S := (46, [(0, .inl 81), (1, .inr (false, [(0, 3)])), (2, .inr (false, [(1, 1)]))], [], mgh19677)
def mgx19678 : aw_A := ms_o [(0, 8)] [(0, 4)] ar_t32 ar_t32 [(0, 180)] [(22, 22)] [(-1, 60)] [(0, 5)] [(0, 0)]
def mgh19679 : aw_H := [(81, mgx19678), (89, mgx497), (90, .inr (.inl (0, 240, [], []))), (92, .inr (.inl (0, 8, [], []))), (93, .inr (.inl (0, 8, [], []))), (94, mgx5049)]
def mgn1422_168 : Nat × aw_S := (46, [(0, .inl 81), (1, .inr (false, [(0, 3)])), (2, .inr (false, [(0, 0)]))], [], mgh19679)
def mgx19680 : aw_A := ms_o [(0, 8)] [(0, 4)] ar_t32 ar_t32 [(0, 180)] [(21, 21)] [(-1, 60)] [(0, 5)] [(0, 0)]
def mgh19681 : aw_H := [(81, mgx19680), (89, mgx497), (90, .inr (.inl (0, 240, [], []))), (92, .inr (.inl (0, 8, [], []))), (93, .inr (.inl (0, 8, [], []))), (94, mgx5049)]
def mgn1422_169 : Nat × aw_S := (46, [(0, .inl 81), (1, .inr (false, [(0, 3)])), (2, .inr (false, [(0, 0)]))], [], mgh19681)
def mgx19682 : aw_A := ms_o [(0, 8)] [(0, 4)] ar_t32 ar_t32 [(0, 180)] [(26, 26)] [(1, 60)] [(0, 6)] [(0, 0)]
def mgh19683 : aw_H := [(81, mgx19682), (89, mgx497), (90, .inr (.inl (0, 240, [], []))), (92, .inr (.inl (0, 8, [], []))), (93, .inr (.inl (0, 8, [], []))), (94, mgx5049)]
def mgn1422_170 : Nat × aw_S := (46, [(0, .inl 81), (1, .inr (false, [(0, 3)])), (2, .inr (false, [(1, 1)]))], [], mgh19683)
def mgx19684 : aw_A := ms_o [(0, 8)] [(0, 4)] ar_t32 ar_t32 [(0, 180)] [(24, 24)] [(8, 60)] [(1, 5)] [(1, 1)]
def mgh19685 : aw_H := [(81, mgx19684), (89, mgx497), (90, .inr (.inl (0, 240, [], []))), (92, .inr (.inl (0, 8, [], []))), (93, .inr (.inl (0, 8, [], []))), (94, mgx5052)]
def mgn1422_171 : Nat × aw_S := (46, [(0, .inl 81), (1, .inr (false, [(0, 3)])), (2, .inr (false, [(1, 1)]))], [], mgh19685)
def mgx19686 : aw_A := ms_o [(0, 8)] [(0, 4)] ar_t32 ar_t32 [(0, 180)] [(24, 24)] [(1, 60)] [(0, 5)] [(0, 0)]
def mgh19687 : aw_H := [(81, mgx19686), (89, mgx497), (90, .inr (.inl (0, 240, [], []))), (92, .inr (.inl (0, 8, [], []))), (93, .inr (.inl (0, 8, [], []))), (94, mgx5049)]
def mgn1422_172 : Nat × aw_S := (46, [(0, .inl 81), (1, .inr (false, [(0, 3)])), (2, .inr (false, [(1, 1)]))], [], mgh19687)
def mgx19688 : aw_A := ms_o [(0, 8)] [(0, 4)] ar_t32 ar_t32 [(0, 180)] [(29, 29)] [(8, 60)] [(1, 6)] [(1, 1)]
def mgh19689 : aw_H := [(81, mgx19688), (89, mgx497), (90, .inr (.inl (0, 240, [], []))), (92, .inr (.inl (0, 8, [], []))), (93, .inr (.inl (0, 8, [], []))), (94, mgx5052)]
def mgn1422_173 : Nat × aw_S := (46, [(0, .inl 81), (1, .inr (false, [(0, 3)])), (2, .inr (false, [(1, 1)]))], [], mgh19689)
def mgx19690 : aw_A := ms_o [(0, 8)] [(0, 4)] ar_t32 ar_t32 [(0, 180)] [(31, 31)] [(1, 60)] [(0, 7)] [(0, 0)]
def mgh19691 : aw_H := [(81, mgx19690), (89, mgx497), (90, .inr (.inl (0, 240, [], []))), (92, .inr (.inl (0, 8, [], []))), (93, .inr (.inl (0, 8, [], []))), (94, mgx5049)]
def mgn1422_174 : Nat × aw_S := (46, [(0, .inl 81), (1, .inr (false, [(0, 3)])), (2, .inr (false, [(1, 1)]))], [], mgh19691)
def mgx19692 : aw_A := ms_o [(0, 8)] [(0, 4)] ar_t32 ar_t32 [(0, 180)] [(29, 29)] [(1, 60)] [(0, 7)] [(0, 0)]
def mgh19693 : aw_H := [(81, mgx19692), (89, mgx497), (90, .inr (.inl (0, 240, [], []))), (92, .inr (.inl (0, 8, [], []))), (93, .inr (.inl (0, 8, [], []))), (94, mgx5049)]
def mgn1422_175 : Nat × aw_S := (46, [(0, .inl 81), (1, .inr (false, [(0, 3)])), (2, .inr (false, [(1, 1)]))], [], mgh19693)
def mgx19694 : aw_A := ms_o [(0, 8)] [(0, 4)] ar_t32 ar_t32 [(0, 180)] [(24, 24)] [(-1, 60)] [(0, 5)] [(0, 0)]
def mgh19695 : aw_H := [(81, mgx19694), (89, mgx497), (90, .inr (.inl (0, 240, [], []))), (92, .inr (.inl (0, 8, [], []))), (93, .inr (.inl (0, 8, [], []))), (94, mgx5049)]
def mgn1422_176 : Nat × aw_S := (46, [(0, .inl 81), (1, .inr (false, [(0, 3)])), (2, .inr (false, [(0, 0)]))], [], mgh19695)
def mgx19696 : aw_A := ms_o [(0, 8)] [(0, 4)] ar_t32 ar_t32 [(0, 180)] [(28, 28)] [(8, 60)] [(1, 6)] [(1, 1)]
def mgh19697 : aw_H := [(81, mgx19696), (89, mgx497), (90, .inr (.inl (0, 240, [], []))), (92, .inr (.inl (0, 8, [], []))), (93, .inr (.inl (0, 8, [], []))), (94, mgx5052)]
def mgn1422_177 : Nat × aw_S := (46, [(0, .inl 81), (1, .inr (false, [(0, 3)])), (2, .inr (false, [(1, 1)]))], [], mgh19697)
def mgx19698 : aw_A := ms_o [(0, 8)] [(0, 4)] ar_t32 ar_t32 [(0, 180)] [(30, 30)] [(8, 60)] [(1, 6)] [(1, 1)]
def mgh19699 : aw_H := [(81, mgx19698), (89, mgx497), (90, .inr (.inl (0, 240, [], []))), (92, .inr (.inl (0, 8, [], []))), (93, .inr (.inl (0, 8, [], []))), (94, mgx5052)]
def mgn1422_178 : Nat × aw_S := (46, [(0, .inl 81), (1, .inr (false, [(0, 3)])), (2, .inr (false, [(1, 1)]))], [], mgh19699)
def mgh19700 : aw_H := [(81, mgx13338), (89, mgx497), (90, .inr (.inl (0, 240, [], []))), (92, .inr (.inl (0, 8, [], []))), (93, .inr (.inl (0, 8, [], []))), (94, mgx5052)]
def mgn1422_179 : Nat × aw_S := (46, [(0, .inl 81), (1, .inr (false, [(0, 3)])), (2, .inr (false, [(0, 0)]))], [], mgh19700)
def mgx19701 : aw_A := ms_o [(0, 8)] [(0, 4)] ar_t32 ar_t32 [(0, 180)] [(27, 27)] [(-1, 60)] [(0, 6)] [(0, 0)]
def mgh19702 : aw_H := [(81, mgx19701), (89, mgx497), (90, .inr (.inl (0, 240, [], []))), (92, .inr (.inl (0, 8, [], []))), (93, .inr (.inl (0, 8, [], []))), (94, mgx5049)]
def mgn1422_180 : Nat × aw_S := (46, [(0, .inl 81), (1, .inr (false, [(0, 3)])), (2, .inr (false, [(0, 0)]))], [], mgh19702)
def mgx19703 : aw_A := ms_o [(0, 8)] [(0, 4)] ar_t32 ar_t32 [(0, 180)] [(25, 25)] [(-1, 60)] [(0, 6)] [(0, 0)]
def mgh19704 : aw_H := [(81, mgx19703), (89, mgx497), (90, .inr (.inl (0, 240, [], []))), (92, .inr (.inl (0, 8, [], []))), (93, .inr (.inl (0, 8, [], []))), (94, mgx5049)]
def mgn1422_181 : Nat × aw_S := (46, [(0, .inl 81), (1, .inr (false, [(0, 3)])), (2, .inr (false, [(0, 0)]))], [], mgh19704)
def mgx19705 : aw_A := ms_o [(0, 8)] [(0, 4)] ar_t32 ar_t32 [(0, 180)] [(28, 28)] [(1, 60)] [(0, 6)] [(0, 0)]
def mgh19706 : aw_H := [(81, mgx19705), (89, mgx497), (90, .inr (.inl (0, 240, [], []))), (92, .inr (.inl (0, 8, [], []))), (93, .inr (.inl (0, 8, [], []))), (94, mgx5049)]
def mgn1422_182 : Nat × aw_S := (46, [(0, .inl 81), (1, .inr (false, [(0, 3)])), (2, .inr (false, [(1, 1)]))], [], mgh19706)
def mgx19707 : aw_A := ms_o [(0, 8)] [(0, 4)] ar_t32 ar_t32 [(0, 180)] [(29, 29)] [(-1, 60)] [(0, 7)] [(0, 0)]
def mgh19708 : aw_H := [(81, mgx19707), (89, mgx497), (90, .inr (.inl (0, 240, [], []))), (92, .inr (.inl (0, 8, [], []))), (93, .inr (.inl (0, 8, [], []))), (94, mgx5049)]
def mgn1422_183 : Nat × aw_S := (46, [(0, .inl 81), (1, .inr (false, [(0, 3)])), (2, .inr (false, [(0, 0)]))], [], mgh19708)
def mgx19709 : aw_A := ms_o [(0, 8)] [(0, 4)] ar_t32 ar_t32 [(0, 180)] [(32, 32)] [(1, 60)] [(0, 7)] [(0, 0)]
def mgh19710 : aw_H := [(81, mgx19709), (89, mgx497), (90, .inr (.inl (0, 240, [], []))), (92, .inr (.inl (0, 8, [], []))), (93, .inr (.inl (0, 8, [], []))), (94, mgx5049)]
def mgn1422_184 : Nat × aw_S := (46, [(0, .inl 81), (1, .inr (false, [(0, 3)])), (2, .inr (false, [(1, 1)]))], [], mgh19710)
def mgx19711 : aw_A := ms_o [(0, 8)] [(0, 4)] ar_t32 ar_t32 [(0, 180)] [(28, 28)] [(-1, 60)] [(0, 6)] [(0, 0)]
def mgh19712 : aw_H := [(81, mgx19711), (89, mgx497), (90, .inr (.inl (0, 240, [], []))), (92, .inr (.inl (0, 8, [], []))), (93, .inr (.inl (0, 8, [], []))), (94, mgx5049)]
def mgn1422_185 : Nat × aw_S := (46, [(0, .inl 81), (1, .inr (false, [(0, 3)])), (2, .inr (false, [(0, 0)]))], [], mgh19712)
def mgx19713 : aw_A := ms_o [(0, 8)] [(0, 4)] ar_t32 ar_t32 [(0, 180)] [(31, 31)] [(8, 60)] [(1, 6)] [(1, 1)]
def mgh19714 : aw_H := [(81, mgx19713), (89, mgx497), (90, .inr (.inl (0, 240, [], []))), (92, .inr (.inl (0, 8, [], []))), (93, .inr (.inl (0, 8, [], []))), (94, mgx5052)]
def mgn1422_186 : Nat × aw_S := (46, [(0, .inl 81), (1, .inr (false, [(0, 3)])), (2, .inr (false, [(1, 1)]))], [], mgh19714)
def mgh19715 : aw_H := [(81, mgx13687), (89, mgx497), (90, .inr (.inl (0, 240, [], []))), (92, .inr (.inl (0, 8, [], []))), (93, .inr (.inl (0, 8, [], []))), (94, mgx5052)]
def mgn1422_187 : Nat × aw_S := (46, [(0, .inl 81), (1, .inr (false, [(0, 3)])), (2, .inr (false, [(0, 0)]))], [], mgh19715)
def mgx19716 : aw_A := ms_o [(0, 8)] [(0, 4)] ar_t32 ar_t32 [(0, 180)] [(26, 26)] [(-1, 60)] [(0, 6)] [(0, 0)]
def mgh19717 : aw_H := [(81, mgx19716), (89, mgx497), (90, .inr (.inl (0, 240, [], []))), (92, .inr (.inl (0, 8, [], []))), (93, .inr (.inl (0, 8, [], []))), (94, mgx5049)]
def mgn1422_188 : Nat × aw_S := (46, [(0, .inl 81), (1, .inr (false, [(0, 3)])), (2, .inr (false, [(0, 0)]))], [], mgh19717)
def mgx19718 : aw_A := ms_o [(0, 8)] [(0, 4)] ar_t32 ar_t32 [(0, 180)] [(27, 27)] [(8, 60)] [(1, 5)] [(1, 1)]
def mgh19719 : aw_H := [(81, mgx19718), (89, mgx497), (90, .inr (.inl (0, 240, [], []))), (92, .inr (.inl (0, 8, [], []))), (93, .inr (.inl (0, 8, [], []))), (94, mgx5052)]
def mgn1422_189 : Nat × aw_S := (46, [(0, .inl 81), (1, .inr (false, [(0, 3)])), (2, .inr (false, [(1, 1)]))], [], mgh19719)
def mgh19720 : aw_H := [(81, mgx12977), (89, mgx497), (90, .inr (.inl (0, 240, [], []))), (92, .inr (.inl (0, 8, [], []))), (93, .inr (.inl (0, 8, [], []))), (94, mgx5052)]
def mgn1422_190 : Nat × aw_S := (46, [(0, .inl 81), (1, .inr (false, [(0, 3)])), (2, .inr (false, [(0, 0)]))], [], mgh19720)
def mgh19721 : aw_H := [(81, mgx12604), (89, mgx497), (90, .inr (.inl (0, 240, [], []))), (92, .inr (.inl (0, 8, [], []))), (93, .inr (.inl (0, 8, [], []))), (94, mgx5052)]
def mgn1422_191 : Nat × aw_S := (46, [(0, .inl 81), (1, .inr (false, [(0, 3)])), (2, .inr (false, [(0, 0)]))], [], mgh19721)
def mgx19722 : aw_A := ms_o [(0, 8)] [(0, 4)] ar_t32 ar_t32 [(0, 180)] [(30, 30)] [(1, 60)] [(0, 7)] [(0, 0)]
def mgh19723 : aw_H := [(81, mgx19722), (89, mgx497), (90, .inr (.inl (0, 240, [], []))), (92, .inr (.inl (0, 8, [], []))), (93, .inr (.inl (0, 8, [], []))), (94, mgx5049)]
def mgn1422_192 : Nat × aw_S := (46, [(0, .inl 81), (1, .inr (false, [(0, 3)])), (2, .inr (false, [(1, 1)]))], [], mgh19723)
def mgx19724 : aw_A := ms_o [(0, 8)] [(0, 4)] ar_t32 ar_t32 [(0, 180)] [(30, 30)] [(-1, 60)] [(0, 7)] [(0, 0)]
def mgh19725 : aw_H := [(81, mgx19724), (89, mgx497), (90, .inr (.inl (0, 240, [], []))), (92, .inr (.inl (0, 8, [], []))), (93, .inr (.inl (0, 8, [], []))), (94, mgx5049)]
def mgn1422_193 : Nat × aw_S := (46, [(0, .inl 81), (1, .inr (false, [(0, 3)])), (2, .inr (false, [(0, 0)]))], [], mgh19725)
def mgx19726 : aw_A := ms_o [(0, 8)] [(0, 4)] ar_t32 ar_t32 [(0, 180)] [(31, 31)] [(-1, 60)] [(0, 7)] [(0, 0)]
def mgh19727 : aw_H := [(81, mgx19726), (89, mgx497), (90, .inr (.inl (0, 240, [], []))), (92, .inr (.inl (0, 8, [], []))), (93, .inr (.inl (0, 8, [], []))), (94, mgx5049)]
def mgn1422_194 : Nat × aw_S := (46, [(0, .inl 81), (1, .inr (false, [(0, 3)])), (2, .inr (false, [(0, 0)]))], [], mgh19727)
def mgx19728 : aw_A := ms_o [(0, 8)] [(0, 4)] ar_t32 ar_t32 [(0, 180)] [(32, 32)] [(-1, 60)] [(0, 7)] [(0, 0)]
def mgh19729 : aw_H := [(81, mgx19728), (89, mgx497), (90, .inr (.inl (0, 240, [], []))), (92, .inr (.inl (0, 8, [], []))), (93, .inr (.inl (0, 8, [], []))), (94, mgx5049)]
def mgn1422_195 : Nat × aw_S := (46, [(0, .inl 81), (1, .inr (false, [(0, 3)])), (2, .inr (false, [(0, 0)]))], [], mgh19729)
def mgx19730 : aw_A := ms_o [(0, 8)] [(0, 4)] ar_t32 ar_t32 [(0, 180)] [(33, 33)] [(8, 60)] [(1, 7)] [(1, 1)]
def mgh19731 : aw_H := [(81, mgx19730), (89, mgx497), (90, .inr (.inl (0, 240, [], []))), (92, .inr (.inl (0, 8, [], []))), (93, .inr (.inl (0, 8, [], []))), (94, mgx5052)]
def mgn1422_196 : Nat × aw_S := (46, [(0, .inl 81), (1, .inr (false, [(0, 3)])), (2, .inr (false, [(1, 1)]))], [], mgh19731)
def mgx19732 : aw_A := ms_o [(0, 8)] [(0, 4)] ar_t32 ar_t32 [(0, 180)] [(35, 35)] [(1, 60)] [(0, 8)] [(0, 0)]
def mgh19733 : aw_H := [(81, mgx19732), (89, mgx497), (90, .inr (.inl (0, 240, [], []))), (92, .inr (.inl (0, 8, [], []))), (93, .inr (.inl (0, 8, [], []))), (94, mgx5049)]
def mgn1422_197 : Nat × aw_S := (46, [(0, .inl 81), (1, .inr (false, [(0, 3)])), (2, .inr (false, [(1, 1)]))], [], mgh19733)
def mgx19734 : aw_A := ms_o [(0, 8)] [(0, 4)] ar_t32 ar_t32 [(0, 180)] [(35, 35)] [(8, 60)] [(1, 7)] [(1, 1)]
def mgh19735 : aw_H := [(81, mgx19734), (89, mgx497), (90, .inr (.inl (0, 240, [], []))), (92, .inr (.inl (0, 8, [], []))), (93, .inr (.inl (0, 8, [], []))), (94, mgx5052)]
def mgn1422_198 : Nat × aw_S := (46, [(0, .inl 81), (1, .inr (false, [(0, 3)])), (2, .inr (false, [(1, 1)]))], [], mgh19735)
def mgx19736 : aw_A := ms_o [(0, 8)] [(0, 4)] ar_t32 ar_t32 [(0, 180)] [(34, 34)] [(1, 60)] [(0, 8)] [(0, 0)]
def mgh19737 : aw_H := [(81, mgx19736), (89, mgx497), (90, .inr (.inl (0, 240, [], []))), (92, .inr (.inl (0, 8, [], []))), (93, .inr (.inl (0, 8, [], []))), (94, mgx5049)]
def mgn1422_199 : Nat × aw_S := (46, [(0, .inl 81), (1, .inr (false, [(0, 3)])), (2, .inr (false, [(1, 1)]))], [], mgh19737)
def mgx19738 : aw_A := ms_o [(0, 8)] [(0, 4)] ar_t32 ar_t32 [(0, 180)] [(32, 32)] [(8, 60)] [(1, 7)] [(1, 1)]
def mgh19739 : aw_H := [(81, mgx19738), (89, mgx497), (90, .inr (.inl (0, 240, [], []))), (92, .inr (.inl (0, 8, [], []))), (93, .inr (.inl (0, 8, [], []))), (94, mgx5052)]
def mgn1422_200 : Nat × aw_S := (46, [(0, .inl 81), (1, .inr (false, [(0, 3)])), (2, .inr (false, [(1, 1)]))], [], mgh19739)
def mgh19740 : aw_H := [(81, mgx14033), (89, mgx497), (90, .inr (.inl (0, 240, [], []))), (92, .inr (.inl (0, 8, [], []))), (93, .inr (.inl (0, 8, [], []))), (94, mgx5052)]
def mgn1422_201 : Nat × aw_S := (46, [(0, .inl 81), (1, .inr (false, [(0, 3)])), (2, .inr (false, [(0, 0)]))], [], mgh19740)
def mgh19741 : aw_H := [(81, mgx14366), (89, mgx497), (90, .inr (.inl (0, 240, [], []))), (92, .inr (.inl (0, 8, [], []))), (93, .inr (.inl (0, 8, [], []))), (94, mgx5052)]
def mgn1422_202 : Nat × aw_S := (46, [(0, .inl 81), (1, .inr (false, [(0, 3)])), (2, .inr (false, [(0, 0)]))], [], mgh19741)
def mgx19742 : aw_A := ms_o [(0, 8)] [(0, 4)] ar_t32 ar_t32 [(0, 180)] [(33, 33)] [(1, 60)] [(0, 8)] [(0, 0)]
def mgh19743 : aw_H := [(81, mgx19742), (89, mgx497), (90, .inr (.inl (0, 240, [], []))), (92, .inr (.inl (0, 8, [], []))), (93, .inr (.inl (0, 8, [], []))), (94, mgx5049)]
def mgn1422_203 : Nat × aw_S := (46, [(0, .inl 81), (1, .inr (false, [(0, 3)])), (2, .inr (false, [(1, 1)]))], [], mgh19743)
def mgx19744 : aw_A := ms_o [(0, 8)] [(0, 4)] ar_t32 ar_t32 [(0, 180)] [(34, 34)] [(-1, 60)] [(0, 8)] [(0, 0)]
def mgh19745 : aw_H := [(81, mgx19744), (89, mgx497), (90, .inr (.inl (0, 240, [], []))), (92, .inr (.inl (0, 8, [], []))), (93, .inr (.inl (0, 8, [], []))), (94, mgx5049)]
def mgn1422_204 : Nat × aw_S := (46, [(0, .inl 81), (1, .inr (false, [(0, 3)])), (2, .inr (false, [(0, 0)]))], [], mgh19745)
def mgx19746 : aw_A := ms_o [(0, 8)] [(0, 4)] ar_t32 ar_t32 [(0, 180)] [(37, 37)] [(8, 60)] [(1, 8)] [(1, 1)]
def mgh19747 : aw_H := [(81, mgx19746), (89, mgx497), (90, .inr (.inl (0, 240, [], []))), (92, .inr (.inl (0, 8, [], []))), (93, .inr (.inl (0, 8, [], []))), (94, mgx5052)]
def mgn1422_205 : Nat × aw_S := (46, [(0, .inl 81), (1, .inr (false, [(0, 3)])), (2, .inr (false, [(1, 1)]))], [], mgh19747)
def mgx19748 : aw_A := ms_o [(0, 8)] [(0, 4)] ar_t32 ar_t32 [(0, 180)] [(38, 38)] [(8, 60)] [(1, 8)] [(1, 1)]
def mgh19749 : aw_H := [(81, mgx19748), (89, mgx497), (90, .inr (.inl (0, 240, [], []))), (92, .inr (.inl (0, 8, [], []))), (93, .inr (.inl (0, 8, [], []))), (94, mgx5052)]
def mgn1422_206 : Nat × aw_S := (46, [(0, .inl 81), (1, .inr (false, [(0, 3)])), (2, .inr (false, [(1, 1)]))], [], mgh19749)
def mgx19750 : aw_A := ms_o [(0, 8)] [(0, 4)] ar_t32 ar_t32 [(0, 180)] [(37, 37)] [(1, 60)] [(0, 8)] [(0, 0)]
def mgh19751 : aw_H := [(81, mgx19750), (89, mgx497), (90, .inr (.inl (0, 240, [], []))), (92, .inr (.inl (0, 8, [], []))), (93, .inr (.inl (0, 8, [], []))), (94, mgx5049)]
def mgn1422_207 : Nat × aw_S := (46, [(0, .inl 81), (1, .inr (false, [(0, 3)])), (2, .inr (false, [(1, 1)]))], [], mgh19751)
def mgx19752 : aw_A := ms_o [(0, 8)] [(0, 4)] ar_t32 ar_t32 [(0, 180)] [(38, 38)] [(1, 60)] [(0, 8)] [(0, 0)]
def mgh19753 : aw_H := [(81, mgx19752), (89, mgx497), (90, .inr (.inl (0, 240, [], []))), (92, .inr (.inl (0, 8, [], []))), (93, .inr (.inl (0, 8, [], []))), (94, mgx5049)]
def mgn1422_208 : Nat × aw_S := (46, [(0, .inl 81), (1, .inr (false, [(0, 3)])), (2, .inr (false, [(1, 1)]))], [], mgh19753)
def mgx19754 : aw_A := ms_o [(0, 8)] [(0, 4)] ar_t32 ar_t32 [(0, 180)] [(36, 36)] [(8, 60)] [(1, 8)] [(1, 1)]
def mgh19755 : aw_H := [(81, mgx19754), (89, mgx497), (90, .inr (.inl (0, 240, [], []))), (92, .inr (.inl (0, 8, [], []))), (93, .inr (.inl (0, 8, [], []))), (94, mgx5052)]
def mgn1422_209 : Nat × aw_S := (46, [(0, .inl 81), (1, .inr (false, [(0, 3)])), (2, .inr (false, [(1, 1)]))], [], mgh19755)
def mgh19756 : aw_H := [(81, mgx15587), (89, mgx497), (90, .inr (.inl (0, 240, [], []))), (92, .inr (.inl (0, 8, [], []))), (93, .inr (.inl (0, 8, [], []))), (94, mgx5052)]
def mgn1422_210 : Nat × aw_S := (46, [(0, .inl 81), (1, .inr (false, [(0, 3)])), (2, .inr (false, [(0, 0)]))], [], mgh19756)
def mgh19757 : aw_H := [(81, mgx15867), (89, mgx497), (90, .inr (.inl (0, 240, [], []))), (92, .inr (.inl (0, 8, [], []))), (93, .inr (.inl (0, 8, [], []))), (94, mgx5052)]
def mgn1422_211 : Nat × aw_S := (46, [(0, .inl 81), (1, .inr (false, [(0, 3)])), (2, .inr (false, [(0, 0)]))], [], mgh19757)
def mgx19758 : aw_A := ms_o [(0, 8)] [(0, 4)] ar_t32 ar_t32 [(0, 180)] [(33, 33)] [(-1, 60)] [(0, 8)] [(0, 0)]
def mgh19759 : aw_H := [(81, mgx19758), (89, mgx497), (90, .inr (.inl (0, 240, [], []))), (92, .inr (.inl (0, 8, [], []))), (93, .inr (.inl (0, 8, [], []))), (94, mgx5049)]
def mgn1422_212 : Nat × aw_S := (46, [(0, .inl 81), (1, .inr (false, [(0, 3)])), (2, .inr (false, [(0, 0)]))], [], mgh19759)
def mgx19760 : aw_A := ms_o [(0, 8)] [(0, 4)] ar_t32 ar_t32 [(0, 180)] [(39, 39)] [(1, 60)] [(0, 8)] [(0, 0)]
def mgh19761 : aw_H := [(81, mgx19760), (89, mgx497), (90, .inr (.inl (0, 240, [], []))), (92, .inr (.inl (0, 8, [], []))), (93, .inr (.inl (0, 8, [], []))), (94, mgx5049)]
def mgn1422_213 : Nat × aw_S := (46, [(0, .inl 81), (1, .inr (false, [(0, 3)])), (2, .inr (false, [(1, 1)]))], [], mgh19761)
def mgx19762 : aw_A := ms_o [(0, 8)] [(0, 4)] ar_t32 ar_t32 [(0, 180)] [(35, 35)] [(-1, 60)] [(0, 8)] [(0, 0)]
def mgh19763 : aw_H := [(81, mgx19762), (89, mgx497), (90, .inr (.inl (0, 240, [], []))), (92, .inr (.inl (0, 8, [], []))), (93, .inr (.inl (0, 8, [], []))), (94, mgx5049)]
def mgn1422_214 : Nat × aw_S := (46, [(0, .inl 81), (1, .inr (false, [(0, 3)])), (2, .inr (false, [(0, 0)]))], [], mgh19763)
def mgx19764 : aw_A := ms_o [(0, 8)] [(0, 4)] ar_t32 ar_t32 [(0, 180)] [(23, 23)] [(8, 60)] [(1, 4)] [(1, 1)]
def mgh19765 : aw_H := [(81, mgx19764), (89, mgx497), (90, .inr (.inl (0, 240, [], []))), (92, .inr (.inl (0, 8, [], []))), (93, .inr (.inl (0, 8, [], []))), (94, mgx5052)]
def mgn1422_215 : Nat × aw_S := (46, [(0, .inl 81), (1, .inr (false, [(0, 3)])), (2, .inr (false, [(1, 1)]))], [], mgh19765)
def mgx19766 : aw_A := ms_o [(0, 8)] [(0, 4)] ar_t32 ar_t32 [(0, 180)] [(26, 26)] [(11, 60)] [(1, 4)] [(2, 2)]
def mgh19767 : aw_H := [(81, mgx19766), (89, mgx497), (90, .inr (.inl (0, 240, [], []))), (92, .inr (.inl (0, 8, [], []))), (93, .inr (.inl (0, 8, [], []))), (94, mgx5820)]
def mgn1422_216 : Nat × aw_S := (46, [(0, .inl 81), (1, .inr (false, [(0, 3)])), (2, .inr (false, [(1, 1)]))], [], mgh19767)
def mgh19768 : aw_H := [(81, mgx11909), (89, mgx497), (90, .inr (.inl (0, 240, [], []))), (92, .inr (.inl (0, 8, [], []))), (93, .inr (.inl (0, 8, [], []))), (94, mgx5820)]
def mgn1422_217 : Nat × aw_S := (46, [(0, .inl 81), (1, .inr (false, [(0, 3)])), (2, .inr (false, [(0, 0)]))], [], mgh19768)
def mgx19769 : aw_A := ms_o [(0, 8)] [(0, 4)] ar_t32 ar_t32 [(0, 180)] [(29, 29)] [(14, 60)] [(1, 4)] [(3, 3)]
def mgh19770 : aw_H := [(81, mgx19769), (89, mgx497), (90, .inr (.inl (0, 240, [], []))), (92, .inr (.inl (0, 8, [], []))), (93, .inr (.inl (0, 8, [], []))), (94, mgx6868)]
def mgn1422_218 : Nat × aw_S := (46, [(0, .inl 81), (1, .inr (false, [(0, 3)])), (2, .inr (false, [(1, 1)]))], [], mgh19770)
def mgh19771 : aw_H := [(81, mgx13125), (89, mgx497), (90, .inr (.inl (0, 240, [], []))), (92, .inr (.inl (0, 8, [], []))), (93, .inr (.inl (0, 8, [], []))), (94, mgx6868)]
def mgn1422_219 : Nat × aw_S := (46, [(0, .inl 81), (1, .inr (false, [(0, 3)])), (2, .inr (false, [(0, 0)]))], [], mgh19771)
def mgx19772 : aw_A := ms_o [(0, 8)] [(0, 4)] ar_t32 ar_t32 [(0, 180)] [(32, 32)] [(17, 60)] [(1, 4)] [(4, 4)]
def mgh19773 : aw_H := [(81, mgx19772), (89, mgx497), (90, .inr (.inl (0, 240, [], []))), (92, .inr (.inl (0, 8, [], []))), (93, .inr (.inl (0, 8, [], []))), (94, mgx8150)]
def mgn1422_220 : Nat × aw_S := (46, [(0, .inl 81), (1, .inr (false, [(0, 3)])), (2, .inr (false, [(1, 1)]))], [], mgh19773)
def mgh19774 : aw_H := [(81, mgx15232), (89, mgx497), (90, .inr (.inl (0, 240, [], []))), (92, .inr (.inl (0, 8, [], []))), (93, .inr (.inl (0, 8, [], []))), (94, mgx8150)]
def mgn1422_221 : Nat × aw_S := (46, [(0, .inl 81), (1, .inr (false, [(0, 3)])), (2, .inr (false, [(0, 0)]))], [], mgh19774)
def mgx19775 : aw_A := ms_o [(0, 8)] [(0, 4)] ar_t32 ar_t32 [(0, 180)] [(27, 27)] [(11, 60)] [(1, 5)] [(2, 2)]
def mgh19776 : aw_H := [(81, mgx19775), (89, mgx497), (90, .inr (.inl (0, 240, [], []))), (92, .inr (.inl (0, 8, [], []))), (93, .inr (.inl (0, 8, [], []))), (94, mgx5820)]
def mgn1422_222 : Nat × aw_S := (46, [(0, .inl 81), (1, .inr (false, [(0, 3)])), (2, .inr (false, [(1, 1)]))], [], mgh19776)
def mgx19777 : aw_A := ms_o [(0, 8)] [(0, 4)] ar_t32 ar_t32 [(0, 180)] [(30, 30)] [(14, 60)] [(1, 5)] [(3, 3)]
def mgh19778 : aw_H := [(81, mgx19777), (89, mgx497), (90, .inr (.inl (0, 240, [], []))), (92, .inr (.inl (0, 8, [], []))), (93, .inr (.inl (0, 8, [], []))), (94, mgx6868)]
def mgn1422_223 : Nat × aw_S := (46, [(0, .inl 81), (1, .inr (false, [(0, 3)])), (2, .inr (false, [(1, 1)]))], [], mgh19778)
def mgx19779 : aw_A := ms_o [(0, 8)] [(0, 4)] ar_t32 ar_t32 [(0, 180)] [(33, 33)] [(17, 60)] [(1, 5)] [(4, 4)]
def mgh19780 : aw_H := [(81, mgx19779), (89, mgx497), (90, .inr (.inl (0, 240, [], []))), (92, .inr (.inl (0, 8, [], []))), (93, .inr (.inl (0, 8, [], []))), (94, mgx8150)]
def mgn1422_224 : Nat × aw_S := (46, [(0, .inl 81), (1, .inr (false, [(0, 3)])), (2, .inr (false, [(1, 1)]))], [], mgh19780)
def mgh19781 : aw_H := [(81, mgx15527), (89, mgx497), (90, .inr (.inl (0, 240, [], []))), (92, .inr (.inl (0, 8, [], []))), (93, .inr (.inl (0, 8, [], []))), (94, mgx8150)]
def mgn1422_225 : Nat × aw_S := (46, [(0, .inl 81), (1, .inr (false, [(0, 3)])), (2, .inr (false, [(0, 0)]))], [], mgh19781)
def mgh19782 : aw_H := [(81, mgx13479), (89, mgx497), (90, .inr (.inl (0, 240, [], []))), (92, .inr (.inl (0, 8, [], []))), (93, .inr (.inl (0, 8, [], []))), (94, mgx6868)]
def mgn1422_226 : Nat × aw_S := (46, [(0, .inl 81), (1, .inr (false, [(0, 3)])), (2, .inr (false, [(0, 0)]))], [], mgh19782)
def mgh19783 : aw_H := [(81, mgx12293), (89, mgx497), (90, .inr (.inl (0, 240, [], []))), (92, .inr (.inl (0, 8, [], []))), (93, .inr (.inl (0, 8, [], []))), (94, mgx5820)]
def mgn1422_227 : Nat × aw_S := (46, [(0, .inl 81), (1, .inr (false, [(0, 3)])), (2, .inr (false, [(0, 0)]))], [], mgh19783)
def mgh19784 : aw_H := [(81, mgx10589), (89, mgx497), (90, .inr (.inl (0, 240, [], []))), (92, .inr (.inl (0, 8, [], []))), (93, .inr (.inl (0, 8, [], []))), (94, mgx5052)]
def mgn1422_228 : Nat × aw_S := (46, [(0, .inl 81), (1, .inr (false, [(0, 3)])), (2, .inr (false, [(0, 0)]))], [], mgh19784)
def mgh19785 : aw_H := [(81, mgx11015), (89, mgx497), (90, .inr (.inl (0, 240, [], []))), (92, .inr (.inl (0, 8, [], []))), (93, .inr (.inl (0, 8, [], []))), (94, mgx5052)]
def mgn1422_229 : Nat × aw_S := (46, [(0, .inl 81), (1, .inr (false, [(0, 3)])), (2, .inr (false, [(0, 0)]))], [], mgh19785)
def mgx19786 : aw_A := ms_o [(0, 8)] [(0, 4)] ar_t32 ar_t32 [(0, 180)] [(23, 23)] [(-1, 60)] [(0, 5)] [(0, 0)]
def mgh19787 : aw_H := [(81, mgx19786), (89, mgx497), (90, .inr (.inl (0, 240, [], []))), (92, .inr (.inl (0, 8, [], []))), (93, .inr (.inl (0, 8, [], []))), (94, mgx5049)]
def mgn1422_230 : Nat × aw_S := (46, [(0, .inl 81), (1, .inr (false, [(0, 3)])), (2, .inr (false, [(0, 0)]))], [], mgh19787)
def mgx19788 : aw_A := ms_o [(0, 8)] [(0, 4)] ar_t32 ar_t32 [(0, 180)] [(34, 34)] [(8, 60)] [(1, 7)] [(1, 1)]
def mgh19789 : aw_H := [(81, mgx19788), (89, mgx497), (90, .inr (.inl (0, 240, [], []))), (92, .inr (.inl (0, 8, [], []))), (93, .inr (.inl (0, 8, [], []))), (94, mgx5052)]
def mgn1422_231 : Nat × aw_S := (46, [(0, .inl 81), (1, .inr (false, [(0, 3)])), (2, .inr (false, [(1, 1)]))], [], mgh19789)
def mgh19790 : aw_H := [(81, mgx15294), (89, mgx497), (90, .inr (.inl (0, 240, [], []))), (92, .inr (.inl (0, 8, [], []))), (93, .inr (.inl (0, 8, [], []))), (94, mgx5052)]
def mgn1422_232 : Nat × aw_S := (46, [(0, .inl 81), (1, .inr (false, [(0, 3)])), (2, .inr (false, [(0, 0)]))], [], mgh19790)
def mgh19791 : aw_H := [(81, mgx14687), (89, mgx497), (90, .inr (.inl (0, 240, [], []))), (92, .inr (.inl (0, 8, [], []))), (93, .inr (.inl (0, 8, [], []))), (94, mgx5052)]
def mgn1422_233 : Nat × aw_S := (46, [(0, .inl 81), (1, .inr (false, [(0, 3)])), (2, .inr (false, [(0, 0)]))], [], mgh19791)
def mgh19792 : aw_H := [(81, mgx14996), (89, mgx497), (90, .inr (.inl (0, 240, [], []))), (92, .inr (.inl (0, 8, [], []))), (93, .inr (.inl (0, 8, [], []))), (94, mgx5052)]
def mgn1422_234 : Nat × aw_S := (46, [(0, .inl 81), (1, .inr (false, [(0, 3)])), (2, .inr (false, [(0, 0)]))], [], mgh19792)
def mgx19793 : aw_A := ms_o [(0, 8)] [(0, 4)] ar_t32 ar_t32 [(0, 180)] [(25, 25)] [(8, 60)] [(1, 5)] [(1, 1)]
def mgh19794 : aw_H := [(81, mgx19793), (89, mgx497), (90, .inr (.inl (0, 240, [], []))), (92, .inr (.inl (0, 8, [], []))), (93, .inr (.inl (0, 8, [], []))), (94, mgx5052)]
def mgn1422_235 : Nat × aw_S := (46, [(0, .inl 81), (1, .inr (false, [(0, 3)])), (2, .inr (false, [(1, 1)]))], [], mgh19794)
def mgh19795 : aw_H := [(81, mgx11829), (89, mgx497), (90, .inr (.inl (0, 240, [], []))), (92, .inr (.inl (0, 8, [], []))), (93, .inr (.inl (0, 8, [], []))), (94, mgx5052)]
def mgn1422_236 : Nat × aw_S := (46, [(0, .inl 81), (1, .inr (false, [(0, 3)])), (2, .inr (false, [(0, 0)]))], [], mgh19795)
def mgh19796 : aw_H := [(81, mgx12218), (89, mgx497), (90, .inr (.inl (0, 240, [], []))), (92, .inr (.inl (0, 8, [], []))), (93, .inr (.inl (0, 8, [], []))), (94, mgx5052)]
def mgn1422_237 : Nat × aw_S := (46, [(0, .inl 81), (1, .inr (false, [(0, 3)])), (2, .inr (false, [(0, 0)]))], [], mgh19796)
def mgx19797 : aw_A := ms_o [(0, 8)] [(0, 4)] ar_t32 ar_t32 [(0, 180)] [(37, 37)] [(11, 60)] [(1, 7)] [(2, 2)]
def mgh19798 : aw_H := [(81, mgx19797), (89, mgx497), (90, .inr (.inl (0, 240, [], []))), (92, .inr (.inl (0, 8, [], []))), (93, .inr (.inl (0, 8, [], []))), (94, mgx5820)]
def mgn1422_238 : Nat × aw_S := (46, [(0, .inl 81), (1, .inr (false, [(0, 3)])), (2, .inr (false, [(1, 1)]))], [], mgh19798)
def mgx19799 : aw_A := ms_o [(0, 8)] [(0, 4)] ar_t32 ar_t32 [(0, 180)] [(38, 38)] [(11, 60)] [(1, 7)] [(2, 2)]
def mgh19800 : aw_H := [(81, mgx19799), (89, mgx497), (90, .inr (.inl (0, 240, [], []))), (92, .inr (.inl (0, 8, [], []))), (93, .inr (.inl (0, 8, [], []))), (94, mgx5820)]
def mgn1422_239 : Nat × aw_S := (46, [(0, .inl 81), (1, .inr (false, [(0, 3)])), (2, .inr (false, [(1, 1)]))], [], mgh19800)
def mgx19801 : aw_A := ms_o [(0, 8)] [(0, 4)] ar_t32 ar_t32 [(0, 180)] [(41, 41)] [(11, 60)] [(1, 8)] [(2, 2)]
def mgh19802 : aw_H := [(81, mgx19801), (89, mgx497), (90, .inr (.inl (0, 240, [], []))), (92, .inr (.inl (0, 8, [], []))), (93, .inr (.inl (0, 8, [], []))), (94, mgx5820)]
def mgn1422_240 : Nat × aw_S := (46, [(0, .inl 81), (1, .inr (false, [(0, 3)])), (2, .inr (false, [(1, 1)]))], [], mgh19802)
def mgx19803 : aw_A := ms_o [(0, 8)] [(0, 4)] ar_t32 ar_t32 [(0, 180)] [(33, 33)] [(11, 60)] [(1, 6)] [(2, 2)]
def mgh19804 : aw_H := [(81, mgx19803), (89, mgx497), (90, .inr (.inl (0, 240, [], []))), (92, .inr (.inl (0, 8, [], []))), (93, .inr (.inl (0, 8, [], []))), (94, mgx5820)]
def mgn1422_241 : Nat × aw_S := (46, [(0, .inl 81), (1, .inr (false, [(0, 3)])), (2, .inr (false, [(1, 1)]))], [], mgh19804)
def mgx19805 : aw_A := ms_o [(0, 8)] [(0, 4)] ar_t32 ar_t32 [(0, 180)] [(35, 35)] [(11, 60)] [(1, 7)] [(2, 2)]
def mgh19806 : aw_H := [(81, mgx19805), (89, mgx497), (90, .inr (.inl (0, 240, [], []))), (92, .inr (.inl (0, 8, [], []))), (93, .inr (.inl (0, 8, [], []))), (94, mgx5820)]
def mgn1422_242 : Nat × aw_S := (46, [(0, .inl 81), (1, .inr (false, [(0, 3)])), (2, .inr (false, [(1, 1)]))], [], mgh19806)
def mgx19807 : aw_A := ms_o [(0, 8)] [(0, 4)] ar_t32 ar_t32 [(0, 180)] [(34, 34)] [(11, 60)] [(1, 6)] [(2, 2)]
def mgh19808 : aw_H := [(81, mgx19807), (89, mgx497), (90, .inr (.inl (0, 240, [], []))), (92, .inr (.inl (0, 8, [], []))), (93, .inr (.inl (0, 8, [], []))), (94, mgx5820)]
def mgn1422_243 : Nat × aw_S := (46, [(0, .inl 81), (1, .inr (false, [(0, 3)])), (2, .inr (false, [(1, 1)]))], [], mgh19808)
def mgh19809 : aw_H := [(81, mgx15055), (89, mgx497), (90, .inr (.inl (0, 240, [], []))), (92, .inr (.inl (0, 8, [], []))), (93, .inr (.inl (0, 8, [], []))), (94, mgx5820)]
def mgn1422_244 : Nat × aw_S := (46, [(0, .inl 81), (1, .inr (false, [(0, 3)])), (2, .inr (false, [(0, 0)]))], [], mgh19809)
def mgx19810 : aw_A := ms_o [(0, 8)] [(0, 4)] ar_t32 ar_t32 [(0, 180)] [(36, 36)] [(11, 60)] [(1, 7)] [(2, 2)]
def mgh19811 : aw_H := [(81, mgx19810), (89, mgx497), (90, .inr (.inl (0, 240, [], []))), (92, .inr (.inl (0, 8, [], []))), (93, .inr (.inl (0, 8, [], []))), (94, mgx5820)]
def mgn1422_245 : Nat × aw_S := (46, [(0, .inl 81), (1, .inr (false, [(0, 3)])), (2, .inr (false, [(1, 1)]))], [], mgh19811)
def mgh19812 : aw_H := [(81, mgx15645), (89, mgx497), (90, .inr (.inl (0, 240, [], []))), (92, .inr (.inl (0, 8, [], []))), (93, .inr (.inl (0, 8, [], []))), (94, mgx5820)]
def mgn1422_246 : Nat × aw_S := (46, [(0, .inl 81), (1, .inr (false, [(0, 3)])), (2, .inr (false, [(0, 0)]))], [], mgh19812)
def mgh19813 : aw_H := [(81, mgx15354), (89, mgx497), (90, .inr (.inl (0, 240, [], []))), (92, .inr (.inl (0, 8, [], []))), (93, .inr (.inl (0, 8, [], []))), (94, mgx5820)]
def mgn1422_247 : Nat × aw_S := (46, [(0, .inl 81), (1, .inr (false, [(0, 3)])), (2, .inr (false, [(0, 0)]))], [], mgh19813)
def mgh19814 : aw_H := [(81, mgx15923), (89, mgx497), (90, .inr (.inl (0, 240, [], []))), (92, .inr (.inl (0, 8, [], []))), (93, .inr (.inl (0, 8, [], []))), (94, mgx5820)]
def mgn1422_248 : Nat × aw_S := (46, [(0, .inl 81), (1, .inr (false, [(0, 3)])), (2, .inr (false, [(0, 0)]))], [], mgh19814)
def mgx19815 : aw_A := ms_o [(0, 8)] [(0, 4)] ar_t32 ar_t32 [(0, 180)] [(28, 28)] [(11, 60)] [(1, 5)] [(2, 2)]
def mgh19816 : aw_H := [(81, mgx19815), (89, mgx497), (90, .inr (.inl (0, 240, [], []))), (92, .inr (.inl (0, 8, [], []))), (93, .inr (.inl (0, 8, [], []))), (94, mgx5820)]
def mgn1422_249 : Nat × aw_S := (46, [(0, .inl 81), (1, .inr (false, [(0, 3)])), (2, .inr (false, [(1, 1)]))], [], mgh19816)
def mgh19817 : aw_H := [(81, mgx12680), (89, mgx497), (90, .inr (.inl (0, 240, [], []))), (92, .inr (.inl (0, 8, [], []))), (93, .inr (.inl (0, 8, [], []))), (94, mgx5820)]
def mgn1422_250 : Nat × aw_S := (46, [(0, .inl 81), (1, .inr (false, [(0, 3)])), (2, .inr (false, [(0, 0)]))], [], mgh19817)
def mgx19818 : aw_A := ms_o [(0, 8)] [(0, 4)] ar_t32 ar_t32 [(0, 180)] [(31, 31)] [(14, 60)] [(1, 5)] [(3, 3)]
def mgh19819 : aw_H := [(81, mgx19818), (89, mgx497), (90, .inr (.inl (0, 240, [], []))), (92, .inr (.inl (0, 8, [], []))), (93, .inr (.inl (0, 8, [], []))), (94, mgx6868)]
def mgn1422_251 : Nat × aw_S := (46, [(0, .inl 81), (1, .inr (false, [(0, 3)])), (2, .inr (false, [(1, 1)]))], [], mgh19819)
def mgx19820 : aw_A := ms_o [(0, 8)] [(0, 4)] ar_t32 ar_t32 [(0, 180)] [(34, 34)] [(17, 60)] [(1, 5)] [(4, 4)]
def mgh19821 : aw_H := [(81, mgx19820), (89, mgx497), (90, .inr (.inl (0, 240, [], []))), (92, .inr (.inl (0, 8, [], []))), (93, .inr (.inl (0, 8, [], []))), (94, mgx8150)]
def mgn1422_252 : Nat × aw_S := (46, [(0, .inl 81), (1, .inr (false, [(0, 3)])), (2, .inr (false, [(1, 1)]))], [], mgh19821)
def mgh19822 : aw_H := [(81, mgx15809), (89, mgx497), (90, .inr (.inl (0, 240, [], []))), (92, .inr (.inl (0, 8, [], []))), (93, .inr (.inl (0, 8, [], []))), (94, mgx8150)]
def mgn1422_253 : Nat × aw_S := (46, [(0, .inl 81), (1, .inr (false, [(0, 3)])), (2, .inr (false, [(0, 0)]))], [], mgh19822)
def mgh19823 : aw_H := [(81, mgx13822), (89, mgx497), (90, .inr (.inl (0, 240, [], []))), (92, .inr (.inl (0, 8, [], []))), (93, .inr (.inl (0, 8, [], []))), (94, mgx6868)]
def mgn1422_254 : Nat × aw_S := (46, [(0, .inl 81), (1, .inr (false, [(0, 3)])), (2, .inr (false, [(0, 0)]))], [], mgh19823)
def mgx19824 : aw_A := ms_o [(0, 8)] [(0, 4)] ar_t32 ar_t32 [(0, 180)] [(30, 30)] [(11, 60)] [(1, 5)] [(2, 2)]
def mgh19825 : aw_H := [(81, mgx19824), (89, mgx497), (90, .inr (.inl (0, 240, [], []))), (92, .inr (.inl (0, 8, [], []))), (93, .inr (.inl (0, 8, [], []))), (94, mgx5820)]
def mgn1422_255 : Nat × aw_S := (46, [(0, .inl 81), (1, .inr (false, [(0, 3)])), (2, .inr (false, [(1, 1)]))], [], mgh19825)
def mgx19826 : aw_A := ms_o [(0, 8)] [(0, 4)] ar_t32 ar_t32 [(0, 180)] [(29, 29)] [(11, 60)] [(1, 5)] [(2, 2)]
def mgh19827 : aw_H := [(81, mgx19826), (89, mgx497), (90, .inr (.inl (0, 240, [], []))), (92, .inr (.inl (0, 8, [], []))), (93, .inr (.inl (0, 8, [], []))), (94, mgx5820)]
def mgn1422_256 : Nat × aw_S := (46, [(0, .inl 81), (1, .inr (false, [(0, 3)])), (2, .inr (false, [(1, 1)]))], [], mgh19827)
def mgx19828 : aw_A := ms_o [(0, 8)] [(0, 4)] ar_t32 ar_t32 [(0, 180)] [(33, 33)] [(14, 60)] [(1, 5)] [(3, 3)]
def mgh19829 : aw_H := [(81, mgx19828), (89, mgx497), (90, .inr (.inl (0, 240, [], []))), (92, .inr (.inl (0, 8, [], []))), (93, .inr (.inl (0, 8, [], []))), (94, mgx6868)]
def mgn1422_257 : Nat × aw_S := (46, [(0, .inl 81), (1, .inr (false, [(0, 3)])), (2, .inr (false, [(1, 1)]))], [], mgh19829)
def mgh19830 : aw_H := [(81, mgx13051), (89, mgx497), (90, .inr (.inl (0, 240, [], []))), (92, .inr (.inl (0, 8, [], []))), (93, .inr (.inl (0, 8, [], []))), (94, mgx5820)]
def mgn1422_258 : Nat × aw_S := (46, [(0, .inl 81), (1, .inr (false, [(0, 3)])), (2, .inr (false, [(0, 0)]))], [], mgh19830)
def mgx19831 : aw_A := ms_o [(0, 8)] [(0, 4)] ar_t32 ar_t32 [(0, 180)] [(32, 32)] [(14, 60)] [(1, 5)] [(3, 3)]
def mgh19832 : aw_H := [(81, mgx19831), (89, mgx497), (90, .inr (.inl (0, 240, [], []))), (92, .inr (.inl (0, 8, [], []))), (93, .inr (.inl (0, 8, [], []))), (94, mgx6868)]
def mgn1422_259 : Nat × aw_S := (46, [(0, .inl 81), (1, .inr (false, [(0, 3)])), (2, .inr (false, [(1, 1)]))], [], mgh19832)
def mgx19833 : aw_A := ms_o [(0, 8)] [(0, 4)] ar_t32 ar_t32 [(0, 180)] [(35, 35)] [(17, 60)] [(1, 5)] [(4, 4)]
def mgh19834 : aw_H := [(81, mgx19833), (89, mgx497), (90, .inr (.inl (0, 240, [], []))), (92, .inr (.inl (0, 8, [], []))), (93, .inr (.inl (0, 8, [], []))), (94, mgx8150)]
def mgn1422_260 : Nat × aw_S := (46, [(0, .inl 81), (1, .inr (false, [(0, 3)])), (2, .inr (false, [(1, 1)]))], [], mgh19834)
def mgh19835 : aw_H := [(81, mgx16079), (89, mgx497), (90, .inr (.inl (0, 240, [], []))), (92, .inr (.inl (0, 8, [], []))), (93, .inr (.inl (0, 8, [], []))), (94, mgx8150)]
def mgn1422_261 : Nat × aw_S := (46, [(0, .inl 81), (1, .inr (false, [(0, 3)])), (2, .inr (false, [(0, 0)]))], [], mgh19835)
def mgx19836 : aw_A := ms_o [(0, 8)] [(0, 4)] ar_t32 ar_t32 [(0, 180)] [(36, 36)] [(17, 60)] [(1, 5)] [(4, 4)]
def mgh19837 : aw_H := [(81, mgx19836), (89, mgx497), (90, .inr (.inl (0, 240, [], []))), (92, .inr (.inl (0, 8, [], []))), (93, .inr (.inl (0, 8, [], []))), (94, mgx8150)]
def mgn1422_262 : Nat × aw_S := (46, [(0, .inl 81), (1, .inr (false, [(0, 3)])), (2, .inr (false, [(1, 1)]))], [], mgh19837)
def mgh19838 : aw_H := [(81, mgx16339), (89, mgx497), (90, .inr (.inl (0, 240, [], []))), (92, .inr (.inl (0, 8, [], []))), (93, .inr (.inl (0, 8, [], []))), (94, mgx8150)]
def mgn1422_263 : Nat × aw_S := (46, [(0, .inl 81), (1, .inr (false, [(0, 3)])), (2, .inr (false, [(0, 0)]))], [], mgh19838)
def mgh19839 : aw_H := [(81, mgx14498), (89, mgx497), (90, .inr (.inl (0, 240, [], []))), (92, .inr (.inl (0, 8, [], []))), (93, .inr (.inl (0, 8, [], []))), (94, mgx6868)]
def mgn1422_264 : Nat × aw_S := (46, [(0, .inl 81), (1, .inr (false, [(0, 3)])), (2, .inr (false, [(0, 0)]))], [], mgh19839)
def mgh19840 : aw_H := [(81, mgx14168), (89, mgx497), (90, .inr (.inl (0, 240, [], []))), (92, .inr (.inl (0, 8, [], []))), (93, .inr (.inl (0, 8, [], []))), (94, mgx6868)]
def mgn1422_265 : Nat × aw_S := (46, [(0, .inl 81), (1, .inr (false, [(0, 3)])), (2, .inr (false, [(0, 0)]))], [], mgh19840)
def mgh19841 : aw_H := [(81, mgx13410), (89, mgx497), (90, .inr (.inl (0, 240, [], []))), (92, .inr (.inl (0, 8, [], []))), (93, .inr (.inl (0, 8, [], []))), (94, mgx5820)]
def mgn1422_266 : Nat × aw_S := (46, [(0, .inl 81), (1, .inr (false, [(0, 3)])), (2, .inr (false, [(0, 0)]))], [], mgh19841)
def mgx19842 : aw_A := ms_o [(0, 8)] [(0, 4)] ar_t32 ar_t32 [(0, 180)] [(39, 39)] [(11, 60)] [(1, 8)] [(2, 2)]
def mgh19843 : aw_H := [(81, mgx19842), (89, mgx497), (90, .inr (.inl (0, 240, [], []))), (92, .inr (.inl (0, 8, [], []))), (93, .inr (.inl (0, 8, [], []))), (94, mgx5820)]
def mgn1422_267 : Nat × aw_S := (46, [(0, .inl 81), (1, .inr (false, [(0, 3)])), (2, .inr (false, [(1, 1)]))], [], mgh19843)
def mgh19844 : aw_H := [(81, mgx16186), (89, mgx497), (90, .inr (.inl (0, 240, [], []))), (92, .inr (.inl (0, 8, [], []))), (93, .inr (.inl (0, 8, [], []))), (94, mgx5820)]
def mgn1422_268 : Nat × aw_S := (46, [(0, .inl 81), (1, .inr (false, [(0, 3)])), (2, .inr (false, [(0, 0)]))], [], mgh19844)
def mgx19845 : aw_A := ms_o [(0, 8)] [(0, 4)] ar_t32 ar_t32 [(0, 180)] [(32, 32)] [(11, 60)] [(1, 6)] [(2, 2)]
def mgh19846 : aw_H := [(81, mgx19845), (89, mgx497), (90, .inr (.inl (0, 240, [], []))), (92, .inr (.inl (0, 8, [], []))), (93, .inr (.inl (0, 8, [], []))), (94, mgx5820)]
def mgn1422_269 : Nat × aw_S := (46, [(0, .inl 81), (1, .inr (false, [(0, 3)])), (2, .inr (false, [(1, 1)]))], [], mgh19846)
def mgh19847 : aw_H := [(81, mgx14751), (89, mgx497), (90, .inr (.inl (0, 240, [], []))), (92, .inr (.inl (0, 8, [], []))), (93, .inr (.inl (0, 8, [], []))), (94, mgx5820)]
def mgn1422_270 : Nat × aw_S := (46, [(0, .inl 81), (1, .inr (false, [(0, 3)])), (2, .inr (false, [(0, 0)]))], [], mgh19847)
def mgx19848 : aw_A := ms_o [(0, 8)] [(0, 4)] ar_t32 ar_t32 [(0, 180)] [(31, 31)] [(11, 60)] [(1, 6)] [(2, 2)]
def mgh19849 : aw_H := [(81, mgx19848), (89, mgx497), (90, .inr (.inl (0, 240, [], []))), (92, .inr (.inl (0, 8, [], []))), (93, .inr (.inl (0, 8, [], []))), (94, mgx5820)]
def mgn1422_271 : Nat × aw_S := (46, [(0, .inl 81), (1, .inr (false, [(0, 3)])), (2, .inr (false, [(1, 1)]))], [], mgh19849)
def mgh19850 : aw_H := [(81, mgx14432), (89, mgx497), (90, .inr (.inl (0, 240, [], []))), (92, .inr (.inl (0, 8, [], []))), (93, .inr (.inl (0, 8, [], []))), (94, mgx5820)]
def mgn1422_272 : Nat × aw_S := (46, [(0, .inl 81), (1, .inr (false, [(0, 3)])), (2, .inr (false, [(0, 0)]))], [], mgh19850)
def mgx19851 : aw_A := ms_o [(0, 8)] [(0, 4)] ar_t32 ar_t32 [(0, 180)] [(37, 37)] [(14, 60)] [(1, 6)] [(3, 3)]
def mgh19852 : aw_H := [(81, mgx19851), (89, mgx497), (90, .inr (.inl (0, 240, [], []))), (92, .inr (.inl (0, 8, [], []))), (93, .inr (.inl (0, 8, [], []))), (94, mgx6868)]
def mgn1422_273 : Nat × aw_S := (46, [(0, .inl 81), (1, .inr (false, [(0, 3)])), (2, .inr (false, [(1, 1)]))], [], mgh19852)
def mgx19853 : aw_A := ms_o [(0, 8)] [(0, 4)] ar_t32 ar_t32 [(0, 180)] [(35, 35)] [(14, 60)] [(1, 6)] [(3, 3)]
def mgh19854 : aw_H := [(81, mgx19853), (89, mgx497), (90, .inr (.inl (0, 240, [], []))), (92, .inr (.inl (0, 8, [], []))), (93, .inr (.inl (0, 8, [], []))), (94, mgx6868)]
def mgn1422_274 : Nat × aw_S := (46, [(0, .inl 81), (1, .inr (false, [(0, 3)])), (2, .inr (false, [(1, 1)]))], [], mgh19854)
def mgx19855 : aw_A := ms_o [(0, 8)] [(0, 4)] ar_t32 ar_t32 [(0, 180)] [(38, 38)] [(14, 60)] [(1, 7)] [(3, 3)]
def mgh19856 : aw_H := [(81, mgx19855), (89, mgx497), (90, .inr (.inl (0, 240, [], []))), (92, .inr (.inl (0, 8, [], []))), (93, .inr (.inl (0, 8, [], []))), (94, mgx6868)]
def mgn1422_275 : Nat × aw_S := (46, [(0, .inl 81), (1, .inr (false, [(0, 3)])), (2, .inr (false, [(1, 1)]))], [], mgh19856)
def mgx19857 : aw_A := ms_o [(0, 8)] [(0, 4)] ar_t32 ar_t32 [(0, 180)] [(39, 39)] [(14, 60)] [(1, 7)] [(3, 3)]
def mgh19858 : aw_H := [(81, mgx19857), (89, mgx497), (90, .inr (.inl (0, 240, [], []))), (92, .inr (.inl (0, 8, [], []))), (93, .inr (.inl (0, 8, [], []))), (94, mgx6868)]
def mgn1422_276 : Nat × aw_S := (46, [(0, .inl 81), (1, .inr (false, [(0, 3)])), (2, .inr (false, [(1, 1)]))], [], mgh19858)
def mgh19859 : aw_H := [(81, mgx16238), (89, mgx497), (90, .inr (.inl (0, 240, [], []))), (92, .inr (.inl (0, 8, [], []))), (93, .inr (.inl (0, 8, [], []))), (94, mgx6868)]
def mgn1422_277 : Nat × aw_S := (46, [(0, .inl 81), (1, .inr (false, [(0, 3)])), (2, .inr (false, [(0, 0)]))], [], mgh19859)
def mgx19860 : aw_A := ms_o [(0, 8)] [(0, 4)] ar_t32 ar_t32 [(0, 180)] [(36, 36)] [(14, 60)] [(1, 6)] [(3, 3)]
def mgh19861 : aw_H := [(81, mgx19860), (89, mgx497), (90, .inr (.inl (0, 240, [], []))), (92, .inr (.inl (0, 8, [], []))), (93, .inr (.inl (0, 8, [], []))), (94, mgx6868)]
def mgn1422_278 : Nat × aw_S := (46, [(0, .inl 81), (1, .inr (false, [(0, 3)])), (2, .inr (false, [(1, 1)]))], [], mgh19861)
def mgh19862 : aw_H := [(81, mgx15703), (89, mgx497), (90, .inr (.inl (0, 240, [], []))), (92, .inr (.inl (0, 8, [], []))), (93, .inr (.inl (0, 8, [], []))), (94, mgx6868)]
def mgn1422_279 : Nat × aw_S := (46, [(0, .inl 81), (1, .inr (false, [(0, 3)])), (2, .inr (false, [(0, 0)]))], [], mgh19862)
def mgh19863 : aw_H := [(81, mgx15976), (89, mgx497), (90, .inr (.inl (0, 240, [], []))), (92, .inr (.inl (0, 8, [], []))), (93, .inr (.inl (0, 8, [], []))), (94, mgx6868)]
def mgn1422_280 : Nat × aw_S := (46, [(0, .inl 81), (1, .inr (false, [(0, 3)])), (2, .inr (false, [(0, 0)]))], [], mgh19863)
def mgh19864 : aw_H := [(81, mgx14101), (89, mgx497), (90, .inr (.inl (0, 240, [], []))), (92, .inr (.inl (0, 8, [], []))), (93, .inr (.inl (0, 8, [], []))), (94, mgx5820)]
def mgn1422_281 : Nat × aw_S := (46, [(0, .inl 81), (1, .inr (false, [(0, 3)])), (2, .inr (false, [(0, 0)]))], [], mgh19864)
def mgh19865 : aw_H := [(81, mgx13754), (89, mgx497), (90, .inr (.inl (0, 240, [], []))), (92, .inr (.inl (0, 8, [], []))), (93, .inr (.inl (0, 8, [], []))), (94, mgx5820)]
def mgn1422_282 : Nat × aw_S := (46, [(0, .inl 81), (1, .inr (false, [(0, 3)])), (2, .inr (false, [(0, 0)]))], [], mgh19865)
def mgx19866 : aw_A := ms_o [(0, 8)] [(0, 4)] ar_t32 ar_t32 [(0, 180)] [(34, 34)] [(14, 60)] [(1, 6)] [(3, 3)]
def mgh19867 : aw_H := [(81, mgx19866), (89, mgx497), (90, .inr (.inl (0, 240, [], []))), (92, .inr (.inl (0, 8, [], []))), (93, .inr (.inl (0, 8, [], []))), (94, mgx6868)]
def mgn1422_283 : Nat × aw_S := (46, [(0, .inl 81), (1, .inr (false, [(0, 3)])), (2, .inr (false, [(1, 1)]))], [], mgh19867)
def mgx19868 : aw_A := ms_o [(0, 8)] [(0, 4)] ar_t32 ar_t32 [(0, 180)] [(40, 40)] [(17, 60)] [(1, 6)] [(4, 4)]
def mgh19869 : aw_H := [(81, mgx19868), (89, mgx497), (90, .inr (.inl (0, 240, [], []))), (92, .inr (.inl (0, 8, [], []))), (93, .inr (.inl (0, 8, [], []))), (94, mgx8150)]
def mgn1422_284 : Nat × aw_S := (46, [(0, .inl 81), (1, .inr (false, [(0, 3)])), (2, .inr (false, [(1, 1)]))], [], mgh19869)
def mgh19870 : aw_H := [(81, mgx17273), (89, mgx497), (90, .inr (.inl (0, 240, [], []))), (92, .inr (.inl (0, 8, [], []))), (93, .inr (.inl (0, 8, [], []))), (94, mgx8150)]
def mgn1422_285 : Nat × aw_S := (46, [(0, .inl 81), (1, .inr (false, [(0, 3)])), (2, .inr (false, [(0, 0)]))], [], mgh19870)
def mgx19871 : aw_A := ms_o [(0, 8)] [(0, 4)] ar_t32 ar_t32 [(0, 180)] [(38, 38)] [(17, 60)] [(1, 6)] [(4, 4)]
def mgh19872 : aw_H := [(81, mgx19871), (89, mgx497), (90, .inr (.inl (0, 240, [], []))), (92, .inr (.inl (0, 8, [], []))), (93, .inr (.inl (0, 8, [], []))), (94, mgx8150)]
def mgn1422_286 : Nat × aw_S := (46, [(0, .inl 81), (1, .inr (false, [(0, 3)])), (2, .inr (false, [(1, 1)]))], [], mgh19872)
def mgh19873 : aw_H := [(81, mgx16829), (89, mgx497), (90, .inr (.inl (0, 240, [], []))), (92, .inr (.inl (0, 8, [], []))), (93, .inr (.inl (0, 8, [], []))), (94, mgx8150)]
def mgn1422_287 : Nat × aw_S := (46, [(0, .inl 81), (1, .inr (false, [(0, 3)])), (2, .inr (false, [(0, 0)]))], [], mgh19873)
def mgh19874 : aw_H := [(81, mgx15115), (89, mgx497), (90, .inr (.inl (0, 240, [], []))), (92, .inr (.inl (0, 8, [], []))), (93, .inr (.inl (0, 8, [], []))), (94, mgx6868)]
def mgn1422_288 : Nat × aw_S := (46, [(0, .inl 81), (1, .inr (false, [(0, 3)])), (2, .inr (false, [(0, 0)]))], [], mgh19874)
def mgx19875 : aw_A := ms_o [(0, 8)] [(0, 4)] ar_t32 ar_t32 [(0, 180)] [(39, 39)] [(17, 60)] [(1, 6)] [(4, 4)]
def mgh19876 : aw_H := [(81, mgx19875), (89, mgx497), (90, .inr (.inl (0, 240, [], []))), (92, .inr (.inl (0, 8, [], []))), (93, .inr (.inl (0, 8, [], []))), (94, mgx8150)]
def mgn1422_289 : Nat × aw_S := (46, [(0, .inl 81), (1, .inr (false, [(0, 3)])), (2, .inr (false, [(1, 1)]))], [], mgh19876)
def mgh19877 : aw_H := [(81, mgx17055), (89, mgx497), (90, .inr (.inl (0, 240, [], []))), (92, .inr (.inl (0, 8, [], []))), (93, .inr (.inl (0, 8, [], []))), (94, mgx8150)]
def mgn1422_290 : Nat × aw_S := (46, [(0, .inl 81), (1, .inr (false, [(0, 3)])), (2, .inr (false, [(0, 0)]))], [], mgh19877)
def mgx19878 : aw_A := ms_o [(0, 8)] [(0, 4)] ar_t32 ar_t32 [(0, 180)] [(42, 42)] [(17, 60)] [(1, 7)] [(4, 4)]
def mgh19879 : aw_H := [(81, mgx19878), (89, mgx497), (90, .inr (.inl (0, 240, [], []))), (92, .inr (.inl (0, 8, [], []))), (93, .inr (.inl (0, 8, [], []))), (94, mgx8150)]
def mgn1422_291 : Nat × aw_S := (46, [(0, .inl 81), (1, .inr (false, [(0, 3)])), (2, .inr (false, [(1, 1)]))], [], mgh19879)
def mgh19880 : aw_H := [(81, mgx17675), (89, mgx497), (90, .inr (.inl (0, 240, [], []))), (92, .inr (.inl (0, 8, [], []))), (93, .inr (.inl (0, 8, [], []))), (94, mgx8150)]
def mgn1422_292 : Nat × aw_S := (46, [(0, .inl 81), (1, .inr (false, [(0, 3)])), (2, .inr (false, [(0, 0)]))], [], mgh19880)
def mgx19881 : aw_A := ms_o [(0, 8)] [(0, 4)] ar_t32 ar_t32 [(0, 180)] [(41, 41)] [(17, 60)] [(1, 7)] [(4, 4)]
def mgh19882 : aw_H := [(81, mgx19881), (89, mgx497), (90, .inr (.inl (0, 240, [], []))), (92, .inr (.inl (0, 8, [], []))), (93, .inr (.inl (0, 8, [], []))), (94, mgx8150)]
def mgn1422_293 : Nat × aw_S := (46, [(0, .inl 81), (1, .inr (false, [(0, 3)])), (2, .inr (false, [(1, 1)]))], [], mgh19882)
def mgh19883 : aw_H := [(81, mgx17481), (89, mgx497), (90, .inr (.inl (0, 240, [], []))), (92, .inr (.inl (0, 8, [], []))), (93, .inr (.inl (0, 8, [], []))), (94, mgx8150)]
def mgn1422_294 : Nat × aw_S := (46, [(0, .inl 81), (1, .inr (false, [(0, 3)])), (2, .inr (false, [(0, 0)]))], [], mgh19883)
def mgh19884 : aw_H := [(81, mgx15413), (89, mgx497), (90, .inr (.inl (0, 240, [], []))), (92, .inr (.inl (0, 8, [], []))), (93, .inr (.inl (0, 8, [], []))), (94, mgx6868)]
def mgn1422_295 : Nat × aw_S := (46, [(0, .inl 81), (1, .inr (false, [(0, 3)])), (2, .inr (false, [(0, 0)]))], [], mgh19884)
def mgx19885 : aw_A := ms_o [(0, 8)] [(0, 4)] ar_t32 ar_t32 [(0, 180)] [(37, 37)] [(17, 60)] [(1, 6)] [(4, 4)]
def mgh19886 : aw_H := [(81, mgx19885), (89, mgx497), (90, .inr (.inl (0, 240, [], []))), (92, .inr (.inl (0, 8, [], []))), (93, .inr (.inl (0, 8, [], []))), (94, mgx8150)]
def mgn1422_296 : Nat × aw_S := (46, [(0, .inl 81), (1, .inr (false, [(0, 3)])), (2, .inr (false, [(1, 1)]))], [], mgh19886)
def mgh19887 : aw_H := [(81, mgx16591), (89, mgx497), (90, .inr (.inl (0, 240, [], []))), (92, .inr (.inl (0, 8, [], []))), (93, .inr (.inl (0, 8, [], []))), (94, mgx8150)]
def mgn1422_297 : Nat × aw_S := (46, [(0, .inl 81), (1, .inr (false, [(0, 3)])), (2, .inr (false, [(0, 0)]))], [], mgh19887)
def mgh19888 : aw_H := [(81, mgx14812), (89, mgx497), (90, .inr (.inl (0, 240, [], []))), (92, .inr (.inl (0, 8, [], []))), (93, .inr (.inl (0, 8, [], []))), (94, mgx6868)]
def mgn1422_298 : Nat × aw_S := (46, [(0, .inl 81), (1, .inr (false, [(0, 3)])), (2, .inr (false, [(0, 0)]))], [], mgh19888)
def mgx19889 : aw_A := ms_o [(0, 8)] [(0, 4)] ar_t32 ar_t32 [(0, 180)] [(40, 40)] [(14, 60)] [(1, 7)] [(3, 3)]
def mgh19890 : aw_H := [(81, mgx19889), (89, mgx497), (90, .inr (.inl (0, 240, [], []))), (92, .inr (.inl (0, 8, [], []))), (93, .inr (.inl (0, 8, [], []))), (94, mgx6868)]
def mgn1422_299 : Nat × aw_S := (46, [(0, .inl 81), (1, .inr (false, [(0, 3)])), (2, .inr (false, [(1, 1)]))], [], mgh19890)
def mgx19891 : aw_A := ms_o [(0, 8)] [(0, 4)] ar_t32 ar_t32 [(0, 180)] [(43, 43)] [(17, 60)] [(1, 7)] [(4, 4)]
def mgh19892 : aw_H := [(81, mgx19891), (89, mgx497), (90, .inr (.inl (0, 240, [], []))), (92, .inr (.inl (0, 8, [], []))), (93, .inr (.inl (0, 8, [], []))), (94, mgx8150)]
def mgn1422_300 : Nat × aw_S := (46, [(0, .inl 81), (1, .inr (false, [(0, 3)])), (2, .inr (false, [(1, 1)]))], [], mgh19892)
def mgh19893 : aw_H := [(81, mgx17859), (89, mgx497), (90, .inr (.inl (0, 240, [], []))), (92, .inr (.inl (0, 8, [], []))), (93, .inr (.inl (0, 8, [], []))), (94, mgx8150)]
def mgn1422_301 : Nat × aw_S := (46, [(0, .inl 81), (1, .inr (false, [(0, 3)])), (2, .inr (false, [(0, 0)]))], [], mgh19893)
def mgh19894 : aw_H := [(81, mgx16493), (89, mgx497), (90, .inr (.inl (0, 240, [], []))), (92, .inr (.inl (0, 8, [], []))), (93, .inr (.inl (0, 8, [], []))), (94, mgx6868)]
def mgn1422_302 : Nat × aw_S := (46, [(0, .inl 81), (1, .inr (false, [(0, 3)])), (2, .inr (false, [(0, 0)]))], [], mgh19894)
def mgx19895 : aw_A := ms_o [(0, 8)] [(0, 4)] ar_t32 ar_t32 [(0, 180)] [(42, 42)] [(14, 60)] [(1, 8)] [(3, 3)]
def mgh19896 : aw_H := [(81, mgx19895), (89, mgx497), (90, .inr (.inl (0, 240, [], []))), (92, .inr (.inl (0, 8, [], []))), (93, .inr (.inl (0, 8, [], []))), (94, mgx6868)]
def mgn1422_303 : Nat × aw_S := (46, [(0, .inl 81), (1, .inr (false, [(0, 3)])), (2, .inr (false, [(1, 1)]))], [], mgh19896)
def mgx19897 : aw_A := ms_o [(0, 8)] [(0, 4)] ar_t32 ar_t32 [(0, 180)] [(41, 41)] [(14, 60)] [(1, 7)] [(3, 3)]
def mgh19898 : aw_H := [(81, mgx19897), (89, mgx497), (90, .inr (.inl (0, 240, [], []))), (92, .inr (.inl (0, 8, [], []))), (93, .inr (.inl (0, 8, [], []))), (94, mgx6868)]
def mgn1422_304 : Nat × aw_S := (46, [(0, .inl 81), (1, .inr (false, [(0, 3)])), (2, .inr (false, [(1, 1)]))], [], mgh19898)
def mgh19899 : aw_H := [(81, mgx16968), (89, mgx497), (90, .inr (.inl (0, 240, [], []))), (92, .inr (.inl (0, 8, [], []))), (93, .inr (.inl (0, 8, [], []))), (94, mgx6868)]
def mgn1422_305 : Nat × aw_S := (46, [(0, .inl 81), (1, .inr (false, [(0, 3)])), (2, .inr (false, [(0, 0)]))], [], mgh19899)
def mgh19900 : aw_H := [(81, mgx16739), (89, mgx497), (90, .inr (.inl (0, 240, [], []))), (92, .inr (.inl (0, 8, [], []))), (93, .inr (.inl (0, 8, [], []))), (94, mgx6868)]
def mgn1422_306 : Nat × aw_S := (46, [(0, .inl 81), (1, .inr (false, [(0, 3)])), (2, .inr (false, [(0, 0)]))], [], mgh19900)
def mgx19901 : aw_A := ms_o [(0, 8)] [(0, 4)] ar_t32 ar_t32 [(0, 180)] [(44, 44)] [(17, 60)] [(1, 7)] [(4, 4)]
def mgh19902 : aw_H := [(81, mgx19901), (89, mgx497), (90, .inr (.inl (0, 240, [], []))), (92, .inr (.inl (0, 8, [], []))), (93, .inr (.inl (0, 8, [], []))), (94, mgx8150)]
def mgn1422_307 : Nat × aw_S := (46, [(0, .inl 81), (1, .inr (false, [(0, 3)])), (2, .inr (false, [(1, 1)]))], [], mgh19902)
def mgh19903 : aw_H := [(81, mgx18033), (89, mgx497), (90, .inr (.inl (0, 240, [], []))), (92, .inr (.inl (0, 8, [], []))), (93, .inr (.inl (0, 8, [], []))), (94, mgx8150)]
def mgn1422_308 : Nat × aw_S := (46, [(0, .inl 81), (1, .inr (false, [(0, 3)])), (2, .inr (false, [(0, 0)]))], [], mgh19903)
def mgx19904 : aw_A := ms_o [(0, 8)] [(0, 4)] ar_t32 ar_t32 [(0, 180)] [(45, 45)] [(17, 60)] [(1, 8)] [(4, 4)]
def mgh19905 : aw_H := [(81, mgx19904), (89, mgx497), (90, .inr (.inl (0, 240, [], []))), (92, .inr (.inl (0, 8, [], []))), (93, .inr (.inl (0, 8, [], []))), (94, mgx8150)]
def mgn1422_309 : Nat × aw_S := (46, [(0, .inl 81), (1, .inr (false, [(0, 3)])), (2, .inr (false, [(1, 1)]))], [], mgh19905)
def mgh19906 : aw_H := [(81, mgx18197), (89, mgx497), (90, .inr (.inl (0, 240, [], []))), (92, .inr (.inl (0, 8, [], []))), (93, .inr (.inl (0, 8, [], []))), (94, mgx8150)]
def mgn1422_310 : Nat × aw_S := (46, [(0, .inl 81), (1, .inr (false, [(0, 3)])), (2, .inr (false, [(0, 0)]))], [], mgh19906)
def mgx19907 : aw_A := ms_o [(0, 8)] [(0, 4)] ar_t32 ar_t32 [(0, 180)] [(40, 40)] [(11, 60)] [(1, 8)] [(2, 2)]
def mgh19908 : aw_H := [(81, mgx19907), (89, mgx497), (90, .inr (.inl (0, 240, [], []))), (92, .inr (.inl (0, 8, [], []))), (93, .inr (.inl (0, 8, [], []))), (94, mgx5820)]
def mgn1422_311 : Nat × aw_S := (46, [(0, .inl 81), (1, .inr (false, [(0, 3)])), (2, .inr (false, [(1, 1)]))], [], mgh19908)
def mgh19909 : aw_H := [(81, mgx16442), (89, mgx497), (90, .inr (.inl (0, 240, [], []))), (92, .inr (.inl (0, 8, [], []))), (93, .inr (.inl (0, 8, [], []))), (94, mgx5820)]
def mgn1422_312 : Nat × aw_S := (46, [(0, .inl 81), (1, .inr (false, [(0, 3)])), (2, .inr (false, [(0, 0)]))], [], mgh19909)
def mgx19910 : aw_A := ms_o [(0, 8)] [(0, 4)] ar_t32 ar_t32 [(0, 180)] [(43, 43)] [(14, 60)] [(1, 8)] [(3, 3)]
def mgh19911 : aw_H := [(81, mgx19910), (89, mgx497), (90, .inr (.inl (0, 240, [], []))), (92, .inr (.inl (0, 8, [], []))), (93, .inr (.inl (0, 8, [], []))), (94, mgx6868)]
def mgn1422_313 : Nat × aw_S := (46, [(0, .inl 81), (1, .inr (false, [(0, 3)])), (2, .inr (false, [(1, 1)]))], [], mgh19911)
def mgx19912 : aw_A := ms_o [(0, 8)] [(0, 4)] ar_t32 ar_t32 [(0, 180)] [(46, 46)] [(17, 60)] [(1, 8)] [(4, 4)]
def mgh19913 : aw_H := [(81, mgx19912), (89, mgx497), (90, .inr (.inl (0, 240, [], []))), (92, .inr (.inl (0, 8, [], []))), (93, .inr (.inl (0, 8, [], []))), (94, mgx8150)]
def mgn1422_314 : Nat × aw_S := (46, [(0, .inl 81), (1, .inr (false, [(0, 3)])), (2, .inr (false, [(1, 1)]))], [], mgh19913)
def mgh19914 : aw_H := [(81, mgx18351), (89, mgx497), (90, .inr (.inl (0, 240, [], []))), (92, .inr (.inl (0, 8, [], []))), (93, .inr (.inl (0, 8, [], []))), (94, mgx8150)]
def mgn1422_315 : Nat × aw_S := (46, [(0, .inl 81), (1, .inr (false, [(0, 3)])), (2, .inr (false, [(0, 0)]))], [], mgh19914)
def mgh19915 : aw_H := [(81, mgx17188), (89, mgx497), (90, .inr (.inl (0, 240, [], []))), (92, .inr (.inl (0, 8, [], []))), (93, .inr (.inl (0, 8, [], []))), (94, mgx6868)]
def mgn1422_316 : Nat × aw_S := (46, [(0, .inl 81), (1, .inr (false, [(0, 3)])), (2, .inr (false, [(0, 0)]))], [], mgh19915)
def mgx19916 : aw_A := ms_o [(0, 8)] [(0, 4)] ar_t32 ar_t32 [(0, 180)] [(44, 44)] [(14, 60)] [(1, 8)] [(3, 3)]
def mgh19917 : aw_H := [(81, mgx19916), (89, mgx497), (90, .inr (.inl (0, 240, [], []))), (92, .inr (.inl (0, 8, [], []))), (93, .inr (.inl (0, 8, [], []))), (94, mgx6868)]
def mgn1422_317 : Nat × aw_S := (46, [(0, .inl 81), (1, .inr (false, [(0, 3)])), (2, .inr (false, [(1, 1)]))], [], mgh19917)
def mgx19918 : aw_A := ms_o [(0, 8)] [(0, 4)] ar_t32 ar_t32 [(0, 180)] [(47, 47)] [(17, 60)] [(1, 8)] [(4, 4)]
def mgh19919 : aw_H := [(81, mgx19918), (89, mgx497), (90, .inr (.inl (0, 240, [], []))), (92, .inr (.inl (0, 8, [], []))), (93, .inr (.inl (0, 8, [], []))), (94, mgx8150)]
def mgn1422_318 : Nat × aw_S := (46, [(0, .inl 81), (1, .inr (false, [(0, 3)])), (2, .inr (false, [(1, 1)]))], [], mgh19919)
def mgh19920 : aw_H := [(81, mgx18495), (89, mgx497), (90, .inr (.inl (0, 240, [], []))), (92, .inr (.inl (0, 8, [], []))), (93, .inr (.inl (0, 8, [], []))), (94, mgx8150)]
def mgn1422_319 : Nat × aw_S := (46, [(0, .inl 81), (1, .inr (false, [(0, 3)])), (2, .inr (false, [(0, 0)]))], [], mgh19920)
def mgh19921 : aw_H := [(81, mgx17400), (89, mgx497), (90, .inr (.inl (0, 240, [], []))), (92, .inr (.inl (0, 8, [], []))), (93, .inr (.inl (0, 8, [], []))), (94, mgx6868)]
def mgn1422_320 : Nat × aw_S := (46, [(0, .inl 81), (1, .inr (false, [(0, 3)])), (2, .inr (false, [(0, 0)]))], [], mgh19921)
def mgh19922 : aw_H := [(81, mgx16690), (89, mgx497), (90, .inr (.inl (0, 240, [], []))), (92, .inr (.inl (0, 8, [], []))), (93, .inr (.inl (0, 8, [], []))), (94, mgx5820)]
def mgn1422_321 : Nat × aw_S := (46, [(0, .inl 81), (1, .inr (false, [(0, 3)])), (2, .inr (false, [(0, 0)]))], [], mgh19922)
def mgh19923 : aw_H := [(81, mgx11428), (89, mgx497), (90, .inr (.inl (0, 240, [], []))), (92, .inr (.inl (0, 8, [], []))), (93, .inr (.inl (0, 8, [], []))), (94, mgx5052)]
def mgn1422_322 : Nat × aw_S := (46, [(0, .inl 81), (1, .inr (false, [(0, 3)])), (2, .inr (false, [(0, 0)]))], [], mgh19923)
def mgx19924 : aw_A := ms_o [(0, 8)] [(0, 4)] ar_t32 ar_t32 [(0, 180)] [(36, 36)] [(1, 60)] [(0, 8)] [(0, 0)]
def mgh19925 : aw_H := [(81, mgx19924), (89, mgx497), (90, .inr (.inl (0, 240, [], []))), (92, .inr (.inl (0, 8, [], []))), (93, .inr (.inl (0, 8, [], []))), (94, mgx5049)]
def mgn1422_323 : Nat × aw_S := (46, [(0, .inl 81), (1, .inr (false, [(0, 3)])), (2, .inr (false, [(1, 1)]))], [], mgh19925)
def mgx19926 : aw_A := ms_o [(0, 8)] [(0, 4)] ar_t32 ar_t32 [(0, 180)] [(36, 36)] [(-1, 60)] [(0, 8)] [(0, 0)]
def mgh19927 : aw_H := [(81, mgx19926), (89, mgx497), (90, .inr (.inl (0, 240, [], []))), (92, .inr (.inl (0, 8, [], []))), (93, .inr (.inl (0, 8, [], []))), (94, mgx5049)]
def mgn1422_324 : Nat × aw_S := (46, [(0, .inl 81), (1, .inr (false, [(0, 3)])), (2, .inr (false, [(0, 0)]))], [], mgh19927)
def mgx19928 : aw_A := ms_o [(0, 8)] [(0, 4)] ar_t32 ar_t32 [(0, 180)] [(39, 39)] [(-1, 60)] [(0, 8)] [(0, 0)]
def mgh19929 : aw_H := [(81, mgx19928), (89, mgx497), (90, .inr (.inl (0, 240, [], []))), (92, .inr (.inl (0, 8, [], []))), (93, .inr (.inl (0, 8, [], []))), (94, mgx5049)]
def mgn1422_325 : Nat × aw_S := (46, [(0, .inl 81), (1, .inr (false, [(0, 3)])), (2, .inr (false, [(0, 0)]))], [], mgh19929)
def mgx19930 : aw_A := ms_o [(0, 8)] [(0, 4)] ar_t32 ar_t32 [(0, 180)] [(40, 40)] [(1, 60)] [(0, 8)] [(0, 0)]
def mgh19931 : aw_H := [(81, mgx19930), (89, mgx497), (90, .inr (.inl (0, 240, [], []))), (92, .inr (.inl (0, 8, [], []))), (93, .inr (.inl (0, 8, [], []))), (94, mgx5049)]
def mgn1422_326 : Nat × aw_S := (46, [(0, .inl 81), (1, .inr (false, [(0, 3)])), (2, .inr (false, [(1, 1)]))], [], mgh19931)
def mgx19932 : aw_A := ms_o [(0, 8)] [(0, 4)] ar_t32 ar_t32 [(0, 180)] [(44, 44)] [(1, 60)] [(0, 8)] [(0, 0)]
def mgh19933 : aw_H := [(81, mgx19932), (89, mgx497), (90, .inr (.inl (0, 240, [], []))), (92, .inr (.inl (0, 8, [], []))), (93, .inr (.inl (0, 8, [], []))), (94, mgx5049)]
def mgn1422_327 : Nat × aw_S := (46, [(0, .inl 81), (1, .inr (false, [(0, 3)])), (2, .inr (false, [(1, 1)]))], [], mgh19933)
def mgx19934 : aw_A := ms_o [(0, 8)] [(0, 4)] ar_t32 ar_t32 [(0, 180)] [(40, 40)] [(-1, 60)] [(0, 8)] [(0, 0)]
def mgh19935 : aw_H := [(81, mgx19934), (89, mgx497), (90, .inr (.inl (0, 240, [], []))), (92, .inr (.inl (0, 8, [], []))), (93, .inr (.inl (0, 8, [], []))), (94, mgx5049)]
def mgn1422_328 : Nat × aw_S := (46, [(0, .inl 81), (1, .inr (false, [(0, 3)])), (2, .inr (false, [(0, 0)]))], [], mgh19935)
def mgx19936 : aw_A := ms_o [(0, 8)] [(0, 4)] ar_t32 ar_t32 [(0, 180)] [(41, 41)] [(8, 60)] [(1, 8)] [(1, 1)]
def mgh19937 : aw_H := [(81, mgx19936), (89, mgx497), (90, .inr (.inl (0, 240, [], []))), (92, .inr (.inl (0, 8, [], []))), (93, .inr (.inl (0, 8, [], []))), (94, mgx5052)]
def mgn1422_329 : Nat × aw_S := (46, [(0, .inl 81), (1, .inr (false, [(0, 3)])), (2, .inr (false, [(1, 1)]))], [], mgh19937)
def mgx19938 : aw_A := ms_o [(0, 8)] [(0, 4)] ar_t32 ar_t32 [(0, 180)] [(38, 38)] [(-1, 60)] [(0, 8)] [(0, 0)]
def mgh19939 : aw_H := [(81, mgx19938), (89, mgx497), (90, .inr (.inl (0, 240, [], []))), (92, .inr (.inl (0, 8, [], []))), (93, .inr (.inl (0, 8, [], []))), (94, mgx5049)]
def mgn1422_330 : Nat × aw_S := (46, [(0, .inl 81), (1, .inr (false, [(0, 3)])), (2, .inr (false, [(0, 0)]))], [], mgh19939)
def mgx19940 : aw_A := ms_o [(0, 8)] [(0, 4)] ar_t32 ar_t32 [(0, 180)] [(43, 43)] [(8, 60)] [(1, 8)] [(1, 1)]
def mgh19941 : aw_H := [(81, mgx19940), (89, mgx497), (90, .inr (.inl (0, 240, [], []))), (92, .inr (.inl (0, 8, [], []))), (93, .inr (.inl (0, 8, [], []))), (94, mgx5052)]
def mgn1422_331 : Nat × aw_S := (46, [(0, .inl 81), (1, .inr (false, [(0, 3)])), (2, .inr (false, [(1, 1)]))], [], mgh19941)
def mgx19942 : aw_A := ms_o [(0, 8)] [(0, 4)] ar_t32 ar_t32 [(0, 180)] [(43, 43)] [(1, 60)] [(0, 8)] [(0, 0)]
def mgh19943 : aw_H := [(81, mgx19942), (89, mgx497), (90, .inr (.inl (0, 240, [], []))), (92, .inr (.inl (0, 8, [], []))), (93, .inr (.inl (0, 8, [], []))), (94, mgx5049)]
def mgn1422_332 : Nat × aw_S := (46, [(0, .inl 81), (1, .inr (false, [(0, 3)])), (2, .inr (false, [(1, 1)]))], [], mgh19943)
def mgx19944 : aw_A := ms_o [(0, 8)] [(0, 4)] ar_t32 ar_t32 [(0, 180)] [(40, 40)] [(8, 60)] [(1, 8)] [(1, 1)]
def mgh19945 : aw_H := [(81, mgx19944), (89, mgx497), (90, .inr (.inl (0, 240, [], []))), (92, .inr (.inl (0, 8, [], []))), (93, .inr (.inl (0, 8, [], []))), (94, mgx5052)]
def mgn1422_333 : Nat × aw_S := (46, [(0, .inl 81), (1, .inr (false, [(0, 3)])), (2, .inr (false, [(1, 1)]))], [], mgh19945)
def mgx19946 : aw_A := ms_o [(0, 8)] [(0, 4)] ar_t32 ar_t32 [(0, 180)] [(39, 39)] [(8, 60)] [(1, 8)] [(1, 1)]
def mgh19947 : aw_H := [(81, mgx19946), (89, mgx497), (90, .inr (.inl (0, 240, [], []))), (92, .inr (.inl (0, 8, [], []))), (93, .inr (.inl (0, 8, [], []))), (94, mgx5052)]
def mgn1422_334 : Nat × aw_S := (46, [(0, .inl 81), (1, .inr (false, [(0, 3)])), (2, .inr (false, [(1, 1)]))], [], mgh19947)
def mgx19948 : aw_A := ms_o [(0, 8)] [(0, 4)] ar_t32 ar_t32 [(0, 180)] [(42, 42)] [(11, 60)] [(1, 8)] [(2, 2)]
def mgh19949 : aw_H := [(81, mgx19948), (89, mgx497), (90, .inr (.inl (0, 240, [], []))), (92, .inr (.inl (0, 8, [], []))), (93, .inr (.inl (0, 8, [], []))), (94, mgx5820)]
def mgn1422_335 : Nat × aw_S := (46, [(0, .inl 81), (1, .inr (false, [(0, 3)])), (2, .inr (false, [(1, 1)]))], [], mgh19949)
def mgx19950 : aw_A := ms_o [(0, 8)] [(0, 4)] ar_t32 ar_t32 [(0, 180)] [(45, 45)] [(14, 60)] [(1, 8)] [(3, 3)]
def mgh19951 : aw_H := [(81, mgx19950), (89, mgx497), (90, .inr (.inl (0, 240, [], []))), (92, .inr (.inl (0, 8, [], []))), (93, .inr (.inl (0, 8, [], []))), (94, mgx6868)]
def mgn1422_336 : Nat × aw_S := (46, [(0, .inl 81), (1, .inr (false, [(0, 3)])), (2, .inr (false, [(1, 1)]))], [], mgh19951)
def mgx19952 : aw_A := ms_o [(0, 8)] [(0, 4)] ar_t32 ar_t32 [(0, 180)] [(48, 48)] [(17, 60)] [(1, 8)] [(4, 4)]
def mgh19953 : aw_H := [(81, mgx19952), (89, mgx497), (90, .inr (.inl (0, 240, [], []))), (92, .inr (.inl (0, 8, [], []))), (93, .inr (.inl (0, 8, [], []))), (94, mgx8150)]
def mgn1422_337 : Nat × aw_S := (46, [(0, .inl 81), (1, .inr (false, [(0, 3)])), (2, .inr (false, [(1, 1)]))], [], mgh19953)
def mgh19954 : aw_H := [(81, mgx18629), (89, mgx497), (90, .inr (.inl (0, 240, [], []))), (92, .inr (.inl (0, 8, [], []))), (93, .inr (.inl (0, 8, [], []))), (94, mgx8150)]
def mgn1422_338 : Nat × aw_S := (46, [(0, .inl 81), (1, .inr (false, [(0, 3)])), (2, .inr (false, [(0, 0)]))], [], mgh19954)
def mgh19955 : aw_H := [(81, mgx17602), (89, mgx497), (90, .inr (.inl (0, 240, [], []))), (92, .inr (.inl (0, 8, [], []))), (93, .inr (.inl (0, 8, [], []))), (94, mgx6868)]
def mgn1422_339 : Nat × aw_S := (46, [(0, .inl 81), (1, .inr (false, [(0, 3)])), (2, .inr (false, [(0, 0)]))], [], mgh19955)
def mgh19956 : aw_H := [(81, mgx16924), (89, mgx497), (90, .inr (.inl (0, 240, [], []))), (92, .inr (.inl (0, 8, [], []))), (93, .inr (.inl (0, 8, [], []))), (94, mgx5820)]
def mgn1422_340 : Nat × aw_S := (46, [(0, .inl 81), (1, .inr (false, [(0, 3)])), (2, .inr (false, [(0, 0)]))], [], mgh19956)
def mgh19957 : aw_H := [(81, mgx16135), (89, mgx497), (90, .inr (.inl (0, 240, [], []))), (92, .inr (.inl (0, 8, [], []))), (93, .inr (.inl (0, 8, [], []))), (94, mgx5052)]
def mgn1422_341 : Nat × aw_S := (46, [(0, .inl 81), (1, .inr (false, [(0, 3)])), (2, .inr (false, [(0, 0)]))], [], mgh19957)
def mgx19958 : aw_A := ms_o [(0, 8)] [(0, 4)] ar_t32 ar_t32 [(0, 180)] [(43, 43)] [(11, 60)] [(1, 8)] [(2, 2)]
def mgh19959 : aw_H := [(81, mgx19958), (89, mgx497), (90, .inr (.inl (0, 240, [], []))), (92, .inr (.inl (0, 8, [], []))), (93, .inr (.inl (0, 8, [], []))), (94, mgx5820)]
def mgn1422_342 : Nat × aw_S := (46, [(0, .inl 81), (1, .inr (false, [(0, 3)])), (2, .inr (false, [(1, 1)]))], [], mgh19959)
def mgh19960 : aw_H := [(81, mgx17146), (89, mgx497), (90, .inr (.inl (0, 240, [], []))), (92, .inr (.inl (0, 8, [], []))), (93, .inr (.inl (0, 8, [], []))), (94, mgx5820)]
def mgn1422_343 : Nat × aw_S := (46, [(0, .inl 81), (1, .inr (false, [(0, 3)])), (2, .inr (false, [(0, 0)]))], [], mgh19960)
def mgx19961 : aw_A := ms_o [(0, 8)] [(0, 4)] ar_t32 ar_t32 [(0, 180)] [(46, 46)] [(14, 60)] [(1, 8)] [(3, 3)]
def mgh19962 : aw_H := [(81, mgx19961), (89, mgx497), (90, .inr (.inl (0, 240, [], []))), (92, .inr (.inl (0, 8, [], []))), (93, .inr (.inl (0, 8, [], []))), (94, mgx6868)]
def mgn1422_344 : Nat × aw_S := (46, [(0, .inl 81), (1, .inr (false, [(0, 3)])), (2, .inr (false, [(1, 1)]))], [], mgh19962)
def mgx19963 : aw_A := ms_o [(0, 8)] [(0, 4)] ar_t32 ar_t32 [(0, 180)] [(49, 49)] [(17, 60)] [(1, 8)] [(4, 4)]
def mgh19964 : aw_H := [(81, mgx19963), (89, mgx497), (90, .inr (.inl (0, 240, [], []))), (92, .inr (.inl (0, 8, [], []))), (93, .inr (.inl (0, 8, [], []))), (94, mgx8150)]
def mgn1422_345 : Nat × aw_S := (46, [(0, .inl 81), (1, .inr (false, [(0, 3)])), (2, .inr (false, [(1, 1)]))], [], mgh19964)
def mgh19965 : aw_H := [(81, mgx18753), (89, mgx497), (90, .inr (.inl (0, 240, [], []))), (92, .inr (.inl (0, 8, [], []))), (93, .inr (.inl (0, 8, [], []))), (94, mgx8150)]
def mgn1422_346 : Nat × aw_S := (46, [(0, .inl 81), (1, .inr (false, [(0, 3)])), (2, .inr (false, [(0, 0)]))], [], mgh19965)
def mgh19966 : aw_H := [(81, mgx17790), (89, mgx497), (90, .inr (.inl (0, 240, [], []))), (92, .inr (.inl (0, 8, [], []))), (93, .inr (.inl (0, 8, [], []))), (94, mgx6868)]
def mgn1422_347 : Nat × aw_S := (46, [(0, .inl 81), (1, .inr (false, [(0, 3)])), (2, .inr (false, [(0, 0)]))], [], mgh19966)
def mgh19967 : aw_H := [(81, mgx16643), (89, mgx497), (90, .inr (.inl (0, 240, [], []))), (92, .inr (.inl (0, 8, [], []))), (93, .inr (.inl (0, 8, [], []))), (94, mgx5052)]
def mgn1422_348 : Nat × aw_S := (46, [(0, .inl 81), (1, .inr (false, [(0, 3)])), (2, .inr (false, [(0, 0)]))], [], mgh19967)
def mgx19968 : aw_A := ms_o [(0, 8)] [(0, 4)] ar_t32 ar_t32 [(0, 180)] [(44, 44)] [(11, 60)] [(1, 8)] [(2, 2)]
def mgh19969 : aw_H := [(81, mgx19968), (89, mgx497), (90, .inr (.inl (0, 240, [], []))), (92, .inr (.inl (0, 8, [], []))), (93, .inr (.inl (0, 8, [], []))), (94, mgx5820)]
def mgn1422_349 : Nat × aw_S := (46, [(0, .inl 81), (1, .inr (false, [(0, 3)])), (2, .inr (false, [(1, 1)]))], [], mgh19969)
def mgh19970 : aw_H := [(81, mgx17360), (89, mgx497), (90, .inr (.inl (0, 240, [], []))), (92, .inr (.inl (0, 8, [], []))), (93, .inr (.inl (0, 8, [], []))), (94, mgx5820)]
def mgn1422_350 : Nat × aw_S := (46, [(0, .inl 81), (1, .inr (false, [(0, 3)])), (2, .inr (false, [(0, 0)]))], [], mgh19970)
def mgx19971 : aw_A := ms_o [(0, 8)] [(0, 4)] ar_t32 ar_t32 [(0, 180)] [(47, 47)] [(14, 60)] [(1, 8)] [(3, 3)]
def mgh19972 : aw_H := [(81, mgx19971), (89, mgx497), (90, .inr (.inl (0, 240, [], []))), (92, .inr (.inl (0, 8, [], []))), (93, .inr (.inl (0, 8, [], []))), (94, mgx6868)]
def mgn1422_351 : Nat × aw_S := (46, [(0, .inl 81), (1, .inr (false, [(0, 3)])), (2, .inr (false, [(1, 1)]))], [], mgh19972)
def mgx19973 : aw_A := ms_o [(0, 8)] [(0, 4)] ar_t32 ar_t32 [(0, 180)] [(50, 50)] [(17, 60)] [(1, 8)] [(4, 4)]
def mgh19974 : aw_H := [(81, mgx19973), (89, mgx497), (90, .inr (.inl (0, 240, [], []))), (92, .inr (.inl (0, 8, [], []))), (93, .inr (.inl (0, 8, [], []))), (94, mgx8150)]
def mgn1422_352 : Nat × aw_S := (46, [(0, .inl 81), (1, .inr (false, [(0, 3)])), (2, .inr (false, [(1, 1)]))], [], mgh19974)
def mgh19975 : aw_H := [(81, mgx18867), (89, mgx497), (90, .inr (.inl (0, 240, [], []))), (92, .inr (.inl (0, 8, [], []))), (93, .inr (.inl (0, 8, [], []))), (94, mgx8150)]
def mgn1422_353 : Nat × aw_S := (46, [(0, .inl 81), (1, .inr (false, [(0, 3)])), (2, .inr (false, [(0, 0)]))], [], mgh19975)
def mgh19976 : aw_H := [(81, mgx17968), (89, mgx497), (90, .inr (.inl (0, 240, [], []))), (92, .inr (.inl (0, 8, [], []))), (93, .inr (.inl (0, 8, [], []))), (94, mgx6868)]
def mgn1422_354 : Nat × aw_S := (46, [(0, .inl 81), (1, .inr (false, [(0, 3)])), (2, .inr (false, [(0, 0)]))], [], mgh19976)
def mgh19977 : aw_H := [(81, mgx16393), (89, mgx497), (90, .inr (.inl (0, 240, [], []))), (92, .inr (.inl (0, 8, [], []))), (93, .inr (.inl (0, 8, [], []))), (94, mgx5052)]
def mgn1422_355 : Nat × aw_S := (46, [(0, .inl 81), (1, .inr (false, [(0, 3)])), (2, .inr (false, [(0, 0)]))], [], mgh19977)
def mgx19978 : aw_A := ms_o [(0, 8)] [(0, 4)] ar_t32 ar_t32 [(0, 180)] [(41, 41)] [(1, 60)] [(0, 8)] [(0, 0)]
def mgh19979 : aw_H := [(81, mgx19978), (89, mgx497), (90, .inr (.inl (0, 240, [], []))), (92, .inr (.inl (0, 8, [], []))), (93, .inr (.inl (0, 8, [], []))), (94, mgx5049)]
def mgn1422_356 : Nat × aw_S := (46, [(0, .inl 81), (1, .inr (false, [(0, 3)])), (2, .inr (false, [(1, 1)]))], [], mgh19979)
def mgx19980 : aw_A := ms_o [(0, 8)] [(0, 4)] ar_t32 ar_t32 [(0, 180)] [(41, 41)] [(-1, 60)] [(0, 8)] [(0, 0)]
def mgh19981 : aw_H := [(81, mgx19980), (89, mgx497), (90, .inr (.inl (0, 240, [], []))), (92, .inr (.inl (0, 8, [], []))), (93, .inr (.inl (0, 8, [], []))), (94, mgx5049)]
def mgn1422_357 : Nat × aw_S := (46, [(0, .inl 81), (1, .inr (false, [(0, 3)])), (2, .inr (false, [(0, 0)]))], [], mgh19981)
def mgx19982 : aw_A := ms_o [(0, 8)] [(0, 4)] ar_t32 ar_t32 [(0, 180)] [(45, 45)] [(1, 60)] [(0, 8)] [(0, 0)]
def mgh19983 : aw_H := [(81, mgx19982), (89, mgx497), (90, .inr (.inl (0, 240, [], []))), (92, .inr (.inl (0, 8, [], []))), (93, .inr (.inl (0, 8, [], []))), (94, mgx5049)]
def mgn1422_358 : Nat × aw_S := (46, [(0, .inl 81), (1, .inr (false, [(0, 3)])), (2, .inr (false, [(1, 1)]))], [], mgh19983)
def mgx19984 : aw_A := ms_o [(0, 8)] [(0, 4)] ar_t32 ar_t32 [(0, 180)] [(44, 44)] [(8, 60)] [(1, 8)] [(1, 1)]
def mgh19985 : aw_H := [(81, mgx19984), (89, mgx497), (90, .inr (.inl (0, 240, [], []))), (92, .inr (.inl (0, 8, [], []))), (93, .inr (.inl (0, 8, [], []))), (94, mgx5052)]
def mgn1422_359 : Nat × aw_S := (46, [(0, .inl 81), (1, .inr (false, [(0, 3)])), (2, .inr (false, [(1, 1)]))], [], mgh19985)
def mgx19986 : aw_A := ms_o [(0, 8)] [(0, 4)] ar_t32 ar_t32 [(0, 180)] [(37, 37)] [(-1, 60)] [(0, 8)] [(0, 0)]
def mgh19987 : aw_H := [(81, mgx19986), (89, mgx497), (90, .inr (.inl (0, 240, [], []))), (92, .inr (.inl (0, 8, [], []))), (93, .inr (.inl (0, 8, [], []))), (94, mgx5049)]
def mgn1422_360 : Nat × aw_S := (46, [(0, .inl 81), (1, .inr (false, [(0, 3)])), (2, .inr (false, [(0, 0)]))], [], mgh19987)
def mgx19988 : aw_A := ms_o [(0, 8)] [(0, 4)] ar_t32 ar_t32 [(0, 180)] [(42, 42)] [(8, 60)] [(1, 8)] [(1, 1)]
def mgh19989 : aw_H := [(81, mgx19988), (89, mgx497), (90, .inr (.inl (0, 240, [], []))), (92, .inr (.inl (0, 8, [], []))), (93, .inr (.inl (0, 8, [], []))), (94, mgx5052)]
def mgn1422_361 : Nat × aw_S := (46, [(0, .inl 81), (1, .inr (false, [(0, 3)])), (2, .inr (false, [(1, 1)]))], [], mgh19989)
def mgh19990 : aw_H := [(81, mgx16879), (89, mgx497), (90, .inr (.inl (0, 240, [], []))), (92, .inr (.inl (0, 8, [], []))), (93, .inr (.inl (0, 8, [], []))), (94, mgx5052)]
def mgn1422_362 : Nat × aw_S := (46, [(0, .inl 81), (1, .inr (false, [(0, 3)])), (2, .inr (false, [(0, 0)]))], [], mgh19990)
def mgh19991 : aw_H := [(81, mgx17319), (89, mgx497), (90, .inr (.inl (0, 240, [], []))), (92, .inr (.inl (0, 8, [], []))), (93, .inr (.inl (0, 8, [], []))), (94, mgx5052)]
def mgn1422_363 : Nat × aw_S := (46, [(0, .inl 81), (1, .inr (false, [(0, 3)])), (2, .inr (false, [(0, 0)]))], [], mgh19991)
def mgh19992 : aw_H := [(81, mgx17103), (89, mgx497), (90, .inr (.inl (0, 240, [], []))), (92, .inr (.inl (0, 8, [], []))), (93, .inr (.inl (0, 8, [], []))), (94, mgx5052)]
def mgn1422_364 : Nat × aw_S := (46, [(0, .inl 81), (1, .inr (false, [(0, 3)])), (2, .inr (false, [(0, 0)]))], [], mgh19992)
def mgx19993 : aw_A := ms_o [(0, 8)] [(0, 4)] ar_t32 ar_t32 [(0, 180)] [(46, 46)] [(11, 60)] [(1, 8)] [(2, 2)]
def mgh19994 : aw_H := [(81, mgx19993), (89, mgx497), (90, .inr (.inl (0, 240, [], []))), (92, .inr (.inl (0, 8, [], []))), (93, .inr (.inl (0, 8, [], []))), (94, mgx5820)]
def mgn1422_365 : Nat × aw_S := (46, [(0, .inl 81), (1, .inr (false, [(0, 3)])), (2, .inr (false, [(1, 1)]))], [], mgh19994)
def mgx19995 : aw_A := ms_o [(0, 8)] [(0, 4)] ar_t32 ar_t32 [(0, 180)] [(45, 45)] [(11, 60)] [(1, 8)] [(2, 2)]
def mgh19996 : aw_H := [(81, mgx19995), (89, mgx497), (90, .inr (.inl (0, 240, [], []))), (92, .inr (.inl (0, 8, [], []))), (93, .inr (.inl (0, 8, [], []))), (94, mgx5820)]
def mgn1422_366 : Nat × aw_S := (46, [(0, .inl 81), (1, .inr (false, [(0, 3)])), (2, .inr (false, [(1, 1)]))], [], mgh19996)
def mgh19997 : aw_H := [(81, mgx17564), (89, mgx497), (90, .inr (.inl (0, 240, [], []))), (92, .inr (.inl (0, 8, [], []))), (93, .inr (.inl (0, 8, [], []))), (94, mgx5820)]
def mgn1422_367 : Nat × aw_S := (46, [(0, .inl 81), (1, .inr (false, [(0, 3)])), (2, .inr (false, [(0, 0)]))], [], mgh19997)
def mgh19998 : aw_H := [(81, mgx17754), (89, mgx497), (90, .inr (.inl (0, 240, [], []))), (92, .inr (.inl (0, 8, [], []))), (93, .inr (.inl (0, 8, [], []))), (94, mgx5820)]
def mgn1422_368 : Nat × aw_S := (46, [(0, .inl 81), (1, .inr (false, [(0, 3)])), (2, .inr (false, [(0, 0)]))], [], mgh19998)
def mgx19999 : aw_A := ms_o [(0, 8)] [(0, 4)] ar_t32 ar_t32 [(0, 180)] [(49, 49)] [(14, 60)] [(1, 8)] [(3, 3)]
def mgh20000 : aw_H := [(81, mgx19999), (89, mgx497), (90, .inr (.inl (0, 240, [], []))), (92, .inr (.inl (0, 8, [], []))), (93, .inr (.inl (0, 8, [], []))), (94, mgx6868)]
def mgn1422_369 : Nat × aw_S := (46, [(0, .inl 81), (1, .inr (false, [(0, 3)])), (2, .inr (false, [(1, 1)]))], [], mgh20000)
def mgx20001 : aw_A := ms_o [(0, 8)] [(0, 4)] ar_t32 ar_t32 [(0, 180)] [(48, 48)] [(14, 60)] [(1, 8)] [(3, 3)]
def mgh20002 : aw_H := [(81, mgx20001), (89, mgx497), (90, .inr (.inl (0, 240, [], []))), (92, .inr (.inl (0, 8, [], []))), (93, .inr (.inl (0, 8, [], []))), (94, mgx6868)]
def mgn1422_370 : Nat × aw_S := (46, [(0, .inl 81), (1, .inr (false, [(0, 3)])), (2, .inr (false, [(1, 1)]))], [], mgh20002)
def mgx20003 : aw_A := ms_o [(0, 8)] [(0, 4)] ar_t32 ar_t32 [(0, 180)] [(51, 51)] [(17, 60)] [(1, 8)] [(4, 4)]
def mgh20004 : aw_H := [(81, mgx20003), (89, mgx497), (90, .inr (.inl (0, 240, [], []))), (92, .inr (.inl (0, 8, [], []))), (93, .inr (.inl (0, 8, [], []))), (94, mgx8150)]
def mgn1422_371 : Nat × aw_S := (46, [(0, .inl 81), (1, .inr (false, [(0, 3)])), (2, .inr (false, [(1, 1)]))], [], mgh20004)
def mgh20005 : aw_H := [(81, mgx18971), (89, mgx497), (90, .inr (.inl (0, 240, [], []))), (92, .inr (.inl (0, 8, [], []))), (93, .inr (.inl (0, 8, [], []))), (94, mgx8150)]
def mgn1422_372 : Nat × aw_S := (46, [(0, .inl 81), (1, .inr (false, [(0, 3)])), (2, .inr (false, [(0, 0)]))], [], mgh20005)
def mgh20006 : aw_H := [(81, mgx18294), (89, mgx497), (90, .inr (.inl (0, 240, [], []))), (92, .inr (.inl (0, 8, [], []))), (93, .inr (.inl (0, 8, [], []))), (94, mgx6868)]
def mgn1422_373 : Nat × aw_S := (46, [(0, .inl 81), (1, .inr (false, [(0, 3)])), (2, .inr (false, [(0, 0)]))], [], mgh20006)
def mgx20007 : aw_A := ms_o [(0, 8)] [(0, 4)] ar_t32 ar_t32 [(0, 180)] [(52, 52)] [(17, 60)] [(1, 8)] [(4, 4)]
def mgh20008 : aw_H := [(81, mgx20007), (89, mgx497), (90, .inr (.inl (0, 240, [], []))), (92, .inr (.inl (0, 8, [], []))), (93, .inr (.inl (0, 8, [], []))), (94, mgx8150)]
def mgn1422_374 : Nat × aw_S := (46, [(0, .inl 81), (1, .inr (false, [(0, 3)])), (2, .inr (false, [(1, 1)]))], [], mgh20008)
def mgh20009 : aw_H := [(81, mgx19065), (89, mgx497), (90, .inr (.inl (0, 240, [], []))), (92, .inr (.inl (0, 8, [], []))), (93, .inr (.inl (0, 8, [], []))), (94, mgx8150)]
def mgn1422_375 : Nat × aw_S := (46, [(0, .inl 81), (1, .inr (false, [(0, 3)])), (2, .inr (false, [(0, 0)]))], [], mgh20009)
def mgh20010 : aw_H := [(81, mgx18136), (89, mgx497), (90, .inr (.inl (0, 240, [], []))), (92, .inr (.inl (0, 8, [], []))), (93, .inr (.inl (0, 8, [], []))), (94, mgx6868)]
def mgn1422_376 : Nat × aw_S := (46, [(0, .inl 81), (1, .inr (false, [(0, 3)])), (2, .inr (false, [(0, 0)]))], [], mgh20010)
def mgx20011 : aw_A := ms_o [(0, 8)] [(0, 4)] ar_t32 ar_t32 [(0, 180)] [(47, 47)] [(11, 60)] [(1, 8)] [(2, 2)]
def mgh20012 : aw_H := [(81, mgx20011), (89, mgx497), (90, .inr (.inl (0, 240, [], []))), (92, .inr (.inl (0, 8, [], []))), (93, .inr (.inl (0, 8, [], []))), (94, mgx5820)]
def mgn1422_377 : Nat × aw_S := (46, [(0, .inl 81), (1, .inr (false, [(0, 3)])), (2, .inr (false, [(1, 1)]))], [], mgh20012)
def mgx20013 : aw_A := ms_o [(0, 8)] [(0, 4)] ar_t32 ar_t32 [(0, 180)] [(50, 50)] [(14, 60)] [(1, 8)] [(3, 3)]
def mgh20014 : aw_H := [(81, mgx20013), (89, mgx497), (90, .inr (.inl (0, 240, [], []))), (92, .inr (.inl (0, 8, [], []))), (93, .inr (.inl (0, 8, [], []))), (94, mgx6868)]
def mgn1422_378 : Nat × aw_S := (46, [(0, .inl 81), (1, .inr (false, [(0, 3)])), (2, .inr (false, [(1, 1)]))], [], mgh20014)
def mgx20015 : aw_A := ms_o [(0, 8)] [(0, 4)] ar_t32 ar_t32 [(0, 180)] [(53, 53)] [(17, 60)] [(1, 8)] [(4, 4)]
def mgh20016 : aw_H := [(81, mgx20015), (89, mgx497), (90, .inr (.inl (0, 240, [], []))), (92, .inr (.inl (0, 8, [], []))), (93, .inr (.inl (0, 8, [], []))), (94, mgx8150)]
def mgn1422_379 : Nat × aw_S := (46, [(0, .inl 81), (1, .inr (false, [(0, 3)])), (2, .inr (false, [(1, 1)]))], [], mgh20016)
def mgh20017 : aw_H := [(81, mgx19149), (89, mgx497), (90, .inr (.inl (0, 240, [], []))), (92, .inr (.inl (0, 8, [], []))), (93, .inr (.inl (0, 8, [], []))), (94, mgx8150)]
def mgn1422_380 : Nat × aw_S := (46, [(0, .inl 81), (1, .inr (false, [(0, 3)])), (2, .inr (false, [(0, 0)]))], [], mgh20017)
def mgh20018 : aw_H := [(81, mgx18442), (89, mgx497), (90, .inr (.inl (0, 240, [], []))), (92, .inr (.inl (0, 8, [], []))), (93, .inr (.inl (0, 8, [], []))), (94, mgx6868)]
def mgn1422_381 : Nat × aw_S := (46, [(0, .inl 81), (1, .inr (false, [(0, 3)])), (2, .inr (false, [(0, 0)]))], [], mgh20018)
def mgh20019 : aw_H := [(81, mgx17934), (89, mgx497), (90, .inr (.inl (0, 240, [], []))), (92, .inr (.inl (0, 8, [], []))), (93, .inr (.inl (0, 8, [], []))), (94, mgx5820)]
def mgn1422_382 : Nat × aw_S := (46, [(0, .inl 81), (1, .inr (false, [(0, 3)])), (2, .inr (false, [(0, 0)]))], [], mgh20019)
def mgx20020 : aw_A := ms_o [(0, 8)] [(0, 4)] ar_t32 ar_t32 [(0, 180)] [(42, 42)] [(1, 60)] [(0, 8)] [(0, 0)]
def mgh20021 : aw_H := [(81, mgx20020), (89, mgx497), (90, .inr (.inl (0, 240, [], []))), (92, .inr (.inl (0, 8, [], []))), (93, .inr (.inl (0, 8, [], []))), (94, mgx5049)]
def mgn1422_383 : Nat × aw_S := (46, [(0, .inl 81), (1, .inr (false, [(0, 3)])), (2, .inr (false, [(1, 1)]))], [], mgh20021)
def mgx20022 : aw_A := ms_o [(0, 8)] [(0, 4)] ar_t32 ar_t32 [(0, 180)] [(46, 46)] [(8, 60)] [(1, 8)] [(1, 1)]
def mgh20023 : aw_H := [(81, mgx20022), (89, mgx497), (90, .inr (.inl (0, 240, [], []))), (92, .inr (.inl (0, 8, [], []))), (93, .inr (.inl (0, 8, [], []))), (94, mgx5052)]
def mgn1422_384 : Nat × aw_S := (46, [(0, .inl 81), (1, .inr (false, [(0, 3)])), (2, .inr (false, [(1, 1)]))], [], mgh20023)
def mgx20024 : aw_A := ms_o [(0, 8)] [(0, 4)] ar_t32 ar_t32 [(0, 180)] [(43, 43)] [(-1, 60)] [(0, 8)] [(0, 0)]
def mgh20025 : aw_H := [(81, mgx20024), (89, mgx497), (90, .inr (.inl (0, 240, [], []))), (92, .inr (.inl (0, 8, [], []))), (93, .inr (.inl (0, 8, [], []))), (94, mgx5049)]
def mgn1422_385 : Nat × aw_S := (46, [(0, .inl 81), (1, .inr (false, [(0, 3)])), (2, .inr (false, [(0, 0)]))], [], mgh20025)
def mgx20026 : aw_A := ms_o [(0, 8)] [(0, 4)] ar_t32 ar_t32 [(0, 180)] [(44, 44)] [(-1, 60)] [(0, 8)] [(0, 0)]
def mgh20027 : aw_H := [(81, mgx20026), (89, mgx497), (90, .inr (.inl (0, 240, [], []))), (92, .inr (.inl (0, 8, [], []))), (93, .inr (.inl (0, 8, [], []))), (94, mgx5049)]
def mgn1422_386 : Nat × aw_S := (46, [(0, .inl 81), (1, .inr (false, [(0, 3)])), (2, .inr (false, [(0, 0)]))], [], mgh20027)
def mgx20028 : aw_A := ms_o [(0, 8)] [(0, 4)] ar_t32 ar_t32 [(0, 180)] [(46, 46)] [(1, 60)] [(0, 8)] [(0, 0)]
def mgh20029 : aw_H := [(81, mgx20028), (89, mgx497), (90, .inr (.inl (0, 240, [], []))), (92, .inr (.inl (0, 8, [], []))), (93, .inr (.inl (0, 8, [], []))), (94, mgx5049)]
def mgn1422_387 : Nat × aw_S := (46, [(0, .inl 81), (1, .inr (false, [(0, 3)])), (2, .inr (false, [(1, 1)]))], [], mgh20029)
def mgx20030 : aw_A := ms_o [(0, 8)] [(0, 4)] ar_t32 ar_t32 [(0, 180)] [(46, 46)] [(-1, 60)] [(0, 8)] [(0, 0)]
def mgh20031 : aw_H := [(81, mgx20030), (89, mgx497), (90, .inr (.inl (0, 240, [], []))), (92, .inr (.inl (0, 8, [], []))), (93, .inr (.inl (0, 8, [], []))), (94, mgx5049)]
def mgn1422_388 : Nat × aw_S := (46, [(0, .inl 81), (1, .inr (false, [(0, 3)])), (2, .inr (false, [(0, 0)]))], [], mgh20031)
def mgx20032 : aw_A := ms_o [(0, 8)] [(0, 4)] ar_t32 ar_t32 [(0, 180)] [(47, 47)] [(1, 60)] [(0, 8)] [(0, 0)]
def mgh20033 : aw_H := [(81, mgx20032), (89, mgx497), (90, .inr (.inl (0, 240, [], []))), (92, .inr (.inl (0, 8, [], []))), (93, .inr (.inl (0, 8, [], []))), (94, mgx5049)]
def mgn1422_389 : Nat × aw_S := (46, [(0, .inl 81), (1, .inr (false, [(0, 3)])), (2, .inr (false, [(1, 1)]))], [], mgh20033)
def mgx20034 : aw_A := ms_o [(0, 8)] [(0, 4)] ar_t32 ar_t32 [(0, 180)] [(50, 50)] [(8, 60)] [(1, 8)] [(1, 1)]
def mgh20035 : aw_H := [(81, mgx20034), (89, mgx497), (90, .inr (.inl (0, 240, [], []))), (92, .inr (.inl (0, 8, [], []))), (93, .inr (.inl (0, 8, [], []))), (94, mgx5052)]
def mgn1422_390 : Nat × aw_S := (46, [(0, .inl 81), (1, .inr (false, [(0, 3)])), (2, .inr (false, [(1, 1)]))], [], mgh20035)
def mgx20036 : aw_A := ms_o [(0, 8)] [(0, 4)] ar_t32 ar_t32 [(0, 180)] [(47, 47)] [(-1, 60)] [(0, 8)] [(0, 0)]
def mgh20037 : aw_H := [(81, mgx20036), (89, mgx497), (90, .inr (.inl (0, 240, [], []))), (92, .inr (.inl (0, 8, [], []))), (93, .inr (.inl (0, 8, [], []))), (94, mgx5049)]
def mgn1422_391 : Nat × aw_S := (46, [(0, .inl 81), (1, .inr (false, [(0, 3)])), (2, .inr (false, [(0, 0)]))], [], mgh20037)
def mgx20038 : aw_A := ms_o [(0, 8)] [(0, 4)] ar_t32 ar_t32 [(0, 180)] [(49, 49)] [(8, 60)] [(1, 8)] [(1, 1)]
def mgh20039 : aw_H := [(81, mgx20038), (89, mgx497), (90, .inr (.inl (0, 240, [], []))), (92, .inr (.inl (0, 8, [], []))), (93, .inr (.inl (0, 8, [], []))), (94, mgx5052)]
def mgn1422_392 : Nat × aw_S := (46, [(0, .inl 81), (1, .inr (false, [(0, 3)])), (2, .inr (false, [(1, 1)]))], [], mgh20039)
def mgx20040 : aw_A := ms_o [(0, 8)] [(0, 4)] ar_t32 ar_t32 [(0, 180)] [(48, 48)] [(1, 60)] [(0, 8)] [(0, 0)]
def mgh20041 : aw_H := [(81, mgx20040), (89, mgx497), (90, .inr (.inl (0, 240, [], []))), (92, .inr (.inl (0, 8, [], []))), (93, .inr (.inl (0, 8, [], []))), (94, mgx5049)]
def mgn1422_393 : Nat × aw_S := (46, [(0, .inl 81), (1, .inr (false, [(0, 3)])), (2, .inr (false, [(1, 1)]))], [], mgh20041)
def mgx20042 : aw_A := ms_o [(0, 8)] [(0, 4)] ar_t32 ar_t32 [(0, 180)] [(51, 51)] [(8, 60)] [(1, 8)] [(1, 1)]
def mgh20043 : aw_H := [(81, mgx20042), (89, mgx497), (90, .inr (.inl (0, 240, [], []))), (92, .inr (.inl (0, 8, [], []))), (93, .inr (.inl (0, 8, [], []))), (94, mgx5052)]
def mgn1422_394 : Nat × aw_S := (46, [(0, .inl 81), (1, .inr (false, [(0, 3)])), (2, .inr (false, [(1, 1)]))], [], mgh20043)
def mgh20044 : aw_H := [(81, mgx18527), (89, mgx497), (90, .inr (.inl (0, 240, [], []))), (92, .inr (.inl (0, 8, [], []))), (93, .inr (.inl (0, 8, [], []))), (94, mgx5052)]
def mgn1422_395 : Nat × aw_S := (46, [(0, .inl 81), (1, .inr (false, [(0, 3)])), (2, .inr (false, [(0, 0)]))], [], mgh20044)
def mgx20045 : aw_A := ms_o [(0, 8)] [(0, 4)] ar_t32 ar_t32 [(0, 180)] [(48, 48)] [(-1, 60)] [(0, 8)] [(0, 0)]
def mgh20046 : aw_H := [(81, mgx20045), (89, mgx497), (90, .inr (.inl (0, 240, [], []))), (92, .inr (.inl (0, 8, [], []))), (93, .inr (.inl (0, 8, [], []))), (94, mgx5049)]
def mgn1422_396 : Nat × aw_S := (46, [(0, .inl 81), (1, .inr (false, [(0, 3)])), (2, .inr (false, [(0, 0)]))], [], mgh20046)
def mgx20047 : aw_A := ms_o [(0, 8)] [(0, 4)] ar_t32 ar_t32 [(0, 180)] [(48, 48)] [(8, 60)] [(1, 8)] [(1, 1)]
def mgh20048 : aw_H := [(81, mgx20047), (89, mgx497), (90, .inr (.inl (0, 240, [], []))), (92, .inr (.inl (0, 8, [], []))), (93, .inr (.inl (0, 8, [], []))), (94, mgx5052)]
def mgn1422_397 : Nat × aw_S := (46, [(0, .inl 81), (1, .inr (false, [(0, 3)])), (2, .inr (false, [(1, 1)]))], [], mgh20048)
def mgh20049 : aw_H := [(81, mgx18385), (89, mgx497), (90, .inr (.inl (0, 240, [], []))), (92, .inr (.inl (0, 8, [], []))), (93, .inr (.inl (0, 8, [], []))), (94, mgx5052)]
def mgn1422_398 : Nat × aw_S := (46, [(0, .inl 81), (1, .inr (false, [(0, 3)])), (2, .inr (false, [(0, 0)]))], [], mgh20049)
def mgx20050 : aw_A := ms_o [(0, 8)] [(0, 4)] ar_t32 ar_t32 [(0, 180)] [(45, 45)] [(8, 60)] [(1, 8)] [(1, 1)]
def mgh20051 : aw_H := [(81, mgx20050), (89, mgx497), (90, .inr (.inl (0, 240, [], []))), (92, .inr (.inl (0, 8, [], []))), (93, .inr (.inl (0, 8, [], []))), (94, mgx5052)]
def mgn1422_399 : Nat × aw_S := (46, [(0, .inl 81), (1, .inr (false, [(0, 3)])), (2, .inr (false, [(1, 1)]))], [], mgh20051)
def mgh20052 : aw_H := [(81, mgx17525), (89, mgx497), (90, .inr (.inl (0, 240, [], []))), (92, .inr (.inl (0, 8, [], []))), (93, .inr (.inl (0, 8, [], []))), (94, mgx5052)]
def mgn1422_400 : Nat × aw_S := (46, [(0, .inl 81), (1, .inr (false, [(0, 3)])), (2, .inr (false, [(0, 0)]))], [], mgh20052)
def mgx20053 : aw_A := ms_o [(0, 8)] [(0, 4)] ar_t32 ar_t32 [(0, 180)] [(49, 49)] [(11, 60)] [(1, 8)] [(2, 2)]
def mgh20054 : aw_H := [(81, mgx20053), (89, mgx497), (90, .inr (.inl (0, 240, [], []))), (92, .inr (.inl (0, 8, [], []))), (93, .inr (.inl (0, 8, [], []))), (94, mgx5820)]
def mgn1422_401 : Nat × aw_S := (46, [(0, .inl 81), (1, .inr (false, [(0, 3)])), (2, .inr (false, [(1, 1)]))], [], mgh20054)
def mgh20055 : aw_H := [(81, mgx17717), (89, mgx497), (90, .inr (.inl (0, 240, [], []))), (92, .inr (.inl (0, 8, [], []))), (93, .inr (.inl (0, 8, [], []))), (94, mgx5052)]
def mgn1422_402 : Nat × aw_S := (46, [(0, .inl 81), (1, .inr (false, [(0, 3)])), (2, .inr (false, [(0, 0)]))], [], mgh20055)
def mgx20056 : aw_A := ms_o [(0, 8)] [(0, 4)] ar_t32 ar_t32 [(0, 180)] [(48, 48)] [(11, 60)] [(1, 8)] [(2, 2)]
def mgh20057 : aw_H := [(81, mgx20056), (89, mgx497), (90, .inr (.inl (0, 240, [], []))), (92, .inr (.inl (0, 8, [], []))), (93, .inr (.inl (0, 8, [], []))), (94, mgx5820)]
def mgn1422_403 : Nat × aw_S := (46, [(0, .inl 81), (1, .inr (false, [(0, 3)])), (2, .inr (false, [(1, 1)]))], [], mgh20057)
def mgh20058 : aw_H := [(81, mgx18264), (89, mgx497), (90, .inr (.inl (0, 240, [], []))), (92, .inr (.inl (0, 8, [], []))), (93, .inr (.inl (0, 8, [], []))), (94, mgx5820)]
def mgn1422_404 : Nat × aw_S := (46, [(0, .inl 81), (1, .inr (false, [(0, 3)])), (2, .inr (false, [(0, 0)]))], [], mgh20058)
def mgx20059 : aw_A := ms_o [(0, 8)] [(0, 4)] ar_t32 ar_t32 [(0, 180)] [(52, 52)] [(14, 60)] [(1, 8)] [(3, 3)]
def mgh20060 : aw_H := [(81, mgx20059), (89, mgx497), (90, .inr (.inl (0, 240, [], []))), (92, .inr (.inl (0, 8, [], []))), (93, .inr (.inl (0, 8, [], []))), (94, mgx6868)]
def mgn1422_405 : Nat × aw_S := (46, [(0, .inl 81), (1, .inr (false, [(0, 3)])), (2, .inr (false, [(1, 1)]))], [], mgh20060)
def mgx20061 : aw_A := ms_o [(0, 8)] [(0, 4)] ar_t32 ar_t32 [(0, 180)] [(51, 51)] [(14, 60)] [(1, 8)] [(3, 3)]
def mgh20062 : aw_H := [(81, mgx20061), (89, mgx497), (90, .inr (.inl (0, 240, [], []))), (92, .inr (.inl (0, 8, [], []))), (93, .inr (.inl (0, 8, [], []))), (94, mgx6868)]
def mgn1422_406 : Nat × aw_S := (46, [(0, .inl 81), (1, .inr (false, [(0, 3)])), (2, .inr (false, [(1, 1)]))], [], mgh20062)
def mgh20063 : aw_H := [(81, mgx18580), (89, mgx497), (90, .inr (.inl (0, 240, [], []))), (92, .inr (.inl (0, 8, [], []))), (93, .inr (.inl (0, 8, [], []))), (94, mgx6868)]
def mgn1422_407 : Nat × aw_S := (46, [(0, .inl 81), (1, .inr (false, [(0, 3)])), (2, .inr (false, [(0, 0)]))], [], mgh20063)
def mgx20064 : aw_A := ms_o [(0, 8)] [(0, 4)] ar_t32 ar_t32 [(0, 180)] [(55, 55)] [(17, 60)] [(1, 8)] [(4, 4)]
def mgh20065 : aw_H := [(81, mgx20064), (89, mgx497), (90, .inr (.inl (0, 240, [], []))), (92, .inr (.inl (0, 8, [], []))), (93, .inr (.inl (0, 8, [], []))), (94, mgx8150)]
def mgn1422_408 : Nat × aw_S := (46, [(0, .inl 81), (1, .inr (false, [(0, 3)])), (2, .inr (false, [(1, 1)]))], [], mgh20065)
def mgh20066 : aw_H := [(81, mgx19287), (89, mgx497), (90, .inr (.inl (0, 240, [], []))), (92, .inr (.inl (0, 8, [], []))), (93, .inr (.inl (0, 8, [], []))), (94, mgx8150)]
def mgn1422_409 : Nat × aw_S := (46, [(0, .inl 81), (1, .inr (false, [(0, 3)])), (2, .inr (false, [(0, 0)]))], [], mgh20066)
def mgh20067 : aw_H := [(81, mgx18708), (89, mgx497), (90, .inr (.inl (0, 240, [], []))), (92, .inr (.inl (0, 8, [], []))), (93, .inr (.inl (0, 8, [], []))), (94, mgx6868)]
def mgn1422_410 : Nat × aw_S := (46, [(0, .inl 81), (1, .inr (false, [(0, 3)])), (2, .inr (false, [(0, 0)]))], [], mgh20067)
def mgx20068 : aw_A := ms_o [(0, 8)] [(0, 4)] ar_t32 ar_t32 [(0, 180)] [(54, 54)] [(17, 60)] [(1, 8)] [(4, 4)]
def mgh20069 : aw_H := [(81, mgx20068), (89, mgx497), (90, .inr (.inl (0, 240, [], []))), (92, .inr (.inl (0, 8, [], []))), (93, .inr (.inl (0, 8, [], []))), (94, mgx8150)]
def mgn1422_411 : Nat × aw_S := (46, [(0, .inl 81), (1, .inr (false, [(0, 3)])), (2, .inr (false, [(1, 1)]))], [], mgh20069)
def mgh20070 : aw_H := [(81, mgx19223), (89, mgx497), (90, .inr (.inl (0, 240, [], []))), (92, .inr (.inl (0, 8, [], []))), (93, .inr (.inl (0, 8, [], []))), (94, mgx8150)]
def mgn1422_412 : Nat × aw_S := (46, [(0, .inl 81), (1, .inr (false, [(0, 3)])), (2, .inr (false, [(0, 0)]))], [], mgh20070)
def mgh20071 : aw_H := [(81, mgx18104), (89, mgx497), (90, .inr (.inl (0, 240, [], []))), (92, .inr (.inl (0, 8, [], []))), (93, .inr (.inl (0, 8, [], []))), (94, mgx5820)]
def mgn1422_413 : Nat × aw_S := (46, [(0, .inl 81), (1, .inr (false, [(0, 3)])), (2, .inr (false, [(0, 0)]))], [], mgh20071)
def mgx20072 : aw_A := ms_o [(0, 8)] [(0, 4)] ar_t32 ar_t32 [(0, 180)] [(50, 50)] [(1, 60)] [(0, 8)] [(0, 0)]
def mgh20073 : aw_H := [(81, mgx20072), (89, mgx497), (90, .inr (.inl (0, 240, [], []))), (92, .inr (.inl (0, 8, [], []))), (93, .inr (.inl (0, 8, [], []))), (94, mgx5049)]
def mgn1422_414 : Nat × aw_S := (46, [(0, .inl 81), (1, .inr (false, [(0, 3)])), (2, .inr (false, [(1, 1)]))], [], mgh20073)
def mgx20074 : aw_A := ms_o [(0, 8)] [(0, 4)] ar_t32 ar_t32 [(0, 180)] [(42, 42)] [(-1, 60)] [(0, 8)] [(0, 0)]
def mgh20075 : aw_H := [(81, mgx20074), (89, mgx497), (90, .inr (.inl (0, 240, [], []))), (92, .inr (.inl (0, 8, [], []))), (93, .inr (.inl (0, 8, [], []))), (94, mgx5049)]
def mgn1422_415 : Nat × aw_S := (46, [(0, .inl 81), (1, .inr (false, [(0, 3)])), (2, .inr (false, [(0, 0)]))], [], mgh20075)
def mgx20076 : aw_A := ms_o [(0, 8)] [(0, 4)] ar_t32 ar_t32 [(0, 180)] [(52, 52)] [(1, 60)] [(0, 8)] [(0, 0)]
def mgh20077 : aw_H := [(81, mgx20076), (89, mgx497), (90, .inr (.inl (0, 240, [], []))), (92, .inr (.inl (0, 8, [], []))), (93, .inr (.inl (0, 8, [], []))), (94, mgx5049)]
def mgn1422_416 : Nat × aw_S := (46, [(0, .inl 81), (1, .inr (false, [(0, 3)])), (2, .inr (false, [(1, 1)]))], [], mgh20077)
def mgx20078 : aw_A := ms_o [(0, 8)] [(0, 4)] ar_t32 ar_t32 [(0, 180)] [(45, 45)] [(-1, 60)] [(0, 8)] [(0, 0)]
def mgh20079 : aw_H := [(81, mgx20078), (89, mgx497), (90, .inr (.inl (0, 240, [], []))), (92, .inr (.inl (0, 8, [], []))), (93, .inr (.inl (0, 8, [], []))), (94, mgx5049)]
def mgn1422_417 : Nat × aw_S := (46, [(0, .inl 81), (1, .inr (false, [(0, 3)])), (2, .inr (false, [(0, 0)]))], [], mgh20079)
def mgx20080 : aw_A := ms_o [(0, 8)] [(0, 4)] ar_t32 ar_t32 [(0, 180)] [(49, 49)] [(1, 60)] [(0, 8)] [(0, 0)]
def mgh20081 : aw_H := [(81, mgx20080), (89, mgx497), (90, .inr (.inl (0, 240, [], []))), (92, .inr (.inl (0, 8, [], []))), (93, .inr (.inl (0, 8, [], []))), (94, mgx5049)]
def mgn1422_418 : Nat × aw_S := (46, [(0, .inl 81), (1, .inr (false, [(0, 3)])), (2, .inr (false, [(1, 1)]))], [], mgh20081)
def mgx20082 : aw_A := ms_o [(0, 8)] [(0, 4)] ar_t32 ar_t32 [(0, 180)] [(53, 53)] [(1, 60)] [(0, 8)] [(0, 0)]
def mgh20083 : aw_H := [(81, mgx20082), (89, mgx497), (90, .inr (.inl (0, 240, [], []))), (92, .inr (.inl (0, 8, [], []))), (93, .inr (.inl (0, 8, [], []))), (94, mgx5049)]
def mgn1422_419 : Nat × aw_S := (46, [(0, .inl 81), (1, .inr (false, [(0, 3)])), (2, .inr (false, [(1, 1)]))], [], mgh20083)
def mgx20084 : aw_A := ms_o [(0, 8)] [(0, 4)] ar_t32 ar_t32 [(0, 180)] [(49, 49)] [(-1, 60)] [(0, 8)] [(0, 0)]
def mgh20085 : aw_H := [(81, mgx20084), (89, mgx497), (90, .inr (.inl (0, 240, [], []))), (92, .inr (.inl (0, 8, [], []))), (93, .inr (.inl (0, 8, [], []))), (94, mgx5049)]
def mgn1422_420 : Nat × aw_S := (46, [(0, .inl 81), (1, .inr (false, [(0, 3)])), (2, .inr (false, [(0, 0)]))], [], mgh20085)
def mgx20086 : aw_A := ms_o [(0, 8)] [(0, 4)] ar_t32 ar_t32 [(0, 180)] [(50, 50)] [(-1, 60)] [(0, 8)] [(0, 0)]
def mgh20087 : aw_H := [(81, mgx20086), (89, mgx497), (90, .inr (.inl (0, 240, [], []))), (92, .inr (.inl (0, 8, [], []))), (93, .inr (.inl (0, 8, [], []))), (94, mgx5049)]
def mgn1422_421 : Nat × aw_S := (46, [(0, .inl 81), (1, .inr (false, [(0, 3)])), (2, .inr (false, [(0, 0)]))], [], mgh20087)
def mgx20088 : aw_A := ms_o [(0, 8)] [(0, 4)] ar_t32 ar_t32 [(0, 180)] [(53, 53)] [(8, 60)] [(1, 8)] [(1, 1)]
def mgh20089 : aw_H := [(81, mgx20088), (89, mgx497), (90, .inr (.inl (0, 240, [], []))), (92, .inr (.inl (0, 8, [], []))), (93, .inr (.inl (0, 8, [], []))), (94, mgx5052)]
def mgn1422_422 : Nat × aw_S := (46, [(0, .inl 81), (1, .inr (false, [(0, 3)])), (2, .inr (false, [(1, 1)]))], [], mgh20089)
def mgx20090 : aw_A := ms_o [(0, 8)] [(0, 4)] ar_t32 ar_t32 [(0, 180)] [(54, 54)] [(1, 60)] [(0, 8)] [(0, 0)]
def mgh20091 : aw_H := [(81, mgx20090), (89, mgx497), (90, .inr (.inl (0, 240, [], []))), (92, .inr (.inl (0, 8, [], []))), (93, .inr (.inl (0, 8, [], []))), (94, mgx5049)]
def mgn1422_423 : Nat × aw_S := (46, [(0, .inl 81), (1, .inr (false, [(0, 3)])), (2, .inr (false, [(1, 1)]))], [], mgh20091)
def mgx20092 : aw_A := ms_o [(0, 8)] [(0, 4)] ar_t32 ar_t32 [(0, 180)] [(52, 52)] [(8, 60)] [(1, 8)] [(1, 1)]
def mgh20093 : aw_H := [(81, mgx20092), (89, mgx497), (90, .inr (.inl (0, 240, [], []))), (92, .inr (.inl (0, 8, [], []))), (93, .inr (.inl (0, 8, [], []))), (94, mgx5052)]
def mgn1422_424 : Nat × aw_S := (46, [(0, .inl 81), (1, .inr (false, [(0, 3)])), (2, .inr (false, [(1, 1)]))], [], mgh20093)
def mgh20094 : aw_H := [(81, mgx18781), (89, mgx497), (90, .inr (.inl (0, 240, [], []))), (92, .inr (.inl (0, 8, [], []))), (93, .inr (.inl (0, 8, [], []))), (94, mgx5052)]
def mgn1422_425 : Nat × aw_S := (46, [(0, .inl 81), (1, .inr (false, [(0, 3)])), (2, .inr (false, [(0, 0)]))], [], mgh20094)
def mgh20095 : aw_H := [(81, mgx18659), (89, mgx497), (90, .inr (.inl (0, 240, [], []))), (92, .inr (.inl (0, 8, [], []))), (93, .inr (.inl (0, 8, [], []))), (94, mgx5052)]
def mgn1422_426 : Nat × aw_S := (46, [(0, .inl 81), (1, .inr (false, [(0, 3)])), (2, .inr (false, [(0, 0)]))], [], mgh20095)
def mgx20096 : aw_A := ms_o [(0, 8)] [(0, 4)] ar_t32 ar_t32 [(0, 180)] [(47, 47)] [(8, 60)] [(1, 8)] [(1, 1)]
def mgh20097 : aw_H := [(81, mgx20096), (89, mgx497), (90, .inr (.inl (0, 240, [], []))), (92, .inr (.inl (0, 8, [], []))), (93, .inr (.inl (0, 8, [], []))), (94, mgx5052)]
def mgn1422_427 : Nat × aw_S := (46, [(0, .inl 81), (1, .inr (false, [(0, 3)])), (2, .inr (false, [(1, 1)]))], [], mgh20097)
def mgx20098 : aw_A := ms_o [(0, 8)] [(0, 4)] ar_t32 ar_t32 [(0, 180)] [(56, 56)] [(11, 60)] [(1, 8)] [(2, 2)]
def mgh20099 : aw_H := [(81, mgx20098), (89, mgx497), (90, .inr (.inl (0, 240, [], []))), (92, .inr (.inl (0, 8, [], []))), (93, .inr (.inl (0, 8, [], []))), (94, mgx5820)]
def mgn1422_428 : Nat × aw_S := (46, [(0, .inl 81), (1, .inr (false, [(0, 3)])), (2, .inr (false, [(1, 1)]))], [], mgh20099)
def mgh20100 : aw_H := [(81, mgx17899), (89, mgx497), (90, .inr (.inl (0, 240, [], []))), (92, .inr (.inl (0, 8, [], []))), (93, .inr (.inl (0, 8, [], []))), (94, mgx5052)]
def mgn1422_429 : Nat × aw_S := (46, [(0, .inl 81), (1, .inr (false, [(0, 3)])), (2, .inr (false, [(0, 0)]))], [], mgh20100)
def mgx20101 : aw_A := ms_o [(0, 8)] [(0, 4)] ar_t32 ar_t32 [(0, 180)] [(55, 55)] [(11, 60)] [(1, 8)] [(2, 2)]
def mgh20102 : aw_H := [(81, mgx20101), (89, mgx497), (90, .inr (.inl (0, 240, [], []))), (92, .inr (.inl (0, 8, [], []))), (93, .inr (.inl (0, 8, [], []))), (94, mgx5820)]
def mgn1422_430 : Nat × aw_S := (46, [(0, .inl 81), (1, .inr (false, [(0, 3)])), (2, .inr (false, [(1, 1)]))], [], mgh20102)
def mgh20103 : aw_H := [(81, mgx18071), (89, mgx497), (90, .inr (.inl (0, 240, [], []))), (92, .inr (.inl (0, 8, [], []))), (93, .inr (.inl (0, 8, [], []))), (94, mgx5052)]
def mgn1422_431 : Nat × aw_S := (46, [(0, .inl 81), (1, .inr (false, [(0, 3)])), (2, .inr (false, [(0, 0)]))], [], mgh20103)
def mgx20104 : aw_A := ms_o [(0, 8)] [(0, 4)] ar_t32 ar_t32 [(0, 180)] [(51, 51)] [(11, 60)] [(1, 8)] [(2, 2)]
def mgh20105 : aw_H := [(81, mgx20104), (89, mgx497), (90, .inr (.inl (0, 240, [], []))), (92, .inr (.inl (0, 8, [], []))), (93, .inr (.inl (0, 8, [], []))), (94, mgx5820)]
def mgn1422_432 : Nat × aw_S := (46, [(0, .inl 81), (1, .inr (false, [(0, 3)])), (2, .inr (false, [(1, 1)]))], [], mgh20105)
def mgx20106 : aw_A := ms_o [(0, 8)] [(0, 4)] ar_t32 ar_t32 [(0, 180)] [(52, 52)] [(11, 60)] [(1, 8)] [(2, 2)]
def mgh20107 : aw_H := [(81, mgx20106), (89, mgx497), (90, .inr (.inl (0, 240, [], []))), (92, .inr (.inl (0, 8, [], []))), (93, .inr (.inl (0, 8, [], []))), (94, mgx5820)]
def mgn1422_433 : Nat × aw_S := (46, [(0, .inl 81), (1, .inr (false, [(0, 3)])), (2, .inr (false, [(1, 1)]))], [], mgh20107)
def mgx20108 : aw_A := ms_o [(0, 8)] [(0, 4)] ar_t32 ar_t32 [(0, 180)] [(54, 54)] [(11, 60)] [(1, 8)] [(2, 2)]
def mgh20109 : aw_H := [(81, mgx20108), (89, mgx497), (90, .inr (.inl (0, 240, [], []))), (92, .inr (.inl (0, 8, [], []))), (93, .inr (.inl (0, 8, [], []))), (94, mgx5820)]
def mgn1422_434 : Nat × aw_S := (46, [(0, .inl 81), (1, .inr (false, [(0, 3)])), (2, .inr (false, [(1, 1)]))], [], mgh20109)
def mgh20110 : aw_H := [(81, mgx19104), (89, mgx497), (90, .inr (.inl (0, 240, [], []))), (92, .inr (.inl (0, 8, [], []))), (93, .inr (.inl (0, 8, [], []))), (94, mgx5820)]
def mgn1422_435 : Nat × aw_S := (46, [(0, .inl 81), (1, .inr (false, [(0, 3)])), (2, .inr (false, [(0, 0)]))], [], mgh20110)
def mgx20111 : aw_A := ms_o [(0, 8)] [(0, 4)] ar_t32 ar_t32 [(0, 180)] [(53, 53)] [(11, 60)] [(1, 8)] [(2, 2)]
def mgh20112 : aw_H := [(81, mgx20111), (89, mgx497), (90, .inr (.inl (0, 240, [], []))), (92, .inr (.inl (0, 8, [], []))), (93, .inr (.inl (0, 8, [], []))), (94, mgx5820)]
def mgn1422_436 : Nat × aw_S := (46, [(0, .inl 81), (1, .inr (false, [(0, 3)])), (2, .inr (false, [(1, 1)]))], [], mgh20112)
def mgh20113 : aw_H := [(81, mgx19014), (89, mgx497), (90, .inr (.inl (0, 240, [], []))), (92, .inr (.inl (0, 8, [], []))), (93, .inr (.inl (0, 8, [], []))), (94, mgx5820)]
def mgn1422_437 : Nat × aw_S := (46, [(0, .inl 81), (1, .inr (false, [(0, 3)])), (2, .inr (false, [(0, 0)]))], [], mgh20113)
def mgh20114 : aw_H := [(81, mgx18914), (89, mgx497), (90, .inr (.inl (0, 240, [], []))), (92, .inr (.inl (0, 8, [], []))), (93, .inr (.inl (0, 8, [], []))), (94, mgx5820)]
def mgn1422_438 : Nat × aw_S := (46, [(0, .inl 81), (1, .inr (false, [(0, 3)])), (2, .inr (false, [(0, 0)]))], [], mgh20114)
def mgh20115 : aw_H := [(81, mgx18804), (89, mgx497), (90, .inr (.inl (0, 240, [], []))), (92, .inr (.inl (0, 8, [], []))), (93, .inr (.inl (0, 8, [], []))), (94, mgx5820)]
def mgn1422_439 : Nat × aw_S := (46, [(0, .inl 81), (1, .inr (false, [(0, 3)])), (2, .inr (false, [(0, 0)]))], [], mgh20115)
def mgh20116 : aw_H := [(81, mgx18233), (89, mgx497), (90, .inr (.inl (0, 240, [], []))), (92, .inr (.inl (0, 8, [], []))), (93, .inr (.inl (0, 8, [], []))), (94, mgx5052)]
def mgn1422_440 : Nat × aw_S := (46, [(0, .inl 81), (1, .inr (false, [(0, 3)])), (2, .inr (false, [(0, 0)]))], [], mgh20116)
def mgx20117 : aw_A := ms_o [(0, 8)] [(0, 4)] ar_t32 ar_t32 [(0, 180)] [(50, 50)] [(11, 60)] [(1, 8)] [(2, 2)]
def mgh20118 : aw_H := [(81, mgx20117), (89, mgx497), (90, .inr (.inl (0, 240, [], []))), (92, .inr (.inl (0, 8, [], []))), (93, .inr (.inl (0, 8, [], []))), (94, mgx5820)]
def mgn1422_441 : Nat × aw_S := (46, [(0, .inl 81), (1, .inr (false, [(0, 3)])), (2, .inr (false, [(1, 1)]))], [], mgh20118)
def mgx20119 : aw_A := ms_o [(0, 8)] [(0, 4)] ar_t32 ar_t32 [(0, 180)] [(55, 55)] [(14, 60)] [(1, 8)] [(3, 3)]
def mgh20120 : aw_H := [(81, mgx20119), (89, mgx497), (90, .inr (.inl (0, 240, [], []))), (92, .inr (.inl (0, 8, [], []))), (93, .inr (.inl (0, 8, [], []))), (94, mgx6868)]
def mgn1422_442 : Nat × aw_S := (46, [(0, .inl 81), (1, .inr (false, [(0, 3)])), (2, .inr (false, [(1, 1)]))], [], mgh20120)
def mgx20121 : aw_A := ms_o [(0, 8)] [(0, 4)] ar_t32 ar_t32 [(0, 180)] [(56, 56)] [(14, 60)] [(1, 8)] [(3, 3)]
def mgh20122 : aw_H := [(81, mgx20121), (89, mgx497), (90, .inr (.inl (0, 240, [], []))), (92, .inr (.inl (0, 8, [], []))), (93, .inr (.inl (0, 8, [], []))), (94, mgx6868)]
def mgn1422_443 : Nat × aw_S := (46, [(0, .inl 81), (1, .inr (false, [(0, 3)])), (2, .inr (false, [(1, 1)]))], [], mgh20122)
def mgh20123 : aw_H := [(81, mgx18414), (89, mgx497), (90, .inr (.inl (0, 240, [], []))), (92, .inr (.inl (0, 8, [], []))), (93, .inr (.inl (0, 8, [], []))), (94, mgx5820)]
def mgn1422_444 : Nat × aw_S := (46, [(0, .inl 81), (1, .inr (false, [(0, 3)])), (2, .inr (false, [(0, 0)]))], [], mgh20123)
def mgx20124 : aw_A := ms_o [(0, 8)] [(0, 4)] ar_t32 ar_t32 [(0, 180)] [(59, 59)] [(14, 60)] [(1, 8)] [(3, 3)]
def mgh20125 : aw_H := [(81, mgx20124), (89, mgx497), (90, .inr (.inl (0, 240, [], []))), (92, .inr (.inl (0, 8, [], []))), (93, .inr (.inl (0, 8, [], []))), (94, mgx6868)]
def mgn1422_445 : Nat × aw_S := (46, [(0, .inl 81), (1, .inr (false, [(0, 3)])), (2, .inr (false, [(1, 1)]))], [], mgh20125)
def mgx20126 : aw_A := ms_o [(0, 8)] [(0, 4)] ar_t32 ar_t32 [(0, 180)] [(57, 57)] [(14, 60)] [(1, 8)] [(3, 3)]
def mgh20127 : aw_H := [(81, mgx20126), (89, mgx497), (90, .inr (.inl (0, 240, [], []))), (92, .inr (.inl (0, 8, [], []))), (93, .inr (.inl (0, 8, [], []))), (94, mgx6868)]
def mgn1422_446 : Nat × aw_S := (46, [(0, .inl 81), (1, .inr (false, [(0, 3)])), (2, .inr (false, [(1, 1)]))], [], mgh20127)
def mgh20128 : aw_H := [(81, mgx19198), (89, mgx497), (90, .inr (.inl (0, 240, [], []))), (92, .inr (.inl (0, 8, [], []))), (93, .inr (.inl (0, 8, [], []))), (94, mgx6868)]
def mgn1422_447 : Nat × aw_S := (46, [(0, .inl 81), (1, .inr (false, [(0, 3)])), (2, .inr (false, [(0, 0)]))], [], mgh20128)
def mgh20129 : aw_H := [(81, mgx18554), (89, mgx497), (90, .inr (.inl (0, 240, [], []))), (92, .inr (.inl (0, 8, [], []))), (93, .inr (.inl (0, 8, [], []))), (94, mgx5820)]
def mgn1422_448 : Nat × aw_S := (46, [(0, .inl 81), (1, .inr (false, [(0, 3)])), (2, .inr (false, [(0, 0)]))], [], mgh20129)
def mgx20130 : aw_A := ms_o [(0, 8)] [(0, 4)] ar_t32 ar_t32 [(0, 180)] [(54, 54)] [(14, 60)] [(1, 8)] [(3, 3)]
def mgh20131 : aw_H := [(81, mgx20130), (89, mgx497), (90, .inr (.inl (0, 240, [], []))), (92, .inr (.inl (0, 8, [], []))), (93, .inr (.inl (0, 8, [], []))), (94, mgx6868)]
def mgn1422_449 : Nat × aw_S := (46, [(0, .inl 81), (1, .inr (false, [(0, 3)])), (2, .inr (false, [(1, 1)]))], [], mgh20131)
def mgh20132 : aw_H := [(81, mgx19120), (89, mgx497), (90, .inr (.inl (0, 240, [], []))), (92, .inr (.inl (0, 8, [], []))), (93, .inr (.inl (0, 8, [], []))), (94, mgx6868)]
def mgn1422_450 : Nat × aw_S := (46, [(0, .inl 81), (1, .inr (false, [(0, 3)])), (2, .inr (false, [(0, 0)]))], [], mgh20132)
def mgh20133 : aw_H := [(81, mgx18684), (89, mgx497), (90, .inr (.inl (0, 240, [], []))), (92, .inr (.inl (0, 8, [], []))), (93, .inr (.inl (0, 8, [], []))), (94, mgx5820)]
def mgn1422_451 : Nat × aw_S := (46, [(0, .inl 81), (1, .inr (false, [(0, 3)])), (2, .inr (false, [(0, 0)]))], [], mgh20133)
def mgx20134 : aw_A := ms_o [(0, 8)] [(0, 4)] ar_t32 ar_t32 [(0, 180)] [(53, 53)] [(14, 60)] [(1, 8)] [(3, 3)]
def mgh20135 : aw_H := [(81, mgx20134), (89, mgx497), (90, .inr (.inl (0, 240, [], []))), (92, .inr (.inl (0, 8, [], []))), (93, .inr (.inl (0, 8, [], []))), (94, mgx6868)]
def mgn1422_452 : Nat × aw_S := (46, [(0, .inl 81), (1, .inr (false, [(0, 3)])), (2, .inr (false, [(1, 1)]))], [], mgh20135)
def mgx20136 : aw_A := ms_o [(0, 8)] [(0, 4)] ar_t32 ar_t32 [(0, 180)] [(60, 60)] [(17, 60)] [(1, 8)] [(4, 4)]
def mgh20137 : aw_H := [(81, mgx20136), (89, mgx497), (90, .inr (.inl (0, 240, [], []))), (92, .inr (.inl (0, 8, [], []))), (93, .inr (.inl (0, 8, [], []))), (94, mgx8150)]
def mgn1422_453 : Nat × aw_S := (46, [(0, .inl 81), (1, .inr (false, [(0, 3)])), (2, .inr (false, [(1, 1)]))], [], mgh20137)
def mgx20138 : aw_A := ms_o [(0, 8)] [(0, 4)] ar_t32 ar_t32 [(0, 180)] [(57, 57)] [(17, 60)] [(1, 8)] [(4, 4)]
def mgh20139 : aw_H := [(81, mgx20138), (89, mgx497), (90, .inr (.inl (0, 240, [], []))), (92, .inr (.inl (0, 8, [], []))), (93, .inr (.inl (0, 8, [], []))), (94, mgx8150)]
def mgn1422_454 : Nat × aw_S := (46, [(0, .inl 81), (1, .inr (false, [(0, 3)])), (2, .inr (false, [(1, 1)]))], [], mgh20139)
def mgh20140 : aw_H := [(81, mgx19380), (89, mgx497), (90, .inr (.inl (0, 240, [], []))), (92, .inr (.inl (0, 8, [], []))), (93, .inr (.inl (0, 8, [], []))), (94, mgx8150)]
def mgn1422_455 : Nat × aw_S := (46, [(0, .inl 81), (1, .inr (false, [(0, 3)])), (2, .inr (false, [(0, 0)]))], [], mgh20140)
def mgh20141 : aw_H := [(81, mgx18934), (89, mgx497), (90, .inr (.inl (0, 240, [], []))), (92, .inr (.inl (0, 8, [], []))), (93, .inr (.inl (0, 8, [], []))), (94, mgx6868)]
def mgn1422_456 : Nat × aw_S := (46, [(0, .inl 81), (1, .inr (false, [(0, 3)])), (2, .inr (false, [(0, 0)]))], [], mgh20141)
def mgx20142 : aw_A := ms_o [(0, 8)] [(0, 4)] ar_t32 ar_t32 [(0, 180)] [(58, 58)] [(17, 60)] [(1, 8)] [(4, 4)]
def mgh20143 : aw_H := [(81, mgx20142), (89, mgx497), (90, .inr (.inl (0, 240, [], []))), (92, .inr (.inl (0, 8, [], []))), (93, .inr (.inl (0, 8, [], []))), (94, mgx8150)]
def mgn1422_457 : Nat × aw_S := (46, [(0, .inl 81), (1, .inr (false, [(0, 3)])), (2, .inr (false, [(1, 1)]))], [], mgh20143)
def mgh20144 : aw_H := [(81, mgx19397), (89, mgx497), (90, .inr (.inl (0, 240, [], []))), (92, .inr (.inl (0, 8, [], []))), (93, .inr (.inl (0, 8, [], []))), (94, mgx8150)]
def mgn1422_458 : Nat × aw_S := (46, [(0, .inl 81), (1, .inr (false, [(0, 3)])), (2, .inr (false, [(0, 0)]))], [], mgh20144)
def mgh20145 : aw_H := [(81, mgx18826), (89, mgx497), (90, .inr (.inl (0, 240, [], []))), (92, .inr (.inl (0, 8, [], []))), (93, .inr (.inl (0, 8, [], []))), (94, mgx6868)]
def mgn1422_459 : Nat × aw_S := (46, [(0, .inl 81), (1, .inr (false, [(0, 3)])), (2, .inr (false, [(0, 0)]))], [], mgh20145)
def mgh20146 : aw_H := [(81, mgx19032), (89, mgx497), (90, .inr (.inl (0, 240, [], []))), (92, .inr (.inl (0, 8, [], []))), (93, .inr (.inl (0, 8, [], []))), (94, mgx6868)]
def mgn1422_460 : Nat × aw_S := (46, [(0, .inl 81), (1, .inr (false, [(0, 3)])), (2, .inr (false, [(0, 0)]))], [], mgh20146)
def mgx20147 : aw_A := ms_o [(0, 8)] [(0, 4)] ar_t32 ar_t32 [(0, 180)] [(56, 56)] [(17, 60)] [(1, 8)] [(4, 4)]
def mgh20148 : aw_H := [(81, mgx20147), (89, mgx497), (90, .inr (.inl (0, 240, [], []))), (92, .inr (.inl (0, 8, [], []))), (93, .inr (.inl (0, 8, [], []))), (94, mgx8150)]
def mgn1422_461 : Nat × aw_S := (46, [(0, .inl 81), (1, .inr (false, [(0, 3)])), (2, .inr (false, [(1, 1)]))], [], mgh20148)
def mgh20149 : aw_H := [(81, mgx19341), (89, mgx497), (90, .inr (.inl (0, 240, [], []))), (92, .inr (.inl (0, 8, [], []))), (93, .inr (.inl (0, 8, [], []))), (94, mgx8150)]
def mgn1422_462 : Nat × aw_S := (46, [(0, .inl 81), (1, .inr (false, [(0, 3)])), (2, .inr (false, [(0, 0)]))], [], mgh20149)
def mgx20150 : aw_A := ms_o [(0, 8)] [(0, 4)] ar_t32 ar_t32 [(0, 180)] [(59, 59)] [(17, 60)] [(1, 8)] [(4, 4)]
def mgh20151 : aw_H := [(81, mgx20150), (89, mgx497), (90, .inr (.inl (0, 240, [], []))), (92, .inr (.inl (0, 8, [], []))), (93, .inr (.inl (0, 8, [], []))), (94, mgx8150)]
def mgn1422_463 : Nat × aw_S := (46, [(0, .inl 81), (1, .inr (false, [(0, 3)])), (2, .inr (false, [(1, 1)]))], [], mgh20151)
def mgh20152 : aw_H := [(81, mgx19414), (89, mgx497), (90, .inr (.inl (0, 240, [], []))), (92, .inr (.inl (0, 8, [], []))), (93, .inr (.inl (0, 8, [], []))), (94, mgx8150)]
def mgn1422_464 : Nat × aw_S := (46, [(0, .inl 81), (1, .inr (false, [(0, 3)])), (2, .inr (false, [(0, 0)]))], [], mgh20152)
def mgx20153 : aw_A := ms_o [(0, 8)] [(0, 4)] ar_t32 ar_t32 [(0, 180)] [(58, 58)] [(14, 60)] [(1, 8)] [(3, 3)]
def mgh20154 : aw_H := [(81, mgx20153), (89, mgx497), (90, .inr (.inl (0, 240, [], []))), (92, .inr (.inl (0, 8, [], []))), (93, .inr (.inl (0, 8, [], []))), (94, mgx6868)]
def mgn1422_465 : Nat × aw_S := (46, [(0, .inl 81), (1, .inr (false, [(0, 3)])), (2, .inr (false, [(1, 1)]))], [], mgh20154)
def mgh20155 : aw_H := [(81, mgx19367), (89, mgx497), (90, .inr (.inl (0, 240, [], []))), (92, .inr (.inl (0, 8, [], []))), (93, .inr (.inl (0, 8, [], []))), (94, mgx6868)]
def mgn1422_466 : Nat × aw_S := (46, [(0, .inl 81), (1, .inr (false, [(0, 3)])), (2, .inr (false, [(0, 0)]))], [], mgh20155)
def mgh20156 : aw_H := [(81, mgx19266), (89, mgx497), (90, .inr (.inl (0, 240, [], []))), (92, .inr (.inl (0, 8, [], []))), (93, .inr (.inl (0, 8, [], []))), (94, mgx6868)]
def mgn1422_467 : Nat × aw_S := (46, [(0, .inl 81), (1, .inr (false, [(0, 3)])), (2, .inr (false, [(0, 0)]))], [], mgh20156)
def mgh20157 : aw_H := [(81, mgx19324), (89, mgx497), (90, .inr (.inl (0, 240, [], []))), (92, .inr (.inl (0, 8, [], []))), (93, .inr (.inl (0, 8, [], []))), (94, mgx6868)]
def mgn1422_468 : Nat × aw_S := (46, [(0, .inl 81), (1, .inr (false, [(0, 3)])), (2, .inr (false, [(0, 0)]))], [], mgh20157)
def mgx20158 : aw_A := ms_o [(0, 8)] [(0, 4)] ar_t32 ar_t32 [(0, 180)] [(51, 51)] [(1, 60)] [(0, 8)] [(0, 0)]
def mgh20159 : aw_H := [(81, mgx20158), (89, mgx497), (90, .inr (.inl (0, 240, [], []))), (92, .inr (.inl (0, 8, [], []))), (93, .inr (.inl (0, 8, [], []))), (94, mgx5049)]
def mgn1422_469 : Nat × aw_S := (46, [(0, .inl 81), (1, .inr (false, [(0, 3)])), (2, .inr (false, [(1, 1)]))], [], mgh20159)
def mgx20160 : aw_A := ms_o [(0, 8)] [(0, 4)] ar_t32 ar_t32 [(0, 180)] [(56, 56)] [(8, 60)] [(1, 8)] [(1, 1)]
def mgh20161 : aw_H := [(81, mgx20160), (89, mgx497), (90, .inr (.inl (0, 240, [], []))), (92, .inr (.inl (0, 8, [], []))), (93, .inr (.inl (0, 8, [], []))), (94, mgx5052)]
def mgn1422_470 : Nat × aw_S := (46, [(0, .inl 81), (1, .inr (false, [(0, 3)])), (2, .inr (false, [(1, 1)]))], [], mgh20161)
def mgx20162 : aw_A := ms_o [(0, 8)] [(0, 4)] ar_t32 ar_t32 [(0, 180)] [(55, 55)] [(8, 60)] [(1, 8)] [(1, 1)]
def mgh20163 : aw_H := [(81, mgx20162), (89, mgx497), (90, .inr (.inl (0, 240, [], []))), (92, .inr (.inl (0, 8, [], []))), (93, .inr (.inl (0, 8, [], []))), (94, mgx5052)]
def mgn1422_471 : Nat × aw_S := (46, [(0, .inl 81), (1, .inr (false, [(0, 3)])), (2, .inr (false, [(1, 1)]))], [], mgh20163)
def mgx20164 : aw_A := ms_o [(0, 8)] [(0, 4)] ar_t32 ar_t32 [(0, 180)] [(57, 57)] [(1, 60)] [(0, 8)] [(0, 0)]
def mgh20165 : aw_H := [(81, mgx20164), (89, mgx497), (90, .inr (.inl (0, 240, [], []))), (92, .inr (.inl (0, 8, [], []))), (93, .inr (.inl (0, 8, [], []))), (94, mgx5049)]
def mgn1422_472 : Nat × aw_S := (46, [(0, .inl 81), (1, .inr (false, [(0, 3)])), (2, .inr (false, [(1, 1)]))], [], mgh20165)
def mgx20166 : aw_A := ms_o [(0, 8)] [(0, 4)] ar_t32 ar_t32 [(0, 180)] [(56, 56)] [(1, 60)] [(0, 8)] [(0, 0)]
def mgh20167 : aw_H := [(81, mgx20166), (89, mgx497), (90, .inr (.inl (0, 240, [], []))), (92, .inr (.inl (0, 8, [], []))), (93, .inr (.inl (0, 8, [], []))), (94, mgx5049)]
def mgn1422_473 : Nat × aw_S := (46, [(0, .inl 81), (1, .inr (false, [(0, 3)])), (2, .inr (false, [(1, 1)]))], [], mgh20167)
def mgx20168 : aw_A := ms_o [(0, 8)] [(0, 4)] ar_t32 ar_t32 [(0, 180)] [(57, 57)] [(8, 60)] [(1, 8)] [(1, 1)]
def mgh20169 : aw_H := [(81, mgx20168), (89, mgx497), (90, .inr (.inl (0, 240, [], []))), (92, .inr (.inl (0, 8, [], []))), (93, .inr (.inl (0, 8, [], []))), (94, mgx5052)]
def mgn1422_474 : Nat × aw_S := (46, [(0, .inl 81), (1, .inr (false, [(0, 3)])), (2, .inr (false, [(1, 1)]))], [], mgh20169)
def mgh20170 : aw_H := [(81, mgx19169), (89, mgx497), (90, .inr (.inl (0, 240, [], []))), (92, .inr (.inl (0, 8, [], []))), (93, .inr (.inl (0, 8, [], []))), (94, mgx5052)]
def mgn1422_475 : Nat × aw_S := (46, [(0, .inl 81), (1, .inr (false, [(0, 3)])), (2, .inr (false, [(0, 0)]))], [], mgh20170)
def mgx20171 : aw_A := ms_o [(0, 8)] [(0, 4)] ar_t32 ar_t32 [(0, 180)] [(58, 58)] [(1, 60)] [(0, 8)] [(0, 0)]
def mgh20172 : aw_H := [(81, mgx20171), (89, mgx497), (90, .inr (.inl (0, 240, [], []))), (92, .inr (.inl (0, 8, [], []))), (93, .inr (.inl (0, 8, [], []))), (94, mgx5049)]
def mgn1422_476 : Nat × aw_S := (46, [(0, .inl 81), (1, .inr (false, [(0, 3)])), (2, .inr (false, [(1, 1)]))], [], mgh20172)
def mgx20173 : aw_A := ms_o [(0, 8)] [(0, 4)] ar_t32 ar_t32 [(0, 180)] [(54, 54)] [(8, 60)] [(1, 8)] [(1, 1)]
def mgh20174 : aw_H := [(81, mgx20173), (89, mgx497), (90, .inr (.inl (0, 240, [], []))), (92, .inr (.inl (0, 8, [], []))), (93, .inr (.inl (0, 8, [], []))), (94, mgx5052)]
def mgn1422_477 : Nat × aw_S := (46, [(0, .inl 81), (1, .inr (false, [(0, 3)])), (2, .inr (false, [(1, 1)]))], [], mgh20174)
def mgx20175 : aw_A := ms_o [(0, 8)] [(0, 4)] ar_t32 ar_t32 [(0, 180)] [(58, 58)] [(11, 60)] [(1, 8)] [(2, 2)]
def mgh20176 : aw_H := [(81, mgx20175), (89, mgx497), (90, .inr (.inl (0, 240, [], []))), (92, .inr (.inl (0, 8, [], []))), (93, .inr (.inl (0, 8, [], []))), (94, mgx5820)]
def mgn1422_478 : Nat × aw_S := (46, [(0, .inl 81), (1, .inr (false, [(0, 3)])), (2, .inr (false, [(1, 1)]))], [], mgh20176)
def mgh20177 : aw_H := [(81, mgx19087), (89, mgx497), (90, .inr (.inl (0, 240, [], []))), (92, .inr (.inl (0, 8, [], []))), (93, .inr (.inl (0, 8, [], []))), (94, mgx5052)]
def mgn1422_479 : Nat × aw_S := (46, [(0, .inl 81), (1, .inr (false, [(0, 3)])), (2, .inr (false, [(0, 0)]))], [], mgh20177)
def mgx20178 : aw_A := ms_o [(0, 8)] [(0, 4)] ar_t32 ar_t32 [(0, 180)] [(59, 59)] [(11, 60)] [(1, 8)] [(2, 2)]
def mgh20179 : aw_H := [(81, mgx20178), (89, mgx497), (90, .inr (.inl (0, 240, [], []))), (92, .inr (.inl (0, 8, [], []))), (93, .inr (.inl (0, 8, [], []))), (94, mgx5820)]
def mgn1422_480 : Nat × aw_S := (46, [(0, .inl 81), (1, .inr (false, [(0, 3)])), (2, .inr (false, [(1, 1)]))], [], mgh20179)
def mgh20180 : aw_H := [(81, mgx19359), (89, mgx497), (90, .inr (.inl (0, 240, [], []))), (92, .inr (.inl (0, 8, [], []))), (93, .inr (.inl (0, 8, [], []))), (94, mgx5820)]
def mgn1422_481 : Nat × aw_S := (46, [(0, .inl 81), (1, .inr (false, [(0, 3)])), (2, .inr (false, [(0, 0)]))], [], mgh20180)
def mgx20181 : aw_A := ms_o [(0, 8)] [(0, 4)] ar_t32 ar_t32 [(0, 180)] [(57, 57)] [(11, 60)] [(1, 8)] [(2, 2)]
def mgh20182 : aw_H := [(81, mgx20181), (89, mgx497), (90, .inr (.inl (0, 240, [], []))), (92, .inr (.inl (0, 8, [], []))), (93, .inr (.inl (0, 8, [], []))), (94, mgx5820)]
def mgn1422_482 : Nat × aw_S := (46, [(0, .inl 81), (1, .inr (false, [(0, 3)])), (2, .inr (false, [(1, 1)]))], [], mgh20182)
def mgh20183 : aw_H := [(81, mgx19184), (89, mgx497), (90, .inr (.inl (0, 240, [], []))), (92, .inr (.inl (0, 8, [], []))), (93, .inr (.inl (0, 8, [], []))), (94, mgx5820)]
def mgn1422_483 : Nat × aw_S := (46, [(0, .inl 81), (1, .inr (false, [(0, 3)])), (2, .inr (false, [(0, 0)]))], [], mgh20183)
def mgh20184 : aw_H := [(81, mgx19314), (89, mgx497), (90, .inr (.inl (0, 240, [], []))), (92, .inr (.inl (0, 8, [], []))), (93, .inr (.inl (0, 8, [], []))), (94, mgx5820)]
def mgn1422_484 : Nat × aw_S := (46, [(0, .inl 81), (1, .inr (false, [(0, 3)])), (2, .inr (false, [(0, 0)]))], [], mgh20184)
def mgx20185 : aw_A := ms_o [(0, 8)] [(0, 4)] ar_t32 ar_t32 [(0, 180)] [(60, 60)] [(14, 60)] [(1, 8)] [(3, 3)]
def mgh20186 : aw_H := [(81, mgx20185), (89, mgx497), (90, .inr (.inl (0, 240, [], []))), (92, .inr (.inl (0, 8, [], []))), (93, .inr (.inl (0, 8, [], []))), (94, mgx6868)]
def mgn1422_485 : Nat × aw_S := (46, [(0, .inl 81), (1, .inr (false, [(0, 3)])), (2, .inr (false, [(1, 1)]))], [], mgh20186)
def mgh20187 : aw_H := [(81, mgx19254), (89, mgx497), (90, .inr (.inl (0, 240, [], []))), (92, .inr (.inl (0, 8, [], []))), (93, .inr (.inl (0, 8, [], []))), (94, mgx5820)]
def mgn1422_486 : Nat × aw_S := (46, [(0, .inl 81), (1, .inr (false, [(0, 3)])), (2, .inr (false, [(0, 0)]))], [], mgh20187)
def mgx20188 : aw_A := ms_o [(0, 8)] [(0, 4)] ar_t32 ar_t32 [(0, 180)] [(60, 60)] [(11, 60)] [(1, 8)] [(2, 2)]
def mgh20189 : aw_H := [(81, mgx20188), (89, mgx497), (90, .inr (.inl (0, 240, [], []))), (92, .inr (.inl (0, 8, [], []))), (93, .inr (.inl (0, 8, [], []))), (94, mgx5820)]
def mgn1422_487 : Nat × aw_S := (46, [(0, .inl 81), (1, .inr (false, [(0, 3)])), (2, .inr (false, [(1, 1)]))], [], mgh20189)
def mgh20190 : aw_H := [(81, mgx18995), (89, mgx497), (90, .inr (.inl (0, 240, [], []))), (92, .inr (.inl (0, 8, [], []))), (93, .inr (.inl (0, 8, [], []))), (94, mgx5052)]
def mgn1422_488 : Nat × aw_S := (46, [(0, .inl 81), (1, .inr (false, [(0, 3)])), (2, .inr (false, [(0, 0)]))], [], mgh20190)
def mgh20191 : aw_H := [(81, mgx18893), (89, mgx497), (90, .inr (.inl (0, 240, [], []))), (92, .inr (.inl (0, 8, [], []))), (93, .inr (.inl (0, 8, [], []))), (94, mgx5052)]
def mgn1422_489 : Nat × aw_S := (46, [(0, .inl 81), (1, .inr (false, [(0, 3)])), (2, .inr (false, [(0, 0)]))], [], mgh20191)
def mgx20192 : aw_A := ms_o [(0, 8)] [(0, 4)] ar_t32 ar_t32 [(0, 180)] [(53, 53)] [(-1, 60)] [(0, 8)] [(0, 0)]
def mgh20193 : aw_H := [(81, mgx20192), (89, mgx497), (90, .inr (.inl (0, 240, [], []))), (92, .inr (.inl (0, 8, [], []))), (93, .inr (.inl (0, 8, [], []))), (94, mgx5049)]
def mgn1422_490 : Nat × aw_S := (46, [(0, .inl 81), (1, .inr (false, [(0, 3)])), (2, .inr (false, [(0, 0)]))], [], mgh20193)
def mgx20194 : aw_A := ms_o [(0, 8)] [(0, 4)] ar_t32 ar_t32 [(0, 180)] [(52, 52)] [(-1, 60)] [(0, 8)] [(0, 0)]
def mgh20195 : aw_H := [(81, mgx20194), (89, mgx497), (90, .inr (.inl (0, 240, [], []))), (92, .inr (.inl (0, 8, [], []))), (93, .inr (.inl (0, 8, [], []))), (94, mgx5049)]
def mgn1422_491 : Nat × aw_S := (46, [(0, .inl 81), (1, .inr (false, [(0, 3)])), (2, .inr (false, [(0, 0)]))], [], mgh20195)
def mgx20196 : aw_A := ms_o [(0, 8)] [(0, 4)] ar_t32 ar_t32 [(0, 180)] [(51, 51)] [(-1, 60)] [(0, 8)] [(0, 0)]
def mgh20197 : aw_H := [(81, mgx20196), (89, mgx497), (90, .inr (.inl (0, 240, [], []))), (92, .inr (.inl (0, 8, [], []))), (93, .inr (.inl (0, 8, [], []))), (94, mgx5049)]
def mgn1422_492 : Nat × aw_S := (46, [(0, .inl 81), (1, .inr (false, [(0, 3)])), (2, .inr (false, [(0, 0)]))], [], mgh20197)
def mgx20198 : aw_A := ms_o [(0, 8)] [(0, 4)] ar_t32 ar_t32 [(0, 180)] [(54, 54)] [(-1, 60)] [(0, 8)] [(0, 0)]
def mgh20199 : aw_H := [(81, mgx20198), (89, mgx497), (90, .inr (.inl (0, 240, [], []))), (92, .inr (.inl (0, 8, [], []))), (93, .inr (.inl (0, 8, [], []))), (94, mgx5049)]
def mgn1422_493 : Nat × aw_S := (46, [(0, .inl 81), (1, .inr (false, [(0, 3)])), (2, .inr (false, [(0, 0)]))], [], mgh20199)
def mgx20200 : aw_A := ms_o [(0, 8)] [(0, 4)] ar_t32 ar_t32 [(0, 180)] [(55, 55)] [(1, 60)] [(0, 8)] [(0, 0)]
def mgh20201 : aw_H := [(81, mgx20200), (89, mgx497), (90, .inr (.inl (0, 240, [], []))), (92, .inr (.inl (0, 8, [], []))), (93, .inr (.inl (0, 8, [], []))), (94, mgx5049)]
def mgn1422_494 : Nat × aw_S := (46, [(0, .inl 81), (1, .inr (false, [(0, 3)])), (2, .inr (false, [(1, 1)]))], [], mgh20201)
def mgx20202 : aw_A := ms_o [(0, 8)] [(0, 4)] ar_t32 ar_t32 [(0, 180)] [(59, 59)] [(8, 60)] [(1, 8)] [(1, 1)]
def mgh20203 : aw_H := [(81, mgx20202), (89, mgx497), (90, .inr (.inl (0, 240, [], []))), (92, .inr (.inl (0, 8, [], []))), (93, .inr (.inl (0, 8, [], []))), (94, mgx5052)]
def mgn1422_495 : Nat × aw_S := (46, [(0, .inl 81), (1, .inr (false, [(0, 3)])), (2, .inr (false, [(1, 1)]))], [], mgh20203)
def mgx20204 : aw_A := ms_o [(0, 8)] [(0, 4)] ar_t32 ar_t32 [(0, 180)] [(60, 60)] [(8, 60)] [(1, 8)] [(1, 1)]
def mgh20205 : aw_H := [(81, mgx20204), (89, mgx497), (90, .inr (.inl (0, 240, [], []))), (92, .inr (.inl (0, 8, [], []))), (93, .inr (.inl (0, 8, [], []))), (94, mgx5052)]
def mgn1422_496 : Nat × aw_S := (46, [(0, .inl 81), (1, .inr (false, [(0, 3)])), (2, .inr (false, [(1, 1)]))], [], mgh20205)
def mgx20206 : aw_A := ms_o [(0, 8)] [(0, 4)] ar_t32 ar_t32 [(0, 180)] [(57, 57)] [(-1, 60)] [(0, 8)] [(0, 0)]
def mgh20207 : aw_H := [(81, mgx20206), (89, mgx497), (90, .inr (.inl (0, 240, [], []))), (92, .inr (.inl (0, 8, [], []))), (93, .inr (.inl (0, 8, [], []))), (94, mgx5049)]
def mgn1422_497 : Nat × aw_S := (46, [(0, .inl 81), (1, .inr (false, [(0, 3)])), (2, .inr (false, [(0, 0)]))], [], mgh20207)
def mgx20208 : aw_A := ms_o [(0, 8)] [(0, 4)] ar_t32 ar_t32 [(0, 180)] [(55, 55)] [(-1, 60)] [(0, 8)] [(0, 0)]
def mgh20209 : aw_H := [(81, mgx20208), (89, mgx497), (90, .inr (.inl (0, 240, [], []))), (92, .inr (.inl (0, 8, [], []))), (93, .inr (.inl (0, 8, [], []))), (94, mgx5049)]
def mgn1422_498 : Nat × aw_S := (46, [(0, .inl 81), (1, .inr (false, [(0, 3)])), (2, .inr (false, [(0, 0)]))], [], mgh20209)
def mgx20210 : aw_A := ms_o [(0, 8)] [(0, 4)] ar_t32 ar_t32 [(0, 180)] [(56, 56)] [(-1, 60)] [(0, 8)] [(0, 0)]
def mgh20211 : aw_H := [(81, mgx20210), (89, mgx497), (90, .inr (.inl (0, 240, [], []))), (92, .inr (.inl (0, 8, [], []))), (93, .inr (.inl (0, 8, [], []))), (94, mgx5049)]
def mgn1422_499 : Nat × aw_S := (46, [(0, .inl 81), (1, .inr (false, [(0, 3)])), (2, .inr (false, [(0, 0)]))], [], mgh20211)
def mgx20212 : aw_A := ms_o [(0, 8)] [(0, 4)] ar_t32 ar_t32 [(0, 180)] [(58, 58)] [(-1, 60)] [(0, 8)] [(0, 0)]
def mgh20213 : aw_H := [(81, mgx20212), (89, mgx497), (90, .inr (.inl (0, 240, [], []))), (92, .inr (.inl (0, 8, [], []))), (93, .inr (.inl (0, 8, [], []))), (94, mgx5049)]
def mgn1422_500 : Nat × aw_S := (46, [(0, .inl 81), (1, .inr (false, [(0, 3)])), (2, .inr (false, [(0, 0)]))], [], mgh20213)
def mgx20214 : aw_A := ms_o [(0, 8)] [(0, 4)] ar_t32 ar_t32 [(0, 180)] [(58, 58)] [(8, 60)] [(1, 8)] [(1, 1)]
def mgh20215 : aw_H := [(81, mgx20214), (89, mgx497), (90, .inr (.inl (0, 240, [], []))), (92, .inr (.inl (0, 8, [], []))), (93, .inr (.inl (0, 8, [], []))), (94, mgx5052)]
def mgn1422_501 : Nat × aw_S := (46, [(0, .inl 81), (1, .inr (false, [(0, 3)])), (2, .inr (false, [(1, 1)]))], [], mgh20215)
def mgh20216 : aw_H := [(81, mgx19241), (89, mgx497), (90, .inr (.inl (0, 240, [], []))), (92, .inr (.inl (0, 8, [], []))), (93, .inr (.inl (0, 8, [], []))), (94, mgx5052)]
def mgn1422_502 : Nat × aw_S := (46, [(0, .inl 81), (1, .inr (false, [(0, 3)])), (2, .inr (false, [(0, 0)]))], [], mgh20216)
def mgh20217 : aw_H := [(81, mgx19303), (89, mgx497), (90, .inr (.inl (0, 240, [], []))), (92, .inr (.inl (0, 8, [], []))), (93, .inr (.inl (0, 8, [], []))), (94, mgx5052)]
def mgn1422_503 : Nat × aw_S := (46, [(0, .inl 81), (1, .inr (false, [(0, 3)])), (2, .inr (false, [(0, 0)]))], [], mgh20217)
def mgh20218 : aw_H := [(81, mgx19350), (89, mgx497), (90, .inr (.inl (0, 240, [], []))), (92, .inr (.inl (0, 8, [], []))), (93, .inr (.inl (0, 8, [], []))), (94, mgx5052)]
def mgn1422_504 : Nat × aw_S := (46, [(0, .inl 81), (1, .inr (false, [(0, 3)])), (2, .inr (false, [(0, 0)]))], [], mgh20218)
def mgx20219 : aw_A := ms_o [(0, 8)] [(0, 4)] ar_t32 ar_t32 [(0, 180)] [(60, 60)] [(1, 60)] [(0, 8)] [(0, 0)]
def mgh20220 : aw_H := [(81, mgx20219), (89, mgx497), (90, .inr (.inl (0, 240, [], []))), (92, .inr (.inl (0, 8, [], []))), (93, .inr (.inl (0, 8, [], []))), (94, mgx5049)]
def mgn1422_505 : Nat × aw_S := (46, [(0, .inl 81), (1, .inr (false, [(0, 3)])), (2, .inr (false, [(1, 1)]))], [], mgh20220)
def mgx20221 : aw_A := ms_o [(0, 8)] [(0, 4)] ar_t32 ar_t32 [(0, 180)] [(59, 59)] [(1, 60)] [(0, 8)] [(0, 0)]
def mgh20222 : aw_H := [(81, mgx20221), (89, mgx497), (90, .inr (.inl (0, 240, [], []))), (92, .inr (.inl (0, 8, [], []))), (93, .inr (.inl (0, 8, [], []))), (94, mgx5049)]
def mgn1422_506 : Nat × aw_S := (46, [(0, .inl 81), (1, .inr (false, [(0, 3)])), (2, .inr (false, [(1, 1)]))], [], mgh20222)
def mgx20223 : aw_A := ms_o [(0, 8)] [(0, 4)] ar_t32 ar_t32 [(0, 180)] [(60, 60)] [(-1, 60)] [(0, 8)] [(0, 0)]
def mgh20224 : aw_H := [(81, mgx20223), (89, mgx497), (90, .inr (.inl (0, 240, [], []))), (92, .inr (.inl (0, 8, [], []))), (93, .inr (.inl (0, 8, [], []))), (94, mgx5049)]
def mgn1422_507 : Nat × aw_S := (46, [(0, .inl 81), (1, .inr (false, [(0, 3)])), (2, .inr (false, [(0, 0)]))], [], mgh20224)
def mgx20225 : aw_A := ms_o [(0, 8)] [(0, 4)] ar_t32 ar_t32 [(0, 180)] [(59, 59)] [(-1, 60)] [(0, 8)] [(0, 0)]
def mgh20226 : aw_H := [(81, mgx20225), (89, mgx497), (90, .inr (.inl (0, 240, [], []))), (92, .inr (.inl (0, 8, [], []))), (93, .inr (.inl (0, 8, [], []))), (94, mgx5049)]
def mgn1422_508 : Nat × aw_S := (46, [(0, .inl 81), (1, .inr (false, [(0, 3)])), (2, .inr (false, [(0, 0)]))], [], mgh20226)
theorem mgk1422_0 : ai_go [mgc80, mgc81, mgc82, mgc83, mgc84, mgc85, mgc86, mgc87, mgc88, mgc89, mgc90, mgc91, mgc92, mgc93, mgc94, mgc95, mgc96, mgc97, mgc98, mgc99, mgc100, mgc101, mgc102, mgc103, mgc104, mgc105, mgc106, mgc107, mgc108, mgc109, mgc110, mgc111, mgc112, mgc113, mgc114, mgc115, mgc116, mgc117, mgc118, mgc119, mgc120, mgc121, mgc122, mgc123, mgc124, mgc125, mgc126, mgc127, mgc128, mgc129, mgc130, mgc131, mgc132, mgc133, mgc134, mgc135, mgc136, mgc137, mgc138, mgc139, mgc140] mgc1422 mgb1422 [81, 92, 93, 94] 0 [46] [] [mgn1422_2, mgn1422_505, mgn1422_506, mgn1422_476, mgn1422_472, mgn1422_473, mgn1422_494, mgn1422_423, mgn1422_419, mgn1422_416, mgn1422_469, mgn1422_414, mgn1422_418, mgn1422_393, mgn1422_389, mgn1422_387, mgn1422_358, mgn1422_327, mgn1422_332, mgn1422_383, mgn1422_356, mgn1422_326, mgn1422_213, mgn1422_208, mgn1422_207, mgn1422_323, mgn1422_197, mgn1422_199, mgn1422_203, mgn1422_184, mgn1422_174, mgn1422_192, mgn1422_175, mgn1422_182, mgn1422_166, mgn1422_170, mgn1422_165, mgn1422_172, mgn1422_126, mgn1422_120, mgn1422_110, mgn1422_163, mgn1422_121, mgn1422_108, mgn1422_101, mgn1422_85, mgn1422_57, mgn1422_103, mgn1422_36, mgn1422_81, mgn1422_39, mgn1422_20, mgn1422_34, mgn1422_9, mgn1422_8, mgn1422_10, mgn1422_11, mgn1422_4, mgn1422_1, mgn1422_3, mgn1422_5, mgn1422_7, mgn1422_6, mgn1422_102, mgn1422_80, mgn1422_21, mgn1422_22, mgn1422_33, mgn1422_24, mgn1422_38, mgn1422_35, mgn1422_40, mgn1422_84, mgn1422_83, mgn1422_104, mgn1422_105, mgn1422_106, mgn1422_107, mgn1422_109, mgn1422_122, mgn1422_164, mgn1422_169, mgn1422_168, mgn1422_230, mgn1422_176, mgn1422_181, mgn1422_188, mgn1422_180, mgn1422_185, mgn1422_183, mgn1422_193, mgn1422_194, mgn1422_195, mgn1422_212, mgn1422_204, mgn1422_214, mgn1422_324, mgn1422_360, mgn1422_330, mgn1422_325, mgn1422_328, mgn1422_357, mgn1422_415, mgn1422_385, mgn1422_386, mgn1422_417, mgn1422_388, mgn1422_391, mgn1422_396, mgn1422_420, mgn1422_421, mgn1422_492, mgn1422_491, mgn1422_490, mgn1422_493, mgn1422_498, mgn1422_499, mgn1422_497, mgn1422_500, mgn1422_508, mgn1422_507] 2000 true mgn1422_0.1 mgn1422_0.2 = true := by decide +kernel
theorem mgk1422_1 : ai_go [mgc76, mgc157, mgc158, mgc159] mgc1422 mgb1422 [81, 92, 93, 94] 0 [46] [] [mgn1422_80, mgn1422_21, mgn1422_505, mgn1422_506, mgn1422_476, mgn1422_472, mgn1422_473, mgn1422_494, mgn1422_423, mgn1422_419, mgn1422_416, mgn1422_469, mgn1422_414, mgn1422_418, mgn1422_393, mgn1422_389, mgn1422_387, mgn1422_358, mgn1422_327, mgn1422_332, mgn1422_383, mgn1422_356, mgn1422_326, mgn1422_213, mgn1422_208, mgn1422_207, mgn1422_323, mgn1422_197, mgn1422_199, mgn1422_203, mgn1422_184, mgn1422_174, mgn1422_192, mgn1422_175, mgn1422_182, mgn1422_166, mgn1422_170, mgn1422_165, mgn1422_172, mgn1422_126, mgn1422_120, mgn1422_110, mgn1422_163, mgn1422_121, mgn1422_108, mgn1422_101, mgn1422_85, mgn1422_57, mgn1422_103, mgn1422_36, mgn1422_81, mgn1422_39, mgn1422_20, mgn1422_34, mgn1422_9, mgn1422_8, mgn1422_22, mgn1422_102] 2000 true mgn1422_1.1 mgn1422_1.2 = true := by decide +kernel
theorem mgk1422_2 : ai_go [] mgc1422 mgb1422 [81, 92, 93, 94] 0 [46] [] [] 2000 true mgn1422_2.1 mgn1422_2.2 = true := by decide +kernel
theorem mgk1422_3 : ai_go [mgc77, mgc152, mgc153, mgc154] mgc1422 mgb1422 [81, 92, 93, 94] 0 [46] [] [mgn1422_102, mgn1422_80, mgn1422_505, mgn1422_506, mgn1422_476, mgn1422_472, mgn1422_473, mgn1422_494, mgn1422_423, mgn1422_419, mgn1422_416, mgn1422_469, mgn1422_414, mgn1422_418, mgn1422_393, mgn1422_389, mgn1422_387, mgn1422_358, mgn1422_327, mgn1422_332, mgn1422_383, mgn1422_356, mgn1422_326, mgn1422_213, mgn1422_208, mgn1422_207, mgn1422_323, mgn1422_197, mgn1422_199, mgn1422_203, mgn1422_184, mgn1422_174, mgn1422_192, mgn1422_175, mgn1422_182, mgn1422_166, mgn1422_170, mgn1422_165, mgn1422_172, mgn1422_126, mgn1422_120, mgn1422_110, mgn1422_163, mgn1422_121, mgn1422_108, mgn1422_101, mgn1422_85, mgn1422_57, mgn1422_103, mgn1422_36, mgn1422_81, mgn1422_39, mgn1422_20, mgn1422_34, mgn1422_9, mgn1422_8, mgn1422_10, mgn1422_21, mgn1422_6] 2000 true mgn1422_3.1 mgn1422_3.2 = true := by decide +kernel
theorem mgk1422_4 : ai_go [mgc75, mgc162, mgc163, mgc164] mgc1422 mgb1422 [81, 92, 93, 94] 0 [46] [] [mgn1422_21, mgn1422_22, mgn1422_505, mgn1422_506, mgn1422_476, mgn1422_472, mgn1422_473, mgn1422_494, mgn1422_423, mgn1422_419, mgn1422_416, mgn1422_469, mgn1422_414, mgn1422_418, mgn1422_393, mgn1422_389, mgn1422_387, mgn1422_358, mgn1422_327, mgn1422_332, mgn1422_383, mgn1422_356, mgn1422_326, mgn1422_213, mgn1422_208, mgn1422_207, mgn1422_323, mgn1422_197, mgn1422_199, mgn1422_203, mgn1422_184, mgn1422_174, mgn1422_192, mgn1422_175, mgn1422_182, mgn1422_166, mgn1422_170, mgn1422_165, mgn1422_172, mgn1422_126, mgn1422_120, mgn1422_110, mgn1422_163, mgn1422_121, mgn1422_108, mgn1422_101, mgn1422_85, mgn1422_57, mgn1422_103, mgn1422_36, mgn1422_81, mgn1422_39, mgn1422_20, mgn1422_34, mgn1422_9, mgn1422_33, mgn1422_80] 2000 true mgn1422_4.1 mgn1422_4.2 = true := by decide +kernel
theorem mgk1422_5 : ai_go [mgc78, mgc146, mgc147, mgc149] mgc1422 mgb1422 [81, 92, 93, 94] 0 [46] [] [mgn1422_6, mgn1422_102, mgn1422_505, mgn1422_506, mgn1422_476, mgn1422_472, mgn1422_473, mgn1422_494, mgn1422_423, mgn1422_419, mgn1422_416, mgn1422_469, mgn1422_414, mgn1422_418, mgn1422_393, mgn1422_389, mgn1422_387, mgn1422_358, mgn1422_327, mgn1422_332, mgn1422_383, mgn1422_356, mgn1422_326, mgn1422_213, mgn1422_208, mgn1422_207, mgn1422_323, mgn1422_197, mgn1422_199, mgn1422_203, mgn1422_184, mgn1422_174, mgn1422_192, mgn1422_175, mgn1422_182, mgn1422_166, mgn1422_170, mgn1422_165, mgn1422_172, mgn1422_126, mgn1422_120, mgn1422_110, mgn1422_163, mgn1422_121, mgn1422_108, mgn1422_101, mgn1422_85, mgn1422_57, mgn1422_103, mgn1422_36, mgn1422_81, mgn1422_39, mgn1422_20, mgn1422_34, mgn1422_9, mgn1422_8, mgn1422_10, mgn1422_11, mgn1422_80, mgn1422_7] 2000 true mgn1422_5.1 mgn1422_5.2 = true := by decide +kernel
theorem mgk1422_6 : ai_go [] mgc1422 mgb1422 [81, 92, 93, 94] 0 [46] [] [] 2000 true mgn1422_6.1 mgn1422_6.2 = true := by decide +kernel
theorem mgk1422_7 : ai_go [] mgc1422 mgb1422 [81, 92, 93, 94] 0 [46] [] [] 2000 true mgn1422_7.1 mgn1422_7.2 = true := by decide +kernel
theorem mgk1422_8 : ai_go [mgc72, mgc185, mgc186, mgc189, mgc190] mgc1422 mgb1422 [81, 92, 93, 94] 0 [46] [] [mgn1422_24, mgn1422_38, mgn1422_505, mgn1422_506, mgn1422_476, mgn1422_472, mgn1422_473, mgn1422_494, mgn1422_423, mgn1422_419, mgn1422_416, mgn1422_469, mgn1422_414, mgn1422_418, mgn1422_393, mgn1422_389, mgn1422_387, mgn1422_358, mgn1422_327, mgn1422_332, mgn1422_383, mgn1422_356, mgn1422_326, mgn1422_213, mgn1422_208, mgn1422_207, mgn1422_323, mgn1422_197, mgn1422_199, mgn1422_203, mgn1422_184, mgn1422_174, mgn1422_192, mgn1422_175, mgn1422_182, mgn1422_166, mgn1422_170, mgn1422_165, mgn1422_172, mgn1422_126, mgn1422_120, mgn1422_110, mgn1422_163, mgn1422_121, mgn1422_108, mgn1422_101, mgn1422_85, mgn1422_57, mgn1422_103, mgn1422_36, mgn1422_81, mgn1422_39, mgn1422_35, mgn1422_496, mgn1422_495, mgn1422_501, mgn1422_474, mgn1422_470, mgn1422_471, mgn1422_477, mgn1422_422, mgn1422_424, mgn1422_394, mgn1422_390, mgn1422_392, mgn1422_397, mgn1422_427, mgn1422_384, mgn1422_399, mgn1422_359, mgn1422_331, mgn1422_361, mgn1422_329, mgn1422_333, mgn1422_334, mgn1422_206, mgn1422_205, mgn1422_209, mgn1422_198, mgn1422_231, mgn1422_196, mgn1422_200, mgn1422_186, mgn1422_178, mgn1422_173, mgn1422_177, mgn1422_189, mgn1422_167, mgn1422_235, mgn1422_171, mgn1422_215, mgn1422_123, mgn1422_124, mgn1422_119, mgn1422_127, mgn1422_129, mgn1422_111, mgn1422_82, mgn1422_86, mgn1422_41, mgn1422_37, mgn1422_58, mgn1422_23, mgn1422_42, mgn1422_33] 2000 true mgn1422_8.1 mgn1422_8.2 = true := by decide +kernel
theorem mgk1422_9 : ai_go [mgc71, mgc193, mgc194, mgc197, mgc198] mgc1422 mgb1422 [81, 92, 93, 94] 0 [46] [] [mgn1422_38, mgn1422_35, mgn1422_505, mgn1422_506, mgn1422_476, mgn1422_472, mgn1422_473, mgn1422_494, mgn1422_423, mgn1422_419, mgn1422_416, mgn1422_469, mgn1422_414, mgn1422_418, mgn1422_393, mgn1422_389, mgn1422_387, mgn1422_358, mgn1422_327, mgn1422_332, mgn1422_383, mgn1422_356, mgn1422_326, mgn1422_213, mgn1422_208, mgn1422_207, mgn1422_323, mgn1422_197, mgn1422_199, mgn1422_203, mgn1422_184, mgn1422_174, mgn1422_192, mgn1422_175, mgn1422_182, mgn1422_166, mgn1422_170, mgn1422_165, mgn1422_172, mgn1422_126, mgn1422_120, mgn1422_110, mgn1422_163, mgn1422_121, mgn1422_108, mgn1422_101, mgn1422_85, mgn1422_57, mgn1422_103, mgn1422_36, mgn1422_81, mgn1422_40, mgn1422_496, mgn1422_495, mgn1422_501, mgn1422_474, mgn1422_470, mgn1422_471, mgn1422_477, mgn1422_422, mgn1422_424, mgn1422_394, mgn1422_390, mgn1422_392, mgn1422_397, mgn1422_427, mgn1422_384, mgn1422_399, mgn1422_359, mgn1422_331, mgn1422_361, mgn1422_329, mgn1422_333, mgn1422_334, mgn1422_206, mgn1422_205, mgn1422_209, mgn1422_198, mgn1422_231, mgn1422_196, mgn1422_200, mgn1422_186, mgn1422_178, mgn1422_173, mgn1422_177, mgn1422_189, mgn1422_167, mgn1422_235, mgn1422_171, mgn1422_215, mgn1422_123, mgn1422_124, mgn1422_119, mgn1422_127, mgn1422_129, mgn1422_111, mgn1422_82, mgn1422_86, mgn1422_41, mgn1422_37, mgn1422_58, mgn1422_23, mgn1422_24] 2000 true mgn1422_9.1 mgn1422_9.2 = true := by decide +kernel
theorem mgk1422_10 : ai_go [mgc73, mgc177, mgc178, mgc181, mgc182] mgc1422 mgb1422 [81, 92, 93, 94] 0 [46] [] [mgn1422_33, mgn1422_24, mgn1422_505, mgn1422_506, mgn1422_476, mgn1422_472, mgn1422_473, mgn1422_494, mgn1422_423, mgn1422_419, mgn1422_416, mgn1422_469, mgn1422_414, mgn1422_418, mgn1422_393, mgn1422_389, mgn1422_387, mgn1422_358, mgn1422_327, mgn1422_332, mgn1422_383, mgn1422_356, mgn1422_326, mgn1422_213, mgn1422_208, mgn1422_207, mgn1422_323, mgn1422_197, mgn1422_199, mgn1422_203, mgn1422_184, mgn1422_174, mgn1422_192, mgn1422_175, mgn1422_182, mgn1422_166, mgn1422_170, mgn1422_165, mgn1422_172, mgn1422_126, mgn1422_120, mgn1422_110, mgn1422_163, mgn1422_121, mgn1422_108, mgn1422_101, mgn1422_85, mgn1422_57, mgn1422_103, mgn1422_36, mgn1422_81, mgn1422_39, mgn1422_20, mgn1422_38, mgn1422_496, mgn1422_495, mgn1422_501, mgn1422_474, mgn1422_470, mgn1422_471, mgn1422_477, mgn1422_422, mgn1422_424, mgn1422_394, mgn1422_390, mgn1422_392, mgn1422_397, mgn1422_427, mgn1422_384, mgn1422_399, mgn1422_359, mgn1422_331, mgn1422_361, mgn1422_329, mgn1422_333, mgn1422_334, mgn1422_206, mgn1422_205, mgn1422_209, mgn1422_198, mgn1422_231, mgn1422_196, mgn1422_200, mgn1422_186, mgn1422_178, mgn1422_173, mgn1422_177, mgn1422_189, mgn1422_167, mgn1422_235, mgn1422_171, mgn1422_215, mgn1422_123, mgn1422_124, mgn1422_119, mgn1422_127, mgn1422_129, mgn1422_111, mgn1422_82, mgn1422_86, mgn1422_41, mgn1422_37, mgn1422_58, mgn1422_23, mgn1422_42, mgn1422_25, mgn1422_22] 2000 true mgn1422_10.1 mgn1422_10.2 = true := by decide +kernel
theorem mgk1422_11 : ai_go [mgc74, mgc169, mgc170, mgc173, mgc174] mgc1422 mgb1422 [81, 92, 93, 94] 0 [46] [] [mgn1422_22, mgn1422_33, mgn1422_505, mgn1422_506, mgn1422_476, mgn1422_472, mgn1422_473, mgn1422_494, mgn1422_423, mgn1422_419, mgn1422_416, mgn1422_469, mgn1422_414, mgn1422_418, mgn1422_393, mgn1422_389, mgn1422_387, mgn1422_358, mgn1422_327, mgn1422_332, mgn1422_383, mgn1422_356, mgn1422_326, mgn1422_213, mgn1422_208, mgn1422_207, mgn1422_323, mgn1422_197, mgn1422_199, mgn1422_203, mgn1422_184, mgn1422_174, mgn1422_192, mgn1422_175, mgn1422_182, mgn1422_166, mgn1422_170, mgn1422_165, mgn1422_172, mgn1422_126, mgn1422_120, mgn1422_110, mgn1422_163, mgn1422_121, mgn1422_108, mgn1422_101, mgn1422_85, mgn1422_57, mgn1422_103, mgn1422_36, mgn1422_81, mgn1422_39, mgn1422_20, mgn1422_34, mgn1422_24, mgn1422_496, mgn1422_495, mgn1422_501, mgn1422_474, mgn1422_470, mgn1422_471, mgn1422_477, mgn1422_422, mgn1422_424, mgn1422_394, mgn1422_390, mgn1422_392, mgn1422_397, mgn1422_427, mgn1422_384, mgn1422_399, mgn1422_359, mgn1422_331, mgn1422_361, mgn1422_329, mgn1422_333, mgn1422_334, mgn1422_206, mgn1422_205, mgn1422_209, mgn1422_198, mgn1422_231, mgn1422_196, mgn1422_200, mgn1422_186, mgn1422_178, mgn1422_173, mgn1422_177, mgn1422_189, mgn1422_167, mgn1422_235, mgn1422_171, mgn1422_215, mgn1422_123, mgn1422_124, mgn1422_119, mgn1422_127, mgn1422_129, mgn1422_111, mgn1422_82, mgn1422_86, mgn1422_41, mgn1422_37, mgn1422_58, mgn1422_23, mgn1422_42, mgn1422_25, mgn1422_12, mgn1422_21] 2000 true mgn1422_11.1 mgn1422_11.2 = true := by decide +kernel
theorem mgk1422_12 : ai_go [mgc71, mgc199, mgc202, mgc203] mgc1422 mgb1422 [81, 92, 93, 94] 0 [46] [] [mgn1422_19, mgn1422_32, mgn1422_44, mgn1422_487, mgn1422_480, mgn1422_478, mgn1422_482, mgn1422_428, mgn1422_430, mgn1422_434, mgn1422_436, mgn1422_433, mgn1422_432, mgn1422_441, mgn1422_401, mgn1422_403, mgn1422_377, mgn1422_365, mgn1422_366, mgn1422_349, mgn1422_342, mgn1422_335, mgn1422_240, mgn1422_311, mgn1422_267, mgn1422_239, mgn1422_238, mgn1422_245, mgn1422_242, mgn1422_243, mgn1422_241, mgn1422_269, mgn1422_271, mgn1422_255, mgn1422_256, mgn1422_249, mgn1422_222, mgn1422_216, mgn1422_145, mgn1422_131, mgn1422_146, mgn1422_139, mgn1422_133, mgn1422_112, mgn1422_93, mgn1422_87, mgn1422_61, mgn1422_69, mgn1422_63, mgn1422_51, mgn1422_45, mgn1422_26, mgn1422_13] 2000 true mgn1422_12.1 mgn1422_12.2 = true := by decide +kernel
theorem mgk1422_13 : ai_go [mgc68, mgc245, mgc248, mgc249] mgc1422 mgb1422 [81, 92, 93, 94] 0 [46] [] [mgn1422_18, mgn1422_31, mgn1422_46, mgn1422_485, mgn1422_445, mgn1422_465, mgn1422_446, mgn1422_443, mgn1422_442, mgn1422_449, mgn1422_452, mgn1422_405, mgn1422_406, mgn1422_378, mgn1422_369, mgn1422_370, mgn1422_351, mgn1422_344, mgn1422_336, mgn1422_317, mgn1422_313, mgn1422_303, mgn1422_304, mgn1422_299, mgn1422_276, mgn1422_275, mgn1422_273, mgn1422_278, mgn1422_274, mgn1422_283, mgn1422_257, mgn1422_259, mgn1422_251, mgn1422_223, mgn1422_218, mgn1422_154, mgn1422_155, mgn1422_148, mgn1422_140, mgn1422_134, mgn1422_114, mgn1422_94, mgn1422_88, mgn1422_71, mgn1422_73, mgn1422_65, mgn1422_52, mgn1422_47, mgn1422_27, mgn1422_14] 2000 true mgn1422_13.1 mgn1422_13.2 = true := by decide +kernel
theorem mgk1422_14 : ai_go [mgc65, mgc306, mgc309, mgc310] mgc1422 mgb1422 [81, 92, 93, 94] 0 [46] [] [mgn1422_17, mgn1422_30, mgn1422_48, mgn1422_453, mgn1422_463, mgn1422_457, mgn1422_454, mgn1422_461, mgn1422_408, mgn1422_411, mgn1422_379, mgn1422_374, mgn1422_371, mgn1422_352, mgn1422_345, mgn1422_337, mgn1422_318, mgn1422_314, mgn1422_309, mgn1422_307, mgn1422_300, mgn1422_291, mgn1422_293, mgn1422_284, mgn1422_289, mgn1422_286, mgn1422_296, mgn1422_262, mgn1422_260, mgn1422_252, mgn1422_224, mgn1422_220, mgn1422_160, mgn1422_158, mgn1422_149, mgn1422_141, mgn1422_135, mgn1422_115, mgn1422_96, mgn1422_89, mgn1422_78, mgn1422_75, mgn1422_66, mgn1422_53, mgn1422_49, mgn1422_28, mgn1422_15] 2000 true mgn1422_14.1 mgn1422_14.2 = true := by decide +kernel
theorem mgk1422_15 : ai_go [mgc62, mgc382, mgc383] mgc1422 mgb1422 [81, 92, 93, 94] 0 [46] [] [mgn1422_16] 2000 true mgn1422_15.1 mgn1422_15.2 = true := by decide +kernel
theorem mgk1422_16 : ai_go [] mgc1422 mgb1422 [81, 92, 93, 94] 0 [46] [] [] 2000 true mgn1422_16.1 mgn1422_16.2 = true := by decide +kernel
theorem mgk1422_17 : ai_go [] mgc1422 mgb1422 [81, 92, 93, 94] 0 [46] [] [] 2000 true mgn1422_17.1 mgn1422_17.2 = true := by decide +kernel
theorem mgk1422_18 : ai_go [] mgc1422 mgb1422 [81, 92, 93, 94] 0 [46] [] [] 2000 true mgn1422_18.1 mgn1422_18.2 = true := by decide +kernel
theorem mgk1422_19 : ai_go [] mgc1422 mgb1422 [81, 92, 93, 94] 0 [46] [] [] 2000 true mgn1422_19.1 mgn1422_19.2 = true := by decide +kernel
theorem mgk1422_20 : ai_go [mgc69, mgc221, mgc222, mgc225, mgc226] mgc1422 mgb1422 [81, 92, 93, 94] 0 [46] [] [mgn1422_40, mgn1422_84, mgn1422_505, mgn1422_506, mgn1422_476, mgn1422_472, mgn1422_473, mgn1422_494, mgn1422_423, mgn1422_419, mgn1422_416, mgn1422_469, mgn1422_414, mgn1422_418, mgn1422_393, mgn1422_389, mgn1422_387, mgn1422_358, mgn1422_327, mgn1422_332, mgn1422_383, mgn1422_356, mgn1422_326, mgn1422_213, mgn1422_208, mgn1422_207, mgn1422_323, mgn1422_197, mgn1422_199, mgn1422_203, mgn1422_184, mgn1422_174, mgn1422_192, mgn1422_175, mgn1422_182, mgn1422_166, mgn1422_170, mgn1422_165, mgn1422_172, mgn1422_126, mgn1422_120, mgn1422_110, mgn1422_163, mgn1422_121, mgn1422_108, mgn1422_101, mgn1422_85, mgn1422_57, mgn1422_103, mgn1422_83, mgn1422_496, mgn1422_495, mgn1422_501, mgn1422_474, mgn1422_470, mgn1422_471, mgn1422_477, mgn1422_422, mgn1422_424, mgn1422_394, mgn1422_390, mgn1422_392, mgn1422_397, mgn1422_427, mgn1422_384, mgn1422_399, mgn1422_359, mgn1422_331, mgn1422_361, mgn1422_329, mgn1422_333, mgn1422_334, mgn1422_206, mgn1422_205, mgn1422_209, mgn1422_198, mgn1422_231, mgn1422_196, mgn1422_200, mgn1422_186, mgn1422_178, mgn1422_173, mgn1422_177, mgn1422_189, mgn1422_167, mgn1422_235, mgn1422_171, mgn1422_215, mgn1422_123, mgn1422_124, mgn1422_119, mgn1422_127, mgn1422_129, mgn1422_111, mgn1422_82, mgn1422_86, mgn1422_41, mgn1422_37, mgn1422_35] 2000 true mgn1422_20.1 mgn1422_20.2 = true := by decide +kernel
theorem mgk1422_21 : ai_go [] mgc1422 mgb1422 [81, 92, 93, 94] 0 [46] [] [] 2000 true mgn1422_21.1 mgn1422_21.2 = true := by decide +kernel
theorem mgk1422_22 : ai_go [] mgc1422 mgb1422 [81, 92, 93, 94] 0 [46] [] [] 2000 true mgn1422_22.1 mgn1422_22.2 = true := by decide +kernel
theorem mgk1422_23 : ai_go [mgc68, mgc240, mgc243, mgc244] mgc1422 mgb1422 [81, 92, 93, 94] 0 [46] [] [mgn1422_43, mgn1422_60, mgn1422_62, mgn1422_487, mgn1422_480, mgn1422_478, mgn1422_482, mgn1422_428, mgn1422_430, mgn1422_434, mgn1422_436, mgn1422_433, mgn1422_432, mgn1422_441, mgn1422_401, mgn1422_403, mgn1422_377, mgn1422_365, mgn1422_366, mgn1422_349, mgn1422_342, mgn1422_335, mgn1422_240, mgn1422_311, mgn1422_267, mgn1422_239, mgn1422_238, mgn1422_245, mgn1422_242, mgn1422_243, mgn1422_241, mgn1422_269, mgn1422_271, mgn1422_255, mgn1422_256, mgn1422_249, mgn1422_222, mgn1422_216, mgn1422_145, mgn1422_131, mgn1422_146, mgn1422_139, mgn1422_133, mgn1422_112, mgn1422_93, mgn1422_87, mgn1422_61, mgn1422_69, mgn1422_63, mgn1422_51] 2000 true mgn1422_23.1 mgn1422_23.2 = true := by decide +kernel
theorem mgk1422_24 : ai_go [] mgc1422 mgb1422 [81, 92, 93, 94] 0 [46] [] [] 2000 true mgn1422_24.1 mgn1422_24.2 = true := by decide +kernel
theorem mgk1422_25 : ai_go [mgc70, mgc214, mgc217, mgc218] mgc1422 mgb1422 [81, 92, 93, 94] 0 [46] [] [mgn1422_32, mgn1422_44, mgn1422_43, mgn1422_487, mgn1422_480, mgn1422_478, mgn1422_482, mgn1422_428, mgn1422_430, mgn1422_434, mgn1422_436, mgn1422_433, mgn1422_432, mgn1422_441, mgn1422_401, mgn1422_403, mgn1422_377, mgn1422_365, mgn1422_366, mgn1422_349, mgn1422_342, mgn1422_335, mgn1422_240, mgn1422_311, mgn1422_267, mgn1422_239, mgn1422_238, mgn1422_245, mgn1422_242, mgn1422_243, mgn1422_241, mgn1422_269, mgn1422_271, mgn1422_255, mgn1422_256, mgn1422_249, mgn1422_222, mgn1422_216, mgn1422_145, mgn1422_131, mgn1422_146, mgn1422_139, mgn1422_133, mgn1422_112, mgn1422_93, mgn1422_87, mgn1422_61, mgn1422_69, mgn1422_63, mgn1422_51, mgn1422_45, mgn1422_26] 2000 true mgn1422_25.1 mgn1422_25.2 = true := by decide +kernel
theorem mgk1422_26 : ai_go [mgc67, mgc263, mgc266, mgc267] mgc1422 mgb1422 [81, 92, 93, 94] 0 [46] [] [mgn1422_31, mgn1422_46, mgn1422_56, mgn1422_485, mgn1422_445, mgn1422_465, mgn1422_446, mgn1422_443, mgn1422_442, mgn1422_449, mgn1422_452, mgn1422_405, mgn1422_406, mgn1422_378, mgn1422_369, mgn1422_370, mgn1422_351, mgn1422_344, mgn1422_336, mgn1422_317, mgn1422_313, mgn1422_303, mgn1422_304, mgn1422_299, mgn1422_276, mgn1422_275, mgn1422_273, mgn1422_278, mgn1422_274, mgn1422_283, mgn1422_257, mgn1422_259, mgn1422_251, mgn1422_223, mgn1422_218, mgn1422_154, mgn1422_155, mgn1422_148, mgn1422_140, mgn1422_134, mgn1422_114, mgn1422_94, mgn1422_88, mgn1422_71, mgn1422_73, mgn1422_65, mgn1422_52, mgn1422_47, mgn1422_27] 2000 true mgn1422_26.1 mgn1422_26.2 = true := by decide +kernel
theorem mgk1422_27 : ai_go [mgc64, mgc329, mgc332, mgc333] mgc1422 mgb1422 [81, 92, 93, 94] 0 [46] [] [mgn1422_30, mgn1422_48, mgn1422_55, mgn1422_453, mgn1422_463, mgn1422_457, mgn1422_454, mgn1422_461, mgn1422_408, mgn1422_411, mgn1422_379, mgn1422_374, mgn1422_371, mgn1422_352, mgn1422_345, mgn1422_337, mgn1422_318, mgn1422_314, mgn1422_309, mgn1422_307, mgn1422_300, mgn1422_291, mgn1422_293, mgn1422_284, mgn1422_289, mgn1422_286, mgn1422_296, mgn1422_262, mgn1422_260, mgn1422_252, mgn1422_224, mgn1422_220, mgn1422_160, mgn1422_158, mgn1422_149, mgn1422_141, mgn1422_135, mgn1422_115, mgn1422_96, mgn1422_89, mgn1422_78, mgn1422_75, mgn1422_66, mgn1422_53, mgn1422_49, mgn1422_28] 2000 true mgn1422_27.1 mgn1422_27.2 = true := by decide +kernel
theorem mgk1422_28 : ai_go [mgc61, mgc407, mgc408] mgc1422 mgb1422 [81, 92, 93, 94] 0 [46] [] [mgn1422_29] 2000 true mgn1422_28.1 mgn1422_28.2 = true := by decide +kernel
theorem mgk1422_29 : ai_go [] mgc1422 mgb1422 [81, 92, 93, 94] 0 [46] [] [] 2000 true mgn1422_29.1 mgn1422_29.2 = true := by decide +kernel
theorem mgk1422_30 : ai_go [] mgc1422 mgb1422 [81, 92, 93, 94] 0 [46] [] [] 2000 true mgn1422_30.1 mgn1422_30.2 = true := by decide +kernel
theorem mgk1422_31 : ai_go [] mgc1422 mgb1422 [81, 92, 93, 94] 0 [46] [] [] 2000 true mgn1422_31.1 mgn1422_31.2 = true := by decide +kernel
theorem mgk1422_32 : ai_go [] mgc1422 mgb1422 [81, 92, 93, 94] 0 [46] [] [] 2000 true mgn1422_32.1 mgn1422_32.2 = true := by decide +kernel
theorem mgk1422_33 : ai_go [] mgc1422 mgb1422 [81, 92, 93, 94] 0 [46] [] [] 2000 true mgn1422_33.1 mgn1422_33.2 = true := by decide +kernel
theorem mgk1422_34 : ai_go [mgc70, mgc208, mgc209, mgc212, mgc213] mgc1422 mgb1422 [81, 92, 93, 94] 0 [46] [] [mgn1422_35, mgn1422_40, mgn1422_505, mgn1422_506, mgn1422_476, mgn1422_472, mgn1422_473, mgn1422_494, mgn1422_423, mgn1422_419, mgn1422_416, mgn1422_469, mgn1422_414, mgn1422_418, mgn1422_393, mgn1422_389, mgn1422_387, mgn1422_358, mgn1422_327, mgn1422_332, mgn1422_383, mgn1422_356, mgn1422_326, mgn1422_213, mgn1422_208, mgn1422_207, mgn1422_323, mgn1422_197, mgn1422_199, mgn1422_203, mgn1422_184, mgn1422_174, mgn1422_192, mgn1422_175, mgn1422_182, mgn1422_166, mgn1422_170, mgn1422_165, mgn1422_172, mgn1422_126, mgn1422_120, mgn1422_110, mgn1422_163, mgn1422_121, mgn1422_108, mgn1422_101, mgn1422_85, mgn1422_57, mgn1422_103, mgn1422_36, mgn1422_84, mgn1422_496, mgn1422_495, mgn1422_501, mgn1422_474, mgn1422_470, mgn1422_471, mgn1422_477, mgn1422_422, mgn1422_424, mgn1422_394, mgn1422_390, mgn1422_392, mgn1422_397, mgn1422_427, mgn1422_384, mgn1422_399, mgn1422_359, mgn1422_331, mgn1422_361, mgn1422_329, mgn1422_333, mgn1422_334, mgn1422_206, mgn1422_205, mgn1422_209, mgn1422_198, mgn1422_231, mgn1422_196, mgn1422_200, mgn1422_186, mgn1422_178, mgn1422_173, mgn1422_177, mgn1422_189, mgn1422_167, mgn1422_235, mgn1422_171, mgn1422_215, mgn1422_123, mgn1422_124, mgn1422_119, mgn1422_127, mgn1422_129, mgn1422_111, mgn1422_82, mgn1422_86, mgn1422_41, mgn1422_37, mgn1422_58, mgn1422_38] 2000 true mgn1422_34.1 mgn1422_34.2 = true := by decide +kernel
theorem mgk1422_35 : ai_go [] mgc1422 mgb1422 [81, 92, 93, 94] 0 [46] [] [] 2000 true mgn1422_35.1 mgn1422_35.2 = true := by decide +kernel
theorem mgk1422_36 : ai_go [mgc66, mgc272, mgc273, mgc276, mgc277] mgc1422 mgb1422 [81, 92, 93, 94] 0 [46] [] [mgn1422_104, mgn1422_105, mgn1422_505, mgn1422_506, mgn1422_476, mgn1422_472, mgn1422_473, mgn1422_494, mgn1422_423, mgn1422_419, mgn1422_416, mgn1422_469, mgn1422_414, mgn1422_418, mgn1422_393, mgn1422_389, mgn1422_387, mgn1422_358, mgn1422_327, mgn1422_332, mgn1422_383, mgn1422_356, mgn1422_326, mgn1422_213, mgn1422_208, mgn1422_207, mgn1422_323, mgn1422_197, mgn1422_199, mgn1422_203, mgn1422_184, mgn1422_174, mgn1422_192, mgn1422_175, mgn1422_182, mgn1422_166, mgn1422_170, mgn1422_165, mgn1422_172, mgn1422_126, mgn1422_120, mgn1422_110, mgn1422_163, mgn1422_121, mgn1422_108, mgn1422_101, mgn1422_106, mgn1422_496, mgn1422_495, mgn1422_501, mgn1422_474, mgn1422_470, mgn1422_471, mgn1422_477, mgn1422_422, mgn1422_424, mgn1422_394, mgn1422_390, mgn1422_392, mgn1422_397, mgn1422_427, mgn1422_384, mgn1422_399, mgn1422_359, mgn1422_331, mgn1422_361, mgn1422_329, mgn1422_333, mgn1422_334, mgn1422_206, mgn1422_205, mgn1422_209, mgn1422_198, mgn1422_231, mgn1422_196, mgn1422_200, mgn1422_186, mgn1422_178, mgn1422_173, mgn1422_177, mgn1422_189, mgn1422_167, mgn1422_235, mgn1422_171, mgn1422_215, mgn1422_123, mgn1422_124, mgn1422_119, mgn1422_127, mgn1422_129, mgn1422_111, mgn1422_82, mgn1422_83] 2000 true mgn1422_36.1 mgn1422_36.2 = true := by decide +kernel
theorem mgk1422_37 : ai_go [mgc66, mgc278, mgc281, mgc282] mgc1422 mgb1422 [81, 92, 93, 94] 0 [46] [] [mgn1422_62, mgn1422_59, mgn1422_99, mgn1422_487, mgn1422_480, mgn1422_478, mgn1422_482, mgn1422_428, mgn1422_430, mgn1422_434, mgn1422_436, mgn1422_433, mgn1422_432, mgn1422_441, mgn1422_401, mgn1422_403, mgn1422_377, mgn1422_365, mgn1422_366, mgn1422_349, mgn1422_342, mgn1422_335, mgn1422_240, mgn1422_311, mgn1422_267, mgn1422_239, mgn1422_238, mgn1422_245, mgn1422_242, mgn1422_243, mgn1422_241, mgn1422_269, mgn1422_271, mgn1422_255, mgn1422_256, mgn1422_249, mgn1422_222, mgn1422_216, mgn1422_145, mgn1422_131, mgn1422_146, mgn1422_139, mgn1422_133, mgn1422_112, mgn1422_93, mgn1422_87, mgn1422_61, mgn1422_69] 2000 true mgn1422_37.1 mgn1422_37.2 = true := by decide +kernel
theorem mgk1422_38 : ai_go [] mgc1422 mgb1422 [81, 92, 93, 94] 0 [46] [] [] 2000 true mgn1422_38.1 mgn1422_38.2 = true := by decide +kernel
theorem mgk1422_39 : ai_go [mgc68, mgc234, mgc235, mgc238, mgc239] mgc1422 mgb1422 [81, 92, 93, 94] 0 [46] [] [mgn1422_84, mgn1422_83, mgn1422_505, mgn1422_506, mgn1422_476, mgn1422_472, mgn1422_473, mgn1422_494, mgn1422_423, mgn1422_419, mgn1422_416, mgn1422_469, mgn1422_414, mgn1422_418, mgn1422_393, mgn1422_389, mgn1422_387, mgn1422_358, mgn1422_327, mgn1422_332, mgn1422_383, mgn1422_356, mgn1422_326, mgn1422_213, mgn1422_208, mgn1422_207, mgn1422_323, mgn1422_197, mgn1422_199, mgn1422_203, mgn1422_184, mgn1422_174, mgn1422_192, mgn1422_175, mgn1422_182, mgn1422_166, mgn1422_170, mgn1422_165, mgn1422_172, mgn1422_126, mgn1422_120, mgn1422_110, mgn1422_163, mgn1422_121, mgn1422_108, mgn1422_101, mgn1422_85, mgn1422_57, mgn1422_104, mgn1422_496, mgn1422_495, mgn1422_501, mgn1422_474, mgn1422_470, mgn1422_471, mgn1422_477, mgn1422_422, mgn1422_424, mgn1422_394, mgn1422_390, mgn1422_392, mgn1422_397, mgn1422_427, mgn1422_384, mgn1422_399, mgn1422_359, mgn1422_331, mgn1422_361, mgn1422_329, mgn1422_333, mgn1422_334, mgn1422_206, mgn1422_205, mgn1422_209, mgn1422_198, mgn1422_231, mgn1422_196, mgn1422_200, mgn1422_186, mgn1422_178, mgn1422_173, mgn1422_177, mgn1422_189, mgn1422_167, mgn1422_235, mgn1422_171, mgn1422_215, mgn1422_123, mgn1422_124, mgn1422_119, mgn1422_127, mgn1422_129, mgn1422_111, mgn1422_82, mgn1422_86, mgn1422_41, mgn1422_40] 2000 true mgn1422_39.1 mgn1422_39.2 = true := by decide +kernel
theorem mgk1422_40 : ai_go [] mgc1422 mgb1422 [81, 92, 93, 94] 0 [46] [] [] 2000 true mgn1422_40.1 mgn1422_40.2 = true := by decide +kernel
theorem mgk1422_41 : ai_go [mgc65, mgc296, mgc299, mgc300] mgc1422 mgb1422 [81, 92, 93, 94] 0 [46] [] [mgn1422_59, mgn1422_99, mgn1422_100, mgn1422_487, mgn1422_480, mgn1422_478, mgn1422_482, mgn1422_428, mgn1422_430, mgn1422_434, mgn1422_436, mgn1422_433, mgn1422_432, mgn1422_441, mgn1422_401, mgn1422_403, mgn1422_377, mgn1422_365, mgn1422_366, mgn1422_349, mgn1422_342, mgn1422_335, mgn1422_240, mgn1422_311, mgn1422_267, mgn1422_239, mgn1422_238, mgn1422_245, mgn1422_242, mgn1422_243, mgn1422_241, mgn1422_269, mgn1422_271, mgn1422_255, mgn1422_256, mgn1422_249, mgn1422_222, mgn1422_216, mgn1422_145, mgn1422_131, mgn1422_146, mgn1422_139, mgn1422_133, mgn1422_112, mgn1422_93, mgn1422_87, mgn1422_61] 2000 true mgn1422_41.1 mgn1422_41.2 = true := by decide +kernel
theorem mgk1422_42 : ai_go [mgc69, mgc227, mgc230, mgc231] mgc1422 mgb1422 [81, 92, 93, 94] 0 [46] [] [mgn1422_44, mgn1422_43, mgn1422_60, mgn1422_487, mgn1422_480, mgn1422_478, mgn1422_482, mgn1422_428, mgn1422_430, mgn1422_434, mgn1422_436, mgn1422_433, mgn1422_432, mgn1422_441, mgn1422_401, mgn1422_403, mgn1422_377, mgn1422_365, mgn1422_366, mgn1422_349, mgn1422_342, mgn1422_335, mgn1422_240, mgn1422_311, mgn1422_267, mgn1422_239, mgn1422_238, mgn1422_245, mgn1422_242, mgn1422_243, mgn1422_241, mgn1422_269, mgn1422_271, mgn1422_255, mgn1422_256, mgn1422_249, mgn1422_222, mgn1422_216, mgn1422_145, mgn1422_131, mgn1422_146, mgn1422_139, mgn1422_133, mgn1422_112, mgn1422_93, mgn1422_87, mgn1422_61, mgn1422_69, mgn1422_63, mgn1422_51, mgn1422_45] 2000 true mgn1422_42.1 mgn1422_42.2 = true := by decide +kernel
theorem mgk1422_43 : ai_go [] mgc1422 mgb1422 [81, 92, 93, 94] 0 [46] [] [] 2000 true mgn1422_43.1 mgn1422_43.2 = true := by decide +kernel
theorem mgk1422_44 : ai_go [] mgc1422 mgb1422 [81, 92, 93, 94] 0 [46] [] [] 2000 true mgn1422_44.1 mgn1422_44.2 = true := by decide +kernel
theorem mgk1422_45 : ai_go [mgc66, mgc283, mgc286, mgc287] mgc1422 mgb1422 [81, 92, 93, 94] 0 [46] [] [mgn1422_46, mgn1422_56, mgn1422_64, mgn1422_485, mgn1422_445, mgn1422_465, mgn1422_446, mgn1422_443, mgn1422_442, mgn1422_449, mgn1422_452, mgn1422_405, mgn1422_406, mgn1422_378, mgn1422_369, mgn1422_370, mgn1422_351, mgn1422_344, mgn1422_336, mgn1422_317, mgn1422_313, mgn1422_303, mgn1422_304, mgn1422_299, mgn1422_276, mgn1422_275, mgn1422_273, mgn1422_278, mgn1422_274, mgn1422_283, mgn1422_257, mgn1422_259, mgn1422_251, mgn1422_223, mgn1422_218, mgn1422_154, mgn1422_155, mgn1422_148, mgn1422_140, mgn1422_134, mgn1422_114, mgn1422_94, mgn1422_88, mgn1422_71, mgn1422_73, mgn1422_65, mgn1422_52, mgn1422_47] 2000 true mgn1422_45.1 mgn1422_45.2 = true := by decide +kernel
theorem mgk1422_46 : ai_go [] mgc1422 mgb1422 [81, 92, 93, 94] 0 [46] [] [] 2000 true mgn1422_46.1 mgn1422_46.2 = true := by decide +kernel
theorem mgk1422_47 : ai_go [mgc63, mgc352, mgc355, mgc356] mgc1422 mgb1422 [81, 92, 93, 94] 0 [46] [] [mgn1422_48, mgn1422_55, mgn1422_68, mgn1422_453, mgn1422_463, mgn1422_457, mgn1422_454, mgn1422_461, mgn1422_408, mgn1422_411, mgn1422_379, mgn1422_374, mgn1422_371, mgn1422_352, mgn1422_345, mgn1422_337, mgn1422_318, mgn1422_314, mgn1422_309, mgn1422_307, mgn1422_300, mgn1422_291, mgn1422_293, mgn1422_284, mgn1422_289, mgn1422_286, mgn1422_296, mgn1422_262, mgn1422_260, mgn1422_252, mgn1422_224, mgn1422_220, mgn1422_160, mgn1422_158, mgn1422_149, mgn1422_141, mgn1422_135, mgn1422_115, mgn1422_96, mgn1422_89, mgn1422_78, mgn1422_75, mgn1422_66, mgn1422_53, mgn1422_49] 2000 true mgn1422_47.1 mgn1422_47.2 = true := by decide +kernel
theorem mgk1422_48 : ai_go [] mgc1422 mgb1422 [81, 92, 93, 94] 0 [46] [] [] 2000 true mgn1422_48.1 mgn1422_48.2 = true := by decide +kernel
theorem mgk1422_49 : ai_go [mgc60, mgc432, mgc433] mgc1422 mgb1422 [81, 92, 93, 94] 0 [46] [] [mgn1422_50] 2000 true mgn1422_49.1 mgn1422_49.2 = true := by decide +kernel
theorem mgk1422_50 : ai_go [] mgc1422 mgb1422 [81, 92, 93, 94] 0 [46] [] [] 2000 true mgn1422_50.1 mgn1422_50.2 = true := by decide +kernel
theorem mgk1422_51 : ai_go [mgc65, mgc301, mgc304, mgc305] mgc1422 mgb1422 [81, 92, 93, 94] 0 [46] [] [mgn1422_56, mgn1422_64, mgn1422_70, mgn1422_485, mgn1422_445, mgn1422_465, mgn1422_446, mgn1422_443, mgn1422_442, mgn1422_449, mgn1422_452, mgn1422_405, mgn1422_406, mgn1422_378, mgn1422_369, mgn1422_370, mgn1422_351, mgn1422_344, mgn1422_336, mgn1422_317, mgn1422_313, mgn1422_303, mgn1422_304, mgn1422_299, mgn1422_276, mgn1422_275, mgn1422_273, mgn1422_278, mgn1422_274, mgn1422_283, mgn1422_257, mgn1422_259, mgn1422_251, mgn1422_223, mgn1422_218, mgn1422_154, mgn1422_155, mgn1422_148, mgn1422_140, mgn1422_134, mgn1422_114, mgn1422_94, mgn1422_88, mgn1422_71, mgn1422_73, mgn1422_65, mgn1422_52] 2000 true mgn1422_51.1 mgn1422_51.2 = true := by decide +kernel
theorem mgk1422_52 : ai_go [mgc62, mgc377, mgc380, mgc381] mgc1422 mgb1422 [81, 92, 93, 94] 0 [46] [] [mgn1422_55, mgn1422_68, mgn1422_77, mgn1422_453, mgn1422_463, mgn1422_457, mgn1422_454, mgn1422_461, mgn1422_408, mgn1422_411, mgn1422_379, mgn1422_374, mgn1422_371, mgn1422_352, mgn1422_345, mgn1422_337, mgn1422_318, mgn1422_314, mgn1422_309, mgn1422_307, mgn1422_300, mgn1422_291, mgn1422_293, mgn1422_284, mgn1422_289, mgn1422_286, mgn1422_296, mgn1422_262, mgn1422_260, mgn1422_252, mgn1422_224, mgn1422_220, mgn1422_160, mgn1422_158, mgn1422_149, mgn1422_141, mgn1422_135, mgn1422_115, mgn1422_96, mgn1422_89, mgn1422_78, mgn1422_75, mgn1422_66, mgn1422_53] 2000 true mgn1422_52.1 mgn1422_52.2 = true := by decide +kernel
theorem mgk1422_53 : ai_go [mgc59, mgc457, mgc458] mgc1422 mgb1422 [81, 92, 93, 94] 0 [46] [] [mgn1422_54] 2000 true mgn1422_53.1 mgn1422_53.2 = true := by decide +kernel
theorem mgk1422_54 : ai_go [] mgc1422 mgb1422 [81, 92, 93, 94] 0 [46] [] [] 2000 true mgn1422_54.1 mgn1422_54.2 = true := by decide +kernel
theorem mgk1422_55 : ai_go [] mgc1422 mgb1422 [81, 92, 93, 94] 0 [46] [] [] 2000 true mgn1422_55.1 mgn1422_55.2 = true := by decide +kernel
theorem mgk1422_56 : ai_go [] mgc1422 mgb1422 [81, 92, 93, 94] 0 [46] [] [] 2000 true mgn1422_56.1 mgn1422_56.2 = true := by decide +kernel
theorem mgk1422_57 : ai_go [mgc64, mgc313, mgc314, mgc317, mgc318] mgc1422 mgb1422 [81, 92, 93, 94] 0 [46] [] [mgn1422_106, mgn1422_107, mgn1422_505, mgn1422_506, mgn1422_476, mgn1422_472, mgn1422_473, mgn1422_494, mgn1422_423, mgn1422_419, mgn1422_416, mgn1422_469, mgn1422_414, mgn1422_418, mgn1422_393, mgn1422_389, mgn1422_387, mgn1422_358, mgn1422_327, mgn1422_332, mgn1422_383, mgn1422_356, mgn1422_326, mgn1422_213, mgn1422_208, mgn1422_207, mgn1422_323, mgn1422_197, mgn1422_199, mgn1422_203, mgn1422_184, mgn1422_174, mgn1422_192, mgn1422_175, mgn1422_182, mgn1422_166, mgn1422_170, mgn1422_165, mgn1422_172, mgn1422_126, mgn1422_120, mgn1422_110, mgn1422_163, mgn1422_121, mgn1422_109, mgn1422_496, mgn1422_495, mgn1422_501, mgn1422_474, mgn1422_470, mgn1422_471, mgn1422_477, mgn1422_422, mgn1422_424, mgn1422_394, mgn1422_390, mgn1422_392, mgn1422_397, mgn1422_427, mgn1422_384, mgn1422_399, mgn1422_359, mgn1422_331, mgn1422_361, mgn1422_329, mgn1422_333, mgn1422_334, mgn1422_206, mgn1422_205, mgn1422_209, mgn1422_198, mgn1422_231, mgn1422_196, mgn1422_200, mgn1422_186, mgn1422_178, mgn1422_173, mgn1422_177, mgn1422_189, mgn1422_167, mgn1422_235, mgn1422_171, mgn1422_215, mgn1422_123, mgn1422_124, mgn1422_119, mgn1422_127, mgn1422_129, mgn1422_105] 2000 true mgn1422_57.1 mgn1422_57.2 = true := by decide +kernel
theorem mgk1422_58 : ai_go [mgc67, mgc258, mgc261, mgc262] mgc1422 mgb1422 [81, 92, 93, 94] 0 [46] [] [mgn1422_60, mgn1422_62, mgn1422_59, mgn1422_487, mgn1422_480, mgn1422_478, mgn1422_482, mgn1422_428, mgn1422_430, mgn1422_434, mgn1422_436, mgn1422_433, mgn1422_432, mgn1422_441, mgn1422_401, mgn1422_403, mgn1422_377, mgn1422_365, mgn1422_366, mgn1422_349, mgn1422_342, mgn1422_335, mgn1422_240, mgn1422_311, mgn1422_267, mgn1422_239, mgn1422_238, mgn1422_245, mgn1422_242, mgn1422_243, mgn1422_241, mgn1422_269, mgn1422_271, mgn1422_255, mgn1422_256, mgn1422_249, mgn1422_222, mgn1422_216, mgn1422_145, mgn1422_131, mgn1422_146, mgn1422_139, mgn1422_133, mgn1422_112, mgn1422_93, mgn1422_87, mgn1422_61, mgn1422_69, mgn1422_63] 2000 true mgn1422_58.1 mgn1422_58.2 = true := by decide +kernel
theorem mgk1422_59 : ai_go [] mgc1422 mgb1422 [81, 92, 93, 94] 0 [46] [] [] 2000 true mgn1422_59.1 mgn1422_59.2 = true := by decide +kernel
theorem mgk1422_60 : ai_go [] mgc1422 mgb1422 [81, 92, 93, 94] 0 [46] [] [] 2000 true mgn1422_60.1 mgn1422_60.2 = true := by decide +kernel
theorem mgk1422_61 : ai_go [mgc62, mgc372, mgc375, mgc376] mgc1422 mgb1422 [81, 92, 93, 94] 0 [46] [] [mgn1422_72, mgn1422_92, mgn1422_98, mgn1422_485, mgn1422_445, mgn1422_465, mgn1422_446, mgn1422_443, mgn1422_442, mgn1422_449, mgn1422_452, mgn1422_405, mgn1422_406, mgn1422_378, mgn1422_369, mgn1422_370, mgn1422_351, mgn1422_344, mgn1422_336, mgn1422_317, mgn1422_313, mgn1422_303, mgn1422_304, mgn1422_299, mgn1422_276, mgn1422_275, mgn1422_273, mgn1422_278, mgn1422_274, mgn1422_283, mgn1422_257, mgn1422_259, mgn1422_251, mgn1422_223, mgn1422_218, mgn1422_154, mgn1422_155, mgn1422_148, mgn1422_140, mgn1422_134, mgn1422_114, mgn1422_94, mgn1422_88, mgn1422_71] 2000 true mgn1422_61.1 mgn1422_61.2 = true := by decide +kernel
theorem mgk1422_62 : ai_go [] mgc1422 mgb1422 [81, 92, 93, 94] 0 [46] [] [] 2000 true mgn1422_62.1 mgn1422_62.2 = true := by decide +kernel
theorem mgk1422_63 : ai_go [mgc64, mgc324, mgc327, mgc328] mgc1422 mgb1422 [81, 92, 93, 94] 0 [46] [] [mgn1422_64, mgn1422_70, mgn1422_72, mgn1422_485, mgn1422_445, mgn1422_465, mgn1422_446, mgn1422_443, mgn1422_442, mgn1422_449, mgn1422_452, mgn1422_405, mgn1422_406, mgn1422_378, mgn1422_369, mgn1422_370, mgn1422_351, mgn1422_344, mgn1422_336, mgn1422_317, mgn1422_313, mgn1422_303, mgn1422_304, mgn1422_299, mgn1422_276, mgn1422_275, mgn1422_273, mgn1422_278, mgn1422_274, mgn1422_283, mgn1422_257, mgn1422_259, mgn1422_251, mgn1422_223, mgn1422_218, mgn1422_154, mgn1422_155, mgn1422_148, mgn1422_140, mgn1422_134, mgn1422_114, mgn1422_94, mgn1422_88, mgn1422_71, mgn1422_73, mgn1422_65] 2000 true mgn1422_63.1 mgn1422_63.2 = true := by decide +kernel
theorem mgk1422_64 : ai_go [] mgc1422 mgb1422 [81, 92, 93, 94] 0 [46] [] [] 2000 true mgn1422_64.1 mgn1422_64.2 = true := by decide +kernel
theorem mgk1422_65 : ai_go [mgc61, mgc402, mgc405, mgc406] mgc1422 mgb1422 [81, 92, 93, 94] 0 [46] [] [mgn1422_68, mgn1422_77, mgn1422_74, mgn1422_453, mgn1422_463, mgn1422_457, mgn1422_454, mgn1422_461, mgn1422_408, mgn1422_411, mgn1422_379, mgn1422_374, mgn1422_371, mgn1422_352, mgn1422_345, mgn1422_337, mgn1422_318, mgn1422_314, mgn1422_309, mgn1422_307, mgn1422_300, mgn1422_291, mgn1422_293, mgn1422_284, mgn1422_289, mgn1422_286, mgn1422_296, mgn1422_262, mgn1422_260, mgn1422_252, mgn1422_224, mgn1422_220, mgn1422_160, mgn1422_158, mgn1422_149, mgn1422_141, mgn1422_135, mgn1422_115, mgn1422_96, mgn1422_89, mgn1422_78, mgn1422_75, mgn1422_66] 2000 true mgn1422_65.1 mgn1422_65.2 = true := by decide +kernel
theorem mgk1422_66 : ai_go [mgc58, mgc484, mgc485] mgc1422 mgb1422 [81, 92, 93, 94] 0 [46] [] [mgn1422_67] 2000 true mgn1422_66.1 mgn1422_66.2 = true := by decide +kernel
theorem mgk1422_67 : ai_go [] mgc1422 mgb1422 [81, 92, 93, 94] 0 [46] [] [] 2000 true mgn1422_67.1 mgn1422_67.2 = true := by decide +kernel
theorem mgk1422_68 : ai_go [] mgc1422 mgb1422 [81, 92, 93, 94] 0 [46] [] [] 2000 true mgn1422_68.1 mgn1422_68.2 = true := by decide +kernel
theorem mgk1422_69 : ai_go [mgc63, mgc347, mgc350, mgc351] mgc1422 mgb1422 [81, 92, 93, 94] 0 [46] [] [mgn1422_70, mgn1422_72, mgn1422_92, mgn1422_485, mgn1422_445, mgn1422_465, mgn1422_446, mgn1422_443, mgn1422_442, mgn1422_449, mgn1422_452, mgn1422_405, mgn1422_406, mgn1422_378, mgn1422_369, mgn1422_370, mgn1422_351, mgn1422_344, mgn1422_336, mgn1422_317, mgn1422_313, mgn1422_303, mgn1422_304, mgn1422_299, mgn1422_276, mgn1422_275, mgn1422_273, mgn1422_278, mgn1422_274, mgn1422_283, mgn1422_257, mgn1422_259, mgn1422_251, mgn1422_223, mgn1422_218, mgn1422_154, mgn1422_155, mgn1422_148, mgn1422_140, mgn1422_134, mgn1422_114, mgn1422_94, mgn1422_88, mgn1422_71, mgn1422_73] 2000 true mgn1422_69.1 mgn1422_69.2 = true := by decide +kernel
theorem mgk1422_70 : ai_go [] mgc1422 mgb1422 [81, 92, 93, 94] 0 [46] [] [] 2000 true mgn1422_70.1 mgn1422_70.2 = true := by decide +kernel
theorem mgk1422_71 : ai_go [mgc59, mgc452, mgc455, mgc456] mgc1422 mgb1422 [81, 92, 93, 94] 0 [46] [] [mgn1422_74, mgn1422_91, mgn1422_95, mgn1422_453, mgn1422_463, mgn1422_457, mgn1422_454, mgn1422_461, mgn1422_408, mgn1422_411, mgn1422_379, mgn1422_374, mgn1422_371, mgn1422_352, mgn1422_345, mgn1422_337, mgn1422_318, mgn1422_314, mgn1422_309, mgn1422_307, mgn1422_300, mgn1422_291, mgn1422_293, mgn1422_284, mgn1422_289, mgn1422_286, mgn1422_296, mgn1422_262, mgn1422_260, mgn1422_252, mgn1422_224, mgn1422_220, mgn1422_160, mgn1422_158, mgn1422_149, mgn1422_141, mgn1422_135, mgn1422_115, mgn1422_96, mgn1422_89, mgn1422_78] 2000 true mgn1422_71.1 mgn1422_71.2 = true := by decide +kernel
theorem mgk1422_72 : ai_go [] mgc1422 mgb1422 [81, 92, 93, 94] 0 [46] [] [] 2000 true mgn1422_72.1 mgn1422_72.2 = true := by decide +kernel
theorem mgk1422_73 : ai_go [mgc60, mgc427, mgc430, mgc431] mgc1422 mgb1422 [81, 92, 93, 94] 0 [46] [] [mgn1422_77, mgn1422_74, mgn1422_91, mgn1422_453, mgn1422_463, mgn1422_457, mgn1422_454, mgn1422_461, mgn1422_408, mgn1422_411, mgn1422_379, mgn1422_374, mgn1422_371, mgn1422_352, mgn1422_345, mgn1422_337, mgn1422_318, mgn1422_314, mgn1422_309, mgn1422_307, mgn1422_300, mgn1422_291, mgn1422_293, mgn1422_284, mgn1422_289, mgn1422_286, mgn1422_296, mgn1422_262, mgn1422_260, mgn1422_252, mgn1422_224, mgn1422_220, mgn1422_160, mgn1422_158, mgn1422_149, mgn1422_141, mgn1422_135, mgn1422_115, mgn1422_96, mgn1422_89, mgn1422_78, mgn1422_75] 2000 true mgn1422_73.1 mgn1422_73.2 = true := by decide +kernel
theorem mgk1422_74 : ai_go [] mgc1422 mgb1422 [81, 92, 93, 94] 0 [46] [] [] 2000 true mgn1422_74.1 mgn1422_74.2 = true := by decide +kernel
theorem mgk1422_75 : ai_go [mgc57, mgc509, mgc510] mgc1422 mgb1422 [81, 92, 93, 94] 0 [46] [] [mgn1422_76] 2000 true mgn1422_75.1 mgn1422_75.2 = true := by decide +kernel
theorem mgk1422_76 : ai_go [] mgc1422 mgb1422 [81, 92, 93, 94] 0 [46] [] [] 2000 true mgn1422_76.1 mgn1422_76.2 = true := by decide +kernel
theorem mgk1422_77 : ai_go [] mgc1422 mgb1422 [81, 92, 93, 94] 0 [46] [] [] 2000 true mgn1422_77.1 mgn1422_77.2 = true := by decide +kernel
theorem mgk1422_78 : ai_go [mgc56, mgc534, mgc535] mgc1422 mgb1422 [81, 92, 93, 94] 0 [46] [] [mgn1422_79] 2000 true mgn1422_78.1 mgn1422_78.2 = true := by decide +kernel
theorem mgk1422_79 : ai_go [] mgc1422 mgb1422 [81, 92, 93, 94] 0 [46] [] [] 2000 true mgn1422_79.1 mgn1422_79.2 = true := by decide +kernel
theorem mgk1422_80 : ai_go [] mgc1422 mgb1422 [81, 92, 93, 94] 0 [46] [] [] 2000 true mgn1422_80.1 mgn1422_80.2 = true := by decide +kernel
theorem mgk1422_81 : ai_go [mgc67, mgc252, mgc253, mgc256, mgc257] mgc1422 mgb1422 [81, 92, 93, 94] 0 [46] [] [mgn1422_83, mgn1422_104, mgn1422_505, mgn1422_506, mgn1422_476, mgn1422_472, mgn1422_473, mgn1422_494, mgn1422_423, mgn1422_419, mgn1422_416, mgn1422_469, mgn1422_414, mgn1422_418, mgn1422_393, mgn1422_389, mgn1422_387, mgn1422_358, mgn1422_327, mgn1422_332, mgn1422_383, mgn1422_356, mgn1422_326, mgn1422_213, mgn1422_208, mgn1422_207, mgn1422_323, mgn1422_197, mgn1422_199, mgn1422_203, mgn1422_184, mgn1422_174, mgn1422_192, mgn1422_175, mgn1422_182, mgn1422_166, mgn1422_170, mgn1422_165, mgn1422_172, mgn1422_126, mgn1422_120, mgn1422_110, mgn1422_163, mgn1422_121, mgn1422_108, mgn1422_101, mgn1422_85, mgn1422_105, mgn1422_496, mgn1422_495, mgn1422_501, mgn1422_474, mgn1422_470, mgn1422_471, mgn1422_477, mgn1422_422, mgn1422_424, mgn1422_394, mgn1422_390, mgn1422_392, mgn1422_397, mgn1422_427, mgn1422_384, mgn1422_399, mgn1422_359, mgn1422_331, mgn1422_361, mgn1422_329, mgn1422_333, mgn1422_334, mgn1422_206, mgn1422_205, mgn1422_209, mgn1422_198, mgn1422_231, mgn1422_196, mgn1422_200, mgn1422_186, mgn1422_178, mgn1422_173, mgn1422_177, mgn1422_189, mgn1422_167, mgn1422_235, mgn1422_171, mgn1422_215, mgn1422_123, mgn1422_124, mgn1422_119, mgn1422_127, mgn1422_129, mgn1422_111, mgn1422_82, mgn1422_86, mgn1422_84] 2000 true mgn1422_81.1 mgn1422_81.2 = true := by decide +kernel
theorem mgk1422_82 : ai_go [mgc63, mgc342, mgc345, mgc346] mgc1422 mgb1422 [81, 92, 93, 94] 0 [46] [] [mgn1422_100, mgn1422_118, mgn1422_132, mgn1422_487, mgn1422_480, mgn1422_478, mgn1422_482, mgn1422_428, mgn1422_430, mgn1422_434, mgn1422_436, mgn1422_433, mgn1422_432, mgn1422_441, mgn1422_401, mgn1422_403, mgn1422_377, mgn1422_365, mgn1422_366, mgn1422_349, mgn1422_342, mgn1422_335, mgn1422_240, mgn1422_311, mgn1422_267, mgn1422_239, mgn1422_238, mgn1422_245, mgn1422_242, mgn1422_243, mgn1422_241, mgn1422_269, mgn1422_271, mgn1422_255, mgn1422_256, mgn1422_249, mgn1422_222, mgn1422_216, mgn1422_145, mgn1422_131, mgn1422_146, mgn1422_139, mgn1422_133, mgn1422_112, mgn1422_93] 2000 true mgn1422_82.1 mgn1422_82.2 = true := by decide +kernel
theorem mgk1422_83 : ai_go [] mgc1422 mgb1422 [81, 92, 93, 94] 0 [46] [] [] 2000 true mgn1422_83.1 mgn1422_83.2 = true := by decide +kernel
theorem mgk1422_84 : ai_go [] mgc1422 mgb1422 [81, 92, 93, 94] 0 [46] [] [] 2000 true mgn1422_84.1 mgn1422_84.2 = true := by decide +kernel
theorem mgk1422_85 : ai_go [mgc63, mgc336, mgc337, mgc340, mgc341] mgc1422 mgb1422 [81, 92, 93, 94] 0 [46] [] [mgn1422_107, mgn1422_109, mgn1422_505, mgn1422_506, mgn1422_476, mgn1422_472, mgn1422_473, mgn1422_494, mgn1422_423, mgn1422_419, mgn1422_416, mgn1422_469, mgn1422_414, mgn1422_418, mgn1422_393, mgn1422_389, mgn1422_387, mgn1422_358, mgn1422_327, mgn1422_332, mgn1422_383, mgn1422_356, mgn1422_326, mgn1422_213, mgn1422_208, mgn1422_207, mgn1422_323, mgn1422_197, mgn1422_199, mgn1422_203, mgn1422_184, mgn1422_174, mgn1422_192, mgn1422_175, mgn1422_182, mgn1422_166, mgn1422_170, mgn1422_165, mgn1422_172, mgn1422_126, mgn1422_120, mgn1422_110, mgn1422_163, mgn1422_122, mgn1422_496, mgn1422_495, mgn1422_501, mgn1422_474, mgn1422_470, mgn1422_471, mgn1422_477, mgn1422_422, mgn1422_424, mgn1422_394, mgn1422_390, mgn1422_392, mgn1422_397, mgn1422_427, mgn1422_384, mgn1422_399, mgn1422_359, mgn1422_331, mgn1422_361, mgn1422_329, mgn1422_333, mgn1422_334, mgn1422_206, mgn1422_205, mgn1422_209, mgn1422_198, mgn1422_231, mgn1422_196, mgn1422_200, mgn1422_186, mgn1422_178, mgn1422_173, mgn1422_177, mgn1422_189, mgn1422_167, mgn1422_235, mgn1422_171, mgn1422_215, mgn1422_123, mgn1422_124, mgn1422_119, mgn1422_127, mgn1422_106] 2000 true mgn1422_85.1 mgn1422_85.2 = true := by decide +kernel
theorem mgk1422_86 : ai_go [mgc64, mgc319, mgc322, mgc323] mgc1422 mgb1422 [81, 92, 93, 94] 0 [46] [] [mgn1422_99, mgn1422_100, mgn1422_118, mgn1422_487, mgn1422_480, mgn1422_478, mgn1422_482, mgn1422_428, mgn1422_430, mgn1422_434, mgn1422_436, mgn1422_433, mgn1422_432, mgn1422_441, mgn1422_401, mgn1422_403, mgn1422_377, mgn1422_365, mgn1422_366, mgn1422_349, mgn1422_342, mgn1422_335, mgn1422_240, mgn1422_311, mgn1422_267, mgn1422_239, mgn1422_238, mgn1422_245, mgn1422_242, mgn1422_243, mgn1422_241, mgn1422_269, mgn1422_271, mgn1422_255, mgn1422_256, mgn1422_249, mgn1422_222, mgn1422_216, mgn1422_145, mgn1422_131, mgn1422_146, mgn1422_139, mgn1422_133, mgn1422_112, mgn1422_93, mgn1422_87] 2000 true mgn1422_86.1 mgn1422_86.2 = true := by decide +kernel
theorem mgk1422_87 : ai_go [mgc61, mgc397, mgc400, mgc401] mgc1422 mgb1422 [81, 92, 93, 94] 0 [46] [] [mgn1422_92, mgn1422_98, mgn1422_113, mgn1422_485, mgn1422_445, mgn1422_465, mgn1422_446, mgn1422_443, mgn1422_442, mgn1422_449, mgn1422_452, mgn1422_405, mgn1422_406, mgn1422_378, mgn1422_369, mgn1422_370, mgn1422_351, mgn1422_344, mgn1422_336, mgn1422_317, mgn1422_313, mgn1422_303, mgn1422_304, mgn1422_299, mgn1422_276, mgn1422_275, mgn1422_273, mgn1422_278, mgn1422_274, mgn1422_283, mgn1422_257, mgn1422_259, mgn1422_251, mgn1422_223, mgn1422_218, mgn1422_154, mgn1422_155, mgn1422_148, mgn1422_140, mgn1422_134, mgn1422_114, mgn1422_94, mgn1422_88] 2000 true mgn1422_87.1 mgn1422_87.2 = true := by decide +kernel
theorem mgk1422_88 : ai_go [mgc58, mgc479, mgc482, mgc483] mgc1422 mgb1422 [81, 92, 93, 94] 0 [46] [] [mgn1422_91, mgn1422_95, mgn1422_117, mgn1422_453, mgn1422_463, mgn1422_457, mgn1422_454, mgn1422_461, mgn1422_408, mgn1422_411, mgn1422_379, mgn1422_374, mgn1422_371, mgn1422_352, mgn1422_345, mgn1422_337, mgn1422_318, mgn1422_314, mgn1422_309, mgn1422_307, mgn1422_300, mgn1422_291, mgn1422_293, mgn1422_284, mgn1422_289, mgn1422_286, mgn1422_296, mgn1422_262, mgn1422_260, mgn1422_252, mgn1422_224, mgn1422_220, mgn1422_160, mgn1422_158, mgn1422_149, mgn1422_141, mgn1422_135, mgn1422_115, mgn1422_96, mgn1422_89] 2000 true mgn1422_88.1 mgn1422_88.2 = true := by decide +kernel
theorem mgk1422_89 : ai_go [mgc55, mgc559, mgc560] mgc1422 mgb1422 [81, 92, 93, 94] 0 [46] [] [mgn1422_90] 2000 true mgn1422_89.1 mgn1422_89.2 = true := by decide +kernel
theorem mgk1422_90 : ai_go [] mgc1422 mgb1422 [81, 92, 93, 94] 0 [46] [] [] 2000 true mgn1422_90.1 mgn1422_90.2 = true := by decide +kernel
theorem mgk1422_91 : ai_go [] mgc1422 mgb1422 [81, 92, 93, 94] 0 [46] [] [] 2000 true mgn1422_91.1 mgn1422_91.2 = true := by decide +kernel
theorem mgk1422_92 : ai_go [] mgc1422 mgb1422 [81, 92, 93, 94] 0 [46] [] [] 2000 true mgn1422_92.1 mgn1422_92.2 = true := by decide +kernel
theorem mgk1422_93 : ai_go [mgc60, mgc422, mgc425, mgc426] mgc1422 mgb1422 [81, 92, 93, 94] 0 [46] [] [mgn1422_98, mgn1422_113, mgn1422_138, mgn1422_485, mgn1422_445, mgn1422_465, mgn1422_446, mgn1422_443, mgn1422_442, mgn1422_449, mgn1422_452, mgn1422_405, mgn1422_406, mgn1422_378, mgn1422_369, mgn1422_370, mgn1422_351, mgn1422_344, mgn1422_336, mgn1422_317, mgn1422_313, mgn1422_303, mgn1422_304, mgn1422_299, mgn1422_276, mgn1422_275, mgn1422_273, mgn1422_278, mgn1422_274, mgn1422_283, mgn1422_257, mgn1422_259, mgn1422_251, mgn1422_223, mgn1422_218, mgn1422_154, mgn1422_155, mgn1422_148, mgn1422_140, mgn1422_134, mgn1422_114, mgn1422_94] 2000 true mgn1422_93.1 mgn1422_93.2 = true := by decide +kernel
theorem mgk1422_94 : ai_go [mgc57, mgc504, mgc507, mgc508] mgc1422 mgb1422 [81, 92, 93, 94] 0 [46] [] [mgn1422_95, mgn1422_117, mgn1422_137, mgn1422_453, mgn1422_463, mgn1422_457, mgn1422_454, mgn1422_461, mgn1422_408, mgn1422_411, mgn1422_379, mgn1422_374, mgn1422_371, mgn1422_352, mgn1422_345, mgn1422_337, mgn1422_318, mgn1422_314, mgn1422_309, mgn1422_307, mgn1422_300, mgn1422_291, mgn1422_293, mgn1422_284, mgn1422_289, mgn1422_286, mgn1422_296, mgn1422_262, mgn1422_260, mgn1422_252, mgn1422_224, mgn1422_220, mgn1422_160, mgn1422_158, mgn1422_149, mgn1422_141, mgn1422_135, mgn1422_115, mgn1422_96] 2000 true mgn1422_94.1 mgn1422_94.2 = true := by decide +kernel
theorem mgk1422_95 : ai_go [] mgc1422 mgb1422 [81, 92, 93, 94] 0 [46] [] [] 2000 true mgn1422_95.1 mgn1422_95.2 = true := by decide +kernel
theorem mgk1422_96 : ai_go [mgc54, mgc586, mgc587] mgc1422 mgb1422 [81, 92, 93, 94] 0 [46] [] [mgn1422_97] 2000 true mgn1422_96.1 mgn1422_96.2 = true := by decide +kernel
theorem mgk1422_97 : ai_go [] mgc1422 mgb1422 [81, 92, 93, 94] 0 [46] [] [] 2000 true mgn1422_97.1 mgn1422_97.2 = true := by decide +kernel
theorem mgk1422_98 : ai_go [] mgc1422 mgb1422 [81, 92, 93, 94] 0 [46] [] [] 2000 true mgn1422_98.1 mgn1422_98.2 = true := by decide +kernel
theorem mgk1422_99 : ai_go [] mgc1422 mgb1422 [81, 92, 93, 94] 0 [46] [] [] 2000 true mgn1422_99.1 mgn1422_99.2 = true := by decide +kernel
theorem mgk1422_100 : ai_go [] mgc1422 mgb1422 [81, 92, 93, 94] 0 [46] [] [] 2000 true mgn1422_100.1 mgn1422_100.2 = true := by decide +kernel
theorem mgk1422_101 : ai_go [mgc62, mgc361, mgc362, mgc365, mgc366] mgc1422 mgb1422 [81, 92, 93, 94] 0 [46] [] [mgn1422_109, mgn1422_122, mgn1422_505, mgn1422_506, mgn1422_476, mgn1422_472, mgn1422_473, mgn1422_494, mgn1422_423, mgn1422_419, mgn1422_416, mgn1422_469, mgn1422_414, mgn1422_418, mgn1422_393, mgn1422_389, mgn1422_387, mgn1422_358, mgn1422_327, mgn1422_332, mgn1422_383, mgn1422_356, mgn1422_326, mgn1422_213, mgn1422_208, mgn1422_207, mgn1422_323, mgn1422_197, mgn1422_199, mgn1422_203, mgn1422_184, mgn1422_174, mgn1422_192, mgn1422_175, mgn1422_182, mgn1422_166, mgn1422_170, mgn1422_165, mgn1422_172, mgn1422_126, mgn1422_120, mgn1422_110, mgn1422_164, mgn1422_496, mgn1422_495, mgn1422_501, mgn1422_474, mgn1422_470, mgn1422_471, mgn1422_477, mgn1422_422, mgn1422_424, mgn1422_394, mgn1422_390, mgn1422_392, mgn1422_397, mgn1422_427, mgn1422_384, mgn1422_399, mgn1422_359, mgn1422_331, mgn1422_361, mgn1422_329, mgn1422_333, mgn1422_334, mgn1422_206, mgn1422_205, mgn1422_209, mgn1422_198, mgn1422_231, mgn1422_196, mgn1422_200, mgn1422_186, mgn1422_178, mgn1422_173, mgn1422_177, mgn1422_189, mgn1422_167, mgn1422_235, mgn1422_171, mgn1422_215, mgn1422_123, mgn1422_124, mgn1422_119, mgn1422_107] 2000 true mgn1422_101.1 mgn1422_101.2 = true := by decide +kernel
theorem mgk1422_102 : ai_go [] mgc1422 mgb1422 [81, 92, 93, 94] 0 [46] [] [] 2000 true mgn1422_102.1 mgn1422_102.2 = true := by decide +kernel
theorem mgk1422_103 : ai_go [mgc65, mgc290, mgc291, mgc294, mgc295] mgc1422 mgb1422 [81, 92, 93, 94] 0 [46] [] [mgn1422_105, mgn1422_106, mgn1422_505, mgn1422_506, mgn1422_476, mgn1422_472, mgn1422_473, mgn1422_494, mgn1422_423, mgn1422_419, mgn1422_416, mgn1422_469, mgn1422_414, mgn1422_418, mgn1422_393, mgn1422_389, mgn1422_387, mgn1422_358, mgn1422_327, mgn1422_332, mgn1422_383, mgn1422_356, mgn1422_326, mgn1422_213, mgn1422_208, mgn1422_207, mgn1422_323, mgn1422_197, mgn1422_199, mgn1422_203, mgn1422_184, mgn1422_174, mgn1422_192, mgn1422_175, mgn1422_182, mgn1422_166, mgn1422_170, mgn1422_165, mgn1422_172, mgn1422_126, mgn1422_120, mgn1422_110, mgn1422_163, mgn1422_121, mgn1422_108, mgn1422_107, mgn1422_496, mgn1422_495, mgn1422_501, mgn1422_474, mgn1422_470, mgn1422_471, mgn1422_477, mgn1422_422, mgn1422_424, mgn1422_394, mgn1422_390, mgn1422_392, mgn1422_397, mgn1422_427, mgn1422_384, mgn1422_399, mgn1422_359, mgn1422_331, mgn1422_361, mgn1422_329, mgn1422_333, mgn1422_334, mgn1422_206, mgn1422_205, mgn1422_209, mgn1422_198, mgn1422_231, mgn1422_196, mgn1422_200, mgn1422_186, mgn1422_178, mgn1422_173, mgn1422_177, mgn1422_189, mgn1422_167, mgn1422_235, mgn1422_171, mgn1422_215, mgn1422_123, mgn1422_124, mgn1422_119, mgn1422_127, mgn1422_129, mgn1422_111, mgn1422_104] 2000 true mgn1422_103.1 mgn1422_103.2 = true := by decide +kernel
theorem mgk1422_104 : ai_go [] mgc1422 mgb1422 [81, 92, 93, 94] 0 [46] [] [] 2000 true mgn1422_104.1 mgn1422_104.2 = true := by decide +kernel
theorem mgk1422_105 : ai_go [] mgc1422 mgb1422 [81, 92, 93, 94] 0 [46] [] [] 2000 true mgn1422_105.1 mgn1422_105.2 = true := by decide +kernel
theorem mgk1422_106 : ai_go [] mgc1422 mgb1422 [81, 92, 93, 94] 0 [46] [] [] 2000 true mgn1422_106.1 mgn1422_106.2 = true := by decide +kernel
theorem mgk1422_107 : ai_go [] mgc1422 mgb1422 [81, 92, 93, 94] 0 [46] [] [] 2000 true mgn1422_107.1 mgn1422_107.2 = true := by decide +kernel
theorem mgk1422_108 : ai_go [mgc61, mgc386, mgc387, mgc390, mgc391] mgc1422 mgb1422 [81, 92, 93, 94] 0 [46] [] [mgn1422_122, mgn1422_164, mgn1422_505, mgn1422_506, mgn1422_476, mgn1422_472, mgn1422_473, mgn1422_494, mgn1422_423, mgn1422_419, mgn1422_416, mgn1422_469, mgn1422_414, mgn1422_418, mgn1422_393, mgn1422_389, mgn1422_387, mgn1422_358, mgn1422_327, mgn1422_332, mgn1422_383, mgn1422_356, mgn1422_326, mgn1422_213, mgn1422_208, mgn1422_207, mgn1422_323, mgn1422_197, mgn1422_199, mgn1422_203, mgn1422_184, mgn1422_174, mgn1422_192, mgn1422_175, mgn1422_182, mgn1422_166, mgn1422_170, mgn1422_165, mgn1422_172, mgn1422_126, mgn1422_120, mgn1422_169, mgn1422_496, mgn1422_495, mgn1422_501, mgn1422_474, mgn1422_470, mgn1422_471, mgn1422_477, mgn1422_422, mgn1422_424, mgn1422_394, mgn1422_390, mgn1422_392, mgn1422_397, mgn1422_427, mgn1422_384, mgn1422_399, mgn1422_359, mgn1422_331, mgn1422_361, mgn1422_329, mgn1422_333, mgn1422_334, mgn1422_206, mgn1422_205, mgn1422_209, mgn1422_198, mgn1422_231, mgn1422_196, mgn1422_200, mgn1422_186, mgn1422_178, mgn1422_173, mgn1422_177, mgn1422_189, mgn1422_167, mgn1422_235, mgn1422_171, mgn1422_215, mgn1422_123, mgn1422_124, mgn1422_109] 2000 true mgn1422_108.1 mgn1422_108.2 = true := by decide +kernel
theorem mgk1422_109 : ai_go [] mgc1422 mgb1422 [81, 92, 93, 94] 0 [46] [] [] 2000 true mgn1422_109.1 mgn1422_109.2 = true := by decide +kernel
theorem mgk1422_110 : ai_go [mgc58, mgc463, mgc464, mgc467, mgc468] mgc1422 mgb1422 [81, 92, 93, 94] 0 [46] [] [mgn1422_168, mgn1422_230, mgn1422_505, mgn1422_506, mgn1422_476, mgn1422_472, mgn1422_473, mgn1422_494, mgn1422_423, mgn1422_419, mgn1422_416, mgn1422_469, mgn1422_414, mgn1422_418, mgn1422_393, mgn1422_389, mgn1422_387, mgn1422_358, mgn1422_327, mgn1422_332, mgn1422_383, mgn1422_356, mgn1422_326, mgn1422_213, mgn1422_208, mgn1422_207, mgn1422_323, mgn1422_197, mgn1422_199, mgn1422_203, mgn1422_184, mgn1422_174, mgn1422_192, mgn1422_175, mgn1422_182, mgn1422_166, mgn1422_170, mgn1422_165, mgn1422_176, mgn1422_496, mgn1422_495, mgn1422_501, mgn1422_474, mgn1422_470, mgn1422_471, mgn1422_477, mgn1422_422, mgn1422_424, mgn1422_394, mgn1422_390, mgn1422_392, mgn1422_397, mgn1422_427, mgn1422_384, mgn1422_399, mgn1422_359, mgn1422_331, mgn1422_361, mgn1422_329, mgn1422_333, mgn1422_334, mgn1422_206, mgn1422_205, mgn1422_209, mgn1422_198, mgn1422_231, mgn1422_196, mgn1422_200, mgn1422_186, mgn1422_178, mgn1422_173, mgn1422_177, mgn1422_189, mgn1422_167, mgn1422_235, mgn1422_171, mgn1422_169] 2000 true mgn1422_110.1 mgn1422_110.2 = true := by decide +kernel
theorem mgk1422_111 : ai_go [mgc62, mgc367, mgc370, mgc371] mgc1422 mgb1422 [81, 92, 93, 94] 0 [46] [] [mgn1422_118, mgn1422_132, mgn1422_162, mgn1422_487, mgn1422_480, mgn1422_478, mgn1422_482, mgn1422_428, mgn1422_430, mgn1422_434, mgn1422_436, mgn1422_433, mgn1422_432, mgn1422_441, mgn1422_401, mgn1422_403, mgn1422_377, mgn1422_365, mgn1422_366, mgn1422_349, mgn1422_342, mgn1422_335, mgn1422_240, mgn1422_311, mgn1422_267, mgn1422_239, mgn1422_238, mgn1422_245, mgn1422_242, mgn1422_243, mgn1422_241, mgn1422_269, mgn1422_271, mgn1422_255, mgn1422_256, mgn1422_249, mgn1422_222, mgn1422_216, mgn1422_145, mgn1422_131, mgn1422_146, mgn1422_139, mgn1422_133, mgn1422_112] 2000 true mgn1422_111.1 mgn1422_111.2 = true := by decide +kernel
theorem mgk1422_112 : ai_go [mgc59, mgc447, mgc450, mgc451] mgc1422 mgb1422 [81, 92, 93, 94] 0 [46] [] [mgn1422_113, mgn1422_138, mgn1422_144, mgn1422_485, mgn1422_445, mgn1422_465, mgn1422_446, mgn1422_443, mgn1422_442, mgn1422_449, mgn1422_452, mgn1422_405, mgn1422_406, mgn1422_378, mgn1422_369, mgn1422_370, mgn1422_351, mgn1422_344, mgn1422_336, mgn1422_317, mgn1422_313, mgn1422_303, mgn1422_304, mgn1422_299, mgn1422_276, mgn1422_275, mgn1422_273, mgn1422_278, mgn1422_274, mgn1422_283, mgn1422_257, mgn1422_259, mgn1422_251, mgn1422_223, mgn1422_218, mgn1422_154, mgn1422_155, mgn1422_148, mgn1422_140, mgn1422_134, mgn1422_114] 2000 true mgn1422_112.1 mgn1422_112.2 = true := by decide +kernel
theorem mgk1422_113 : ai_go [] mgc1422 mgb1422 [81, 92, 93, 94] 0 [46] [] [] 2000 true mgn1422_113.1 mgn1422_113.2 = true := by decide +kernel
theorem mgk1422_114 : ai_go [mgc56, mgc529, mgc532, mgc533] mgc1422 mgb1422 [81, 92, 93, 94] 0 [46] [] [mgn1422_117, mgn1422_137, mgn1422_143, mgn1422_453, mgn1422_463, mgn1422_457, mgn1422_454, mgn1422_461, mgn1422_408, mgn1422_411, mgn1422_379, mgn1422_374, mgn1422_371, mgn1422_352, mgn1422_345, mgn1422_337, mgn1422_318, mgn1422_314, mgn1422_309, mgn1422_307, mgn1422_300, mgn1422_291, mgn1422_293, mgn1422_284, mgn1422_289, mgn1422_286, mgn1422_296, mgn1422_262, mgn1422_260, mgn1422_252, mgn1422_224, mgn1422_220, mgn1422_160, mgn1422_158, mgn1422_149, mgn1422_141, mgn1422_135, mgn1422_115] 2000 true mgn1422_114.1 mgn1422_114.2 = true := by decide +kernel
theorem mgk1422_115 : ai_go [mgc53, mgc611, mgc612] mgc1422 mgb1422 [81, 92, 93, 94] 0 [46] [] [mgn1422_116] 2000 true mgn1422_115.1 mgn1422_115.2 = true := by decide +kernel
theorem mgk1422_116 : ai_go [] mgc1422 mgb1422 [81, 92, 93, 94] 0 [46] [] [] 2000 true mgn1422_116.1 mgn1422_116.2 = true := by decide +kernel
theorem mgk1422_117 : ai_go [] mgc1422 mgb1422 [81, 92, 93, 94] 0 [46] [] [] 2000 true mgn1422_117.1 mgn1422_117.2 = true := by decide +kernel
theorem mgk1422_118 : ai_go [] mgc1422 mgb1422 [81, 92, 93, 94] 0 [46] [] [] 2000 true mgn1422_118.1 mgn1422_118.2 = true := by decide +kernel
theorem mgk1422_119 : ai_go [mgc59, mgc442, mgc445, mgc446] mgc1422 mgb1422 [81, 92, 93, 94] 0 [46] [] [mgn1422_130, mgn1422_128, mgn1422_125, mgn1422_487, mgn1422_480, mgn1422_478, mgn1422_482, mgn1422_428, mgn1422_430, mgn1422_434, mgn1422_436, mgn1422_433, mgn1422_432, mgn1422_441, mgn1422_401, mgn1422_403, mgn1422_377, mgn1422_365, mgn1422_366, mgn1422_349, mgn1422_342, mgn1422_335, mgn1422_240, mgn1422_311, mgn1422_267, mgn1422_239, mgn1422_238, mgn1422_245, mgn1422_242, mgn1422_243, mgn1422_241, mgn1422_269, mgn1422_271, mgn1422_255, mgn1422_256, mgn1422_249, mgn1422_222, mgn1422_216, mgn1422_145, mgn1422_131, mgn1422_146] 2000 true mgn1422_119.1 mgn1422_119.2 = true := by decide +kernel
theorem mgk1422_120 : ai_go [mgc57, mgc488, mgc489, mgc492, mgc493] mgc1422 mgb1422 [81, 92, 93, 94] 0 [46] [] [mgn1422_230, mgn1422_176, mgn1422_505, mgn1422_506, mgn1422_476, mgn1422_472, mgn1422_473, mgn1422_494, mgn1422_423, mgn1422_419, mgn1422_416, mgn1422_469, mgn1422_414, mgn1422_418, mgn1422_393, mgn1422_389, mgn1422_387, mgn1422_358, mgn1422_327, mgn1422_332, mgn1422_383, mgn1422_356, mgn1422_326, mgn1422_213, mgn1422_208, mgn1422_207, mgn1422_323, mgn1422_197, mgn1422_199, mgn1422_203, mgn1422_184, mgn1422_174, mgn1422_192, mgn1422_175, mgn1422_182, mgn1422_166, mgn1422_170, mgn1422_181, mgn1422_496, mgn1422_495, mgn1422_501, mgn1422_474, mgn1422_470, mgn1422_471, mgn1422_477, mgn1422_422, mgn1422_424, mgn1422_394, mgn1422_390, mgn1422_392, mgn1422_397, mgn1422_427, mgn1422_384, mgn1422_399, mgn1422_359, mgn1422_331, mgn1422_361, mgn1422_329, mgn1422_333, mgn1422_334, mgn1422_206, mgn1422_205, mgn1422_209, mgn1422_198, mgn1422_231, mgn1422_196, mgn1422_200, mgn1422_186, mgn1422_178, mgn1422_173, mgn1422_177, mgn1422_189, mgn1422_167, mgn1422_235, mgn1422_168] 2000 true mgn1422_120.1 mgn1422_120.2 = true := by decide +kernel
theorem mgk1422_121 : ai_go [mgc60, mgc411, mgc412, mgc415, mgc416] mgc1422 mgb1422 [81, 92, 93, 94] 0 [46] [] [mgn1422_164, mgn1422_169, mgn1422_505, mgn1422_506, mgn1422_476, mgn1422_472, mgn1422_473, mgn1422_494, mgn1422_423, mgn1422_419, mgn1422_416, mgn1422_469, mgn1422_414, mgn1422_418, mgn1422_393, mgn1422_389, mgn1422_387, mgn1422_358, mgn1422_327, mgn1422_332, mgn1422_383, mgn1422_356, mgn1422_326, mgn1422_213, mgn1422_208, mgn1422_207, mgn1422_323, mgn1422_197, mgn1422_199, mgn1422_203, mgn1422_184, mgn1422_174, mgn1422_192, mgn1422_175, mgn1422_182, mgn1422_166, mgn1422_170, mgn1422_165, mgn1422_172, mgn1422_126, mgn1422_168, mgn1422_496, mgn1422_495, mgn1422_501, mgn1422_474, mgn1422_470, mgn1422_471, mgn1422_477, mgn1422_422, mgn1422_424, mgn1422_394, mgn1422_390, mgn1422_392, mgn1422_397, mgn1422_427, mgn1422_384, mgn1422_399, mgn1422_359, mgn1422_331, mgn1422_361, mgn1422_329, mgn1422_333, mgn1422_334, mgn1422_206, mgn1422_205, mgn1422_209, mgn1422_198, mgn1422_231, mgn1422_196, mgn1422_200, mgn1422_186, mgn1422_178, mgn1422_173, mgn1422_177, mgn1422_189, mgn1422_167, mgn1422_235, mgn1422_171, mgn1422_215, mgn1422_123, mgn1422_122] 2000 true mgn1422_121.1 mgn1422_121.2 = true := by decide +kernel
theorem mgk1422_122 : ai_go [] mgc1422 mgb1422 [81, 92, 93, 94] 0 [46] [] [] 2000 true mgn1422_122.1 mgn1422_122.2 = true := by decide +kernel
theorem mgk1422_123 : ai_go [mgc57, mgc494, mgc497, mgc498] mgc1422 mgb1422 [81, 92, 93, 94] 0 [46] [] [mgn1422_125, mgn1422_228, mgn1422_229, mgn1422_487, mgn1422_480, mgn1422_478, mgn1422_482, mgn1422_428, mgn1422_430, mgn1422_434, mgn1422_436, mgn1422_433, mgn1422_432, mgn1422_441, mgn1422_401, mgn1422_403, mgn1422_377, mgn1422_365, mgn1422_366, mgn1422_349, mgn1422_342, mgn1422_335, mgn1422_240, mgn1422_311, mgn1422_267, mgn1422_239, mgn1422_238, mgn1422_245, mgn1422_242, mgn1422_243, mgn1422_241, mgn1422_269, mgn1422_271, mgn1422_255, mgn1422_256, mgn1422_249, mgn1422_222, mgn1422_216, mgn1422_145] 2000 true mgn1422_123.1 mgn1422_123.2 = true := by decide +kernel
theorem mgk1422_124 : ai_go [mgc58, mgc469, mgc472, mgc473] mgc1422 mgb1422 [81, 92, 93, 94] 0 [46] [] [mgn1422_128, mgn1422_125, mgn1422_228, mgn1422_487, mgn1422_480, mgn1422_478, mgn1422_482, mgn1422_428, mgn1422_430, mgn1422_434, mgn1422_436, mgn1422_433, mgn1422_432, mgn1422_441, mgn1422_401, mgn1422_403, mgn1422_377, mgn1422_365, mgn1422_366, mgn1422_349, mgn1422_342, mgn1422_335, mgn1422_240, mgn1422_311, mgn1422_267, mgn1422_239, mgn1422_238, mgn1422_245, mgn1422_242, mgn1422_243, mgn1422_241, mgn1422_269, mgn1422_271, mgn1422_255, mgn1422_256, mgn1422_249, mgn1422_222, mgn1422_216, mgn1422_145, mgn1422_131] 2000 true mgn1422_124.1 mgn1422_124.2 = true := by decide +kernel
theorem mgk1422_125 : ai_go [] mgc1422 mgb1422 [81, 92, 93, 94] 0 [46] [] [] 2000 true mgn1422_125.1 mgn1422_125.2 = true := by decide +kernel
theorem mgk1422_126 : ai_go [mgc56, mgc513, mgc514, mgc517, mgc518] mgc1422 mgb1422 [81, 92, 93, 94] 0 [46] [] [mgn1422_176, mgn1422_181, mgn1422_505, mgn1422_506, mgn1422_476, mgn1422_472, mgn1422_473, mgn1422_494, mgn1422_423, mgn1422_419, mgn1422_416, mgn1422_469, mgn1422_414, mgn1422_418, mgn1422_393, mgn1422_389, mgn1422_387, mgn1422_358, mgn1422_327, mgn1422_332, mgn1422_383, mgn1422_356, mgn1422_326, mgn1422_213, mgn1422_208, mgn1422_207, mgn1422_323, mgn1422_197, mgn1422_199, mgn1422_203, mgn1422_184, mgn1422_174, mgn1422_192, mgn1422_175, mgn1422_182, mgn1422_166, mgn1422_188, mgn1422_496, mgn1422_495, mgn1422_501, mgn1422_474, mgn1422_470, mgn1422_471, mgn1422_477, mgn1422_422, mgn1422_424, mgn1422_394, mgn1422_390, mgn1422_392, mgn1422_397, mgn1422_427, mgn1422_384, mgn1422_399, mgn1422_359, mgn1422_331, mgn1422_361, mgn1422_329, mgn1422_333, mgn1422_334, mgn1422_206, mgn1422_205, mgn1422_209, mgn1422_198, mgn1422_231, mgn1422_196, mgn1422_200, mgn1422_186, mgn1422_178, mgn1422_173, mgn1422_177, mgn1422_189, mgn1422_167, mgn1422_230] 2000 true mgn1422_126.1 mgn1422_126.2 = true := by decide +kernel
theorem mgk1422_127 : ai_go [mgc60, mgc417, mgc420, mgc421] mgc1422 mgb1422 [81, 92, 93, 94] 0 [46] [] [mgn1422_162, mgn1422_130, mgn1422_128, mgn1422_487, mgn1422_480, mgn1422_478, mgn1422_482, mgn1422_428, mgn1422_430, mgn1422_434, mgn1422_436, mgn1422_433, mgn1422_432, mgn1422_441, mgn1422_401, mgn1422_403, mgn1422_377, mgn1422_365, mgn1422_366, mgn1422_349, mgn1422_342, mgn1422_335, mgn1422_240, mgn1422_311, mgn1422_267, mgn1422_239, mgn1422_238, mgn1422_245, mgn1422_242, mgn1422_243, mgn1422_241, mgn1422_269, mgn1422_271, mgn1422_255, mgn1422_256, mgn1422_249, mgn1422_222, mgn1422_216, mgn1422_145, mgn1422_131, mgn1422_146, mgn1422_139] 2000 true mgn1422_127.1 mgn1422_127.2 = true := by decide +kernel
theorem mgk1422_128 : ai_go [] mgc1422 mgb1422 [81, 92, 93, 94] 0 [46] [] [] 2000 true mgn1422_128.1 mgn1422_128.2 = true := by decide +kernel
theorem mgk1422_129 : ai_go [mgc61, mgc392, mgc395, mgc396] mgc1422 mgb1422 [81, 92, 93, 94] 0 [46] [] [mgn1422_132, mgn1422_162, mgn1422_130, mgn1422_487, mgn1422_480, mgn1422_478, mgn1422_482, mgn1422_428, mgn1422_430, mgn1422_434, mgn1422_436, mgn1422_433, mgn1422_432, mgn1422_441, mgn1422_401, mgn1422_403, mgn1422_377, mgn1422_365, mgn1422_366, mgn1422_349, mgn1422_342, mgn1422_335, mgn1422_240, mgn1422_311, mgn1422_267, mgn1422_239, mgn1422_238, mgn1422_245, mgn1422_242, mgn1422_243, mgn1422_241, mgn1422_269, mgn1422_271, mgn1422_255, mgn1422_256, mgn1422_249, mgn1422_222, mgn1422_216, mgn1422_145, mgn1422_131, mgn1422_146, mgn1422_139, mgn1422_133] 2000 true mgn1422_129.1 mgn1422_129.2 = true := by decide +kernel
theorem mgk1422_130 : ai_go [] mgc1422 mgb1422 [81, 92, 93, 94] 0 [46] [] [] 2000 true mgn1422_130.1 mgn1422_130.2 = true := by decide +kernel
theorem mgk1422_131 : ai_go [mgc55, mgc549, mgc552, mgc553] mgc1422 mgb1422 [81, 92, 93, 94] 0 [46] [] [mgn1422_153, mgn1422_152, mgn1422_217, mgn1422_485, mgn1422_445, mgn1422_465, mgn1422_446, mgn1422_443, mgn1422_442, mgn1422_449, mgn1422_452, mgn1422_405, mgn1422_406, mgn1422_378, mgn1422_369, mgn1422_370, mgn1422_351, mgn1422_344, mgn1422_336, mgn1422_317, mgn1422_313, mgn1422_303, mgn1422_304, mgn1422_299, mgn1422_276, mgn1422_275, mgn1422_273, mgn1422_278, mgn1422_274, mgn1422_283, mgn1422_257, mgn1422_259, mgn1422_251, mgn1422_223, mgn1422_218, mgn1422_154, mgn1422_155] 2000 true mgn1422_131.1 mgn1422_131.2 = true := by decide +kernel
theorem mgk1422_132 : ai_go [] mgc1422 mgb1422 [81, 92, 93, 94] 0 [46] [] [] 2000 true mgn1422_132.1 mgn1422_132.2 = true := by decide +kernel
theorem mgk1422_133 : ai_go [mgc58, mgc474, mgc477, mgc478] mgc1422 mgb1422 [81, 92, 93, 94] 0 [46] [] [mgn1422_138, mgn1422_144, mgn1422_147, mgn1422_485, mgn1422_445, mgn1422_465, mgn1422_446, mgn1422_443, mgn1422_442, mgn1422_449, mgn1422_452, mgn1422_405, mgn1422_406, mgn1422_378, mgn1422_369, mgn1422_370, mgn1422_351, mgn1422_344, mgn1422_336, mgn1422_317, mgn1422_313, mgn1422_303, mgn1422_304, mgn1422_299, mgn1422_276, mgn1422_275, mgn1422_273, mgn1422_278, mgn1422_274, mgn1422_283, mgn1422_257, mgn1422_259, mgn1422_251, mgn1422_223, mgn1422_218, mgn1422_154, mgn1422_155, mgn1422_148, mgn1422_140, mgn1422_134] 2000 true mgn1422_133.1 mgn1422_133.2 = true := by decide +kernel
theorem mgk1422_134 : ai_go [mgc55, mgc554, mgc557, mgc558] mgc1422 mgb1422 [81, 92, 93, 94] 0 [46] [] [mgn1422_137, mgn1422_143, mgn1422_151, mgn1422_453, mgn1422_463, mgn1422_457, mgn1422_454, mgn1422_461, mgn1422_408, mgn1422_411, mgn1422_379, mgn1422_374, mgn1422_371, mgn1422_352, mgn1422_345, mgn1422_337, mgn1422_318, mgn1422_314, mgn1422_309, mgn1422_307, mgn1422_300, mgn1422_291, mgn1422_293, mgn1422_284, mgn1422_289, mgn1422_286, mgn1422_296, mgn1422_262, mgn1422_260, mgn1422_252, mgn1422_224, mgn1422_220, mgn1422_160, mgn1422_158, mgn1422_149, mgn1422_141, mgn1422_135] 2000 true mgn1422_134.1 mgn1422_134.2 = true := by decide +kernel
theorem mgk1422_135 : ai_go [mgc52, mgc636, mgc637] mgc1422 mgb1422 [81, 92, 93, 94] 0 [46] [] [mgn1422_136] 2000 true mgn1422_135.1 mgn1422_135.2 = true := by decide +kernel
theorem mgk1422_136 : ai_go [] mgc1422 mgb1422 [81, 92, 93, 94] 0 [46] [] [] 2000 true mgn1422_136.1 mgn1422_136.2 = true := by decide +kernel
theorem mgk1422_137 : ai_go [] mgc1422 mgb1422 [81, 92, 93, 94] 0 [46] [] [] 2000 true mgn1422_137.1 mgn1422_137.2 = true := by decide +kernel
theorem mgk1422_138 : ai_go [] mgc1422 mgb1422 [81, 92, 93, 94] 0 [46] [] [] 2000 true mgn1422_138.1 mgn1422_138.2 = true := by decide +kernel
theorem mgk1422_139 : ai_go [mgc57, mgc499, mgc502, mgc503] mgc1422 mgb1422 [81, 92, 93, 94] 0 [46] [] [mgn1422_144, mgn1422_147, mgn1422_153, mgn1422_485, mgn1422_445, mgn1422_465, mgn1422_446, mgn1422_443, mgn1422_442, mgn1422_449, mgn1422_452, mgn1422_405, mgn1422_406, mgn1422_378, mgn1422_369, mgn1422_370, mgn1422_351, mgn1422_344, mgn1422_336, mgn1422_317, mgn1422_313, mgn1422_303, mgn1422_304, mgn1422_299, mgn1422_276, mgn1422_275, mgn1422_273, mgn1422_278, mgn1422_274, mgn1422_283, mgn1422_257, mgn1422_259, mgn1422_251, mgn1422_223, mgn1422_218, mgn1422_154, mgn1422_155, mgn1422_148, mgn1422_140] 2000 true mgn1422_139.1 mgn1422_139.2 = true := by decide +kernel
theorem mgk1422_140 : ai_go [mgc54, mgc581, mgc584, mgc585] mgc1422 mgb1422 [81, 92, 93, 94] 0 [46] [] [mgn1422_143, mgn1422_151, mgn1422_157, mgn1422_453, mgn1422_463, mgn1422_457, mgn1422_454, mgn1422_461, mgn1422_408, mgn1422_411, mgn1422_379, mgn1422_374, mgn1422_371, mgn1422_352, mgn1422_345, mgn1422_337, mgn1422_318, mgn1422_314, mgn1422_309, mgn1422_307, mgn1422_300, mgn1422_291, mgn1422_293, mgn1422_284, mgn1422_289, mgn1422_286, mgn1422_296, mgn1422_262, mgn1422_260, mgn1422_252, mgn1422_224, mgn1422_220, mgn1422_160, mgn1422_158, mgn1422_149, mgn1422_141] 2000 true mgn1422_140.1 mgn1422_140.2 = true := by decide +kernel
theorem mgk1422_141 : ai_go [mgc51, mgc661, mgc662] mgc1422 mgb1422 [81, 92, 93, 94] 0 [46] [] [mgn1422_142] 2000 true mgn1422_141.1 mgn1422_141.2 = true := by decide +kernel
theorem mgk1422_142 : ai_go [] mgc1422 mgb1422 [81, 92, 93, 94] 0 [46] [] [] 2000 true mgn1422_142.1 mgn1422_142.2 = true := by decide +kernel
theorem mgk1422_143 : ai_go [] mgc1422 mgb1422 [81, 92, 93, 94] 0 [46] [] [] 2000 true mgn1422_143.1 mgn1422_143.2 = true := by decide +kernel
theorem mgk1422_144 : ai_go [] mgc1422 mgb1422 [81, 92, 93, 94] 0 [46] [] [] 2000 true mgn1422_144.1 mgn1422_144.2 = true := by decide +kernel
theorem mgk1422_145 : ai_go [mgc54, mgc576, mgc579, mgc580] mgc1422 mgb1422 [81, 92, 93, 94] 0 [46] [] [mgn1422_152, mgn1422_217, mgn1422_227, mgn1422_485, mgn1422_445, mgn1422_465, mgn1422_446, mgn1422_443, mgn1422_442, mgn1422_449, mgn1422_452, mgn1422_405, mgn1422_406, mgn1422_378, mgn1422_369, mgn1422_370, mgn1422_351, mgn1422_344, mgn1422_336, mgn1422_317, mgn1422_313, mgn1422_303, mgn1422_304, mgn1422_299, mgn1422_276, mgn1422_275, mgn1422_273, mgn1422_278, mgn1422_274, mgn1422_283, mgn1422_257, mgn1422_259, mgn1422_251, mgn1422_223, mgn1422_218, mgn1422_154] 2000 true mgn1422_145.1 mgn1422_145.2 = true := by decide +kernel
theorem mgk1422_146 : ai_go [mgc56, mgc524, mgc527, mgc528] mgc1422 mgb1422 [81, 92, 93, 94] 0 [46] [] [mgn1422_147, mgn1422_153, mgn1422_152, mgn1422_485, mgn1422_445, mgn1422_465, mgn1422_446, mgn1422_443, mgn1422_442, mgn1422_449, mgn1422_452, mgn1422_405, mgn1422_406, mgn1422_378, mgn1422_369, mgn1422_370, mgn1422_351, mgn1422_344, mgn1422_336, mgn1422_317, mgn1422_313, mgn1422_303, mgn1422_304, mgn1422_299, mgn1422_276, mgn1422_275, mgn1422_273, mgn1422_278, mgn1422_274, mgn1422_283, mgn1422_257, mgn1422_259, mgn1422_251, mgn1422_223, mgn1422_218, mgn1422_154, mgn1422_155, mgn1422_148] 2000 true mgn1422_146.1 mgn1422_146.2 = true := by decide +kernel
theorem mgk1422_147 : ai_go [] mgc1422 mgb1422 [81, 92, 93, 94] 0 [46] [] [] 2000 true mgn1422_147.1 mgn1422_147.2 = true := by decide +kernel
theorem mgk1422_148 : ai_go [mgc53, mgc606, mgc609, mgc610] mgc1422 mgb1422 [81, 92, 93, 94] 0 [46] [] [mgn1422_151, mgn1422_157, mgn1422_156, mgn1422_453, mgn1422_463, mgn1422_457, mgn1422_454, mgn1422_461, mgn1422_408, mgn1422_411, mgn1422_379, mgn1422_374, mgn1422_371, mgn1422_352, mgn1422_345, mgn1422_337, mgn1422_318, mgn1422_314, mgn1422_309, mgn1422_307, mgn1422_300, mgn1422_291, mgn1422_293, mgn1422_284, mgn1422_289, mgn1422_286, mgn1422_296, mgn1422_262, mgn1422_260, mgn1422_252, mgn1422_224, mgn1422_220, mgn1422_160, mgn1422_158, mgn1422_149] 2000 true mgn1422_148.1 mgn1422_148.2 = true := by decide +kernel
theorem mgk1422_149 : ai_go [mgc50, mgc688, mgc689] mgc1422 mgb1422 [81, 92, 93, 94] 0 [46] [] [mgn1422_150] 2000 true mgn1422_149.1 mgn1422_149.2 = true := by decide +kernel
theorem mgk1422_150 : ai_go [] mgc1422 mgb1422 [81, 92, 93, 94] 0 [46] [] [] 2000 true mgn1422_150.1 mgn1422_150.2 = true := by decide +kernel
theorem mgk1422_151 : ai_go [] mgc1422 mgb1422 [81, 92, 93, 94] 0 [46] [] [] 2000 true mgn1422_151.1 mgn1422_151.2 = true := by decide +kernel
theorem mgk1422_152 : ai_go [] mgc1422 mgb1422 [81, 92, 93, 94] 0 [46] [] [] 2000 true mgn1422_152.1 mgn1422_152.2 = true := by decide +kernel
theorem mgk1422_153 : ai_go [] mgc1422 mgb1422 [81, 92, 93, 94] 0 [46] [] [] 2000 true mgn1422_153.1 mgn1422_153.2 = true := by decide +kernel
theorem mgk1422_154 : ai_go [mgc51, mgc656, mgc659, mgc660] mgc1422 mgb1422 [81, 92, 93, 94] 0 [46] [] [mgn1422_156, mgn1422_219, mgn1422_226, mgn1422_453, mgn1422_463, mgn1422_457, mgn1422_454, mgn1422_461, mgn1422_408, mgn1422_411, mgn1422_379, mgn1422_374, mgn1422_371, mgn1422_352, mgn1422_345, mgn1422_337, mgn1422_318, mgn1422_314, mgn1422_309, mgn1422_307, mgn1422_300, mgn1422_291, mgn1422_293, mgn1422_284, mgn1422_289, mgn1422_286, mgn1422_296, mgn1422_262, mgn1422_260, mgn1422_252, mgn1422_224, mgn1422_220, mgn1422_160] 2000 true mgn1422_154.1 mgn1422_154.2 = true := by decide +kernel
theorem mgk1422_155 : ai_go [mgc52, mgc631, mgc634, mgc635] mgc1422 mgb1422 [81, 92, 93, 94] 0 [46] [] [mgn1422_157, mgn1422_156, mgn1422_219, mgn1422_453, mgn1422_463, mgn1422_457, mgn1422_454, mgn1422_461, mgn1422_408, mgn1422_411, mgn1422_379, mgn1422_374, mgn1422_371, mgn1422_352, mgn1422_345, mgn1422_337, mgn1422_318, mgn1422_314, mgn1422_309, mgn1422_307, mgn1422_300, mgn1422_291, mgn1422_293, mgn1422_284, mgn1422_289, mgn1422_286, mgn1422_296, mgn1422_262, mgn1422_260, mgn1422_252, mgn1422_224, mgn1422_220, mgn1422_160, mgn1422_158] 2000 true mgn1422_155.1 mgn1422_155.2 = true := by decide +kernel
theorem mgk1422_156 : ai_go [] mgc1422 mgb1422 [81, 92, 93, 94] 0 [46] [] [] 2000 true mgn1422_156.1 mgn1422_156.2 = true := by decide +kernel
theorem mgk1422_157 : ai_go [] mgc1422 mgb1422 [81, 92, 93, 94] 0 [46] [] [] 2000 true mgn1422_157.1 mgn1422_157.2 = true := by decide +kernel
theorem mgk1422_158 : ai_go [mgc49, mgc713, mgc714] mgc1422 mgb1422 [81, 92, 93, 94] 0 [46] [] [mgn1422_159] 2000 true mgn1422_158.1 mgn1422_158.2 = true := by decide +kernel
theorem mgk1422_159 : ai_go [] mgc1422 mgb1422 [81, 92, 93, 94] 0 [46] [] [] 2000 true mgn1422_159.1 mgn1422_159.2 = true := by decide +kernel
theorem mgk1422_160 : ai_go [mgc48, mgc738, mgc739] mgc1422 mgb1422 [81, 92, 93, 94] 0 [46] [] [mgn1422_161] 2000 true mgn1422_160.1 mgn1422_160.2 = true := by decide +kernel
theorem mgk1422_161 : ai_go [] mgc1422 mgb1422 [81, 92, 93, 94] 0 [46] [] [] 2000 true mgn1422_161.1 mgn1422_161.2 = true := by decide +kernel
theorem mgk1422_162 : ai_go [] mgc1422 mgb1422 [81, 92, 93, 94] 0 [46] [] [] 2000 true mgn1422_162.1 mgn1422_162.2 = true := by decide +kernel
theorem mgk1422_163 : ai_go [mgc59, mgc436, mgc437, mgc440, mgc441] mgc1422 mgb1422 [81, 92, 93, 94] 0 [46] [] [mgn1422_169, mgn1422_168, mgn1422_505, mgn1422_506, mgn1422_476, mgn1422_472, mgn1422_473, mgn1422_494, mgn1422_423, mgn1422_419, mgn1422_416, mgn1422_469, mgn1422_414, mgn1422_418, mgn1422_393, mgn1422_389, mgn1422_387, mgn1422_358, mgn1422_327, mgn1422_332, mgn1422_383, mgn1422_356, mgn1422_326, mgn1422_213, mgn1422_208, mgn1422_207, mgn1422_323, mgn1422_197, mgn1422_199, mgn1422_203, mgn1422_184, mgn1422_174, mgn1422_192, mgn1422_175, mgn1422_182, mgn1422_166, mgn1422_170, mgn1422_165, mgn1422_172, mgn1422_230, mgn1422_496, mgn1422_495, mgn1422_501, mgn1422_474, mgn1422_470, mgn1422_471, mgn1422_477, mgn1422_422, mgn1422_424, mgn1422_394, mgn1422_390, mgn1422_392, mgn1422_397, mgn1422_427, mgn1422_384, mgn1422_399, mgn1422_359, mgn1422_331, mgn1422_361, mgn1422_329, mgn1422_333, mgn1422_334, mgn1422_206, mgn1422_205, mgn1422_209, mgn1422_198, mgn1422_231, mgn1422_196, mgn1422_200, mgn1422_186, mgn1422_178, mgn1422_173, mgn1422_177, mgn1422_189, mgn1422_167, mgn1422_235, mgn1422_171, mgn1422_215, mgn1422_164] 2000 true mgn1422_163.1 mgn1422_163.2 = true := by decide +kernel
theorem mgk1422_164 : ai_go [] mgc1422 mgb1422 [81, 92, 93, 94] 0 [46] [] [] 2000 true mgn1422_164.1 mgn1422_164.2 = true := by decide +kernel
theorem mgk1422_165 : ai_go [mgc54, mgc565, mgc566, mgc569, mgc570] mgc1422 mgb1422 [81, 92, 93, 94] 0 [46] [] [mgn1422_188, mgn1422_180, mgn1422_505, mgn1422_506, mgn1422_476, mgn1422_472, mgn1422_473, mgn1422_494, mgn1422_423, mgn1422_419, mgn1422_416, mgn1422_469, mgn1422_414, mgn1422_418, mgn1422_393, mgn1422_389, mgn1422_387, mgn1422_358, mgn1422_327, mgn1422_332, mgn1422_383, mgn1422_356, mgn1422_326, mgn1422_213, mgn1422_208, mgn1422_207, mgn1422_323, mgn1422_197, mgn1422_199, mgn1422_203, mgn1422_184, mgn1422_174, mgn1422_192, mgn1422_175, mgn1422_185, mgn1422_496, mgn1422_495, mgn1422_501, mgn1422_474, mgn1422_470, mgn1422_471, mgn1422_477, mgn1422_422, mgn1422_424, mgn1422_394, mgn1422_390, mgn1422_392, mgn1422_397, mgn1422_427, mgn1422_384, mgn1422_399, mgn1422_359, mgn1422_331, mgn1422_361, mgn1422_329, mgn1422_333, mgn1422_334, mgn1422_206, mgn1422_205, mgn1422_209, mgn1422_198, mgn1422_231, mgn1422_196, mgn1422_200, mgn1422_186, mgn1422_178, mgn1422_173, mgn1422_177, mgn1422_181] 2000 true mgn1422_165.1 mgn1422_165.2 = true := by decide +kernel
theorem mgk1422_166 : ai_go [mgc52, mgc615, mgc616, mgc619, mgc620] mgc1422 mgb1422 [81, 92, 93, 94] 0 [46] [] [mgn1422_185, mgn1422_183, mgn1422_505, mgn1422_506, mgn1422_476, mgn1422_472, mgn1422_473, mgn1422_494, mgn1422_423, mgn1422_419, mgn1422_416, mgn1422_469, mgn1422_414, mgn1422_418, mgn1422_393, mgn1422_389, mgn1422_387, mgn1422_358, mgn1422_327, mgn1422_332, mgn1422_383, mgn1422_356, mgn1422_326, mgn1422_213, mgn1422_208, mgn1422_207, mgn1422_323, mgn1422_197, mgn1422_199, mgn1422_203, mgn1422_184, mgn1422_174, mgn1422_193, mgn1422_496, mgn1422_495, mgn1422_501, mgn1422_474, mgn1422_470, mgn1422_471, mgn1422_477, mgn1422_422, mgn1422_424, mgn1422_394, mgn1422_390, mgn1422_392, mgn1422_397, mgn1422_427, mgn1422_384, mgn1422_399, mgn1422_359, mgn1422_331, mgn1422_361, mgn1422_329, mgn1422_333, mgn1422_334, mgn1422_206, mgn1422_205, mgn1422_209, mgn1422_198, mgn1422_231, mgn1422_196, mgn1422_200, mgn1422_186, mgn1422_178, mgn1422_180] 2000 true mgn1422_166.1 mgn1422_166.2 = true := by decide +kernel
theorem mgk1422_167 : ai_go [mgc53, mgc596, mgc599, mgc600] mgc1422 mgb1422 [81, 92, 93, 94] 0 [46] [] [mgn1422_236, mgn1422_237, mgn1422_191, mgn1422_487, mgn1422_480, mgn1422_478, mgn1422_482, mgn1422_428, mgn1422_430, mgn1422_434, mgn1422_436, mgn1422_433, mgn1422_432, mgn1422_441, mgn1422_401, mgn1422_403, mgn1422_377, mgn1422_365, mgn1422_366, mgn1422_349, mgn1422_342, mgn1422_335, mgn1422_240, mgn1422_311, mgn1422_267, mgn1422_239, mgn1422_238, mgn1422_245, mgn1422_242, mgn1422_243, mgn1422_241, mgn1422_269, mgn1422_271, mgn1422_255, mgn1422_256] 2000 true mgn1422_167.1 mgn1422_167.2 = true := by decide +kernel
theorem mgk1422_168 : ai_go [] mgc1422 mgb1422 [81, 92, 93, 94] 0 [46] [] [] 2000 true mgn1422_168.1 mgn1422_168.2 = true := by decide +kernel
theorem mgk1422_169 : ai_go [] mgc1422 mgb1422 [81, 92, 93, 94] 0 [46] [] [] 2000 true mgn1422_169.1 mgn1422_169.2 = true := by decide +kernel
theorem mgk1422_170 : ai_go [mgc53, mgc590, mgc591, mgc594, mgc595] mgc1422 mgb1422 [81, 92, 93, 94] 0 [46] [] [mgn1422_180, mgn1422_185, mgn1422_505, mgn1422_506, mgn1422_476, mgn1422_472, mgn1422_473, mgn1422_494, mgn1422_423, mgn1422_419, mgn1422_416, mgn1422_469, mgn1422_414, mgn1422_418, mgn1422_393, mgn1422_389, mgn1422_387, mgn1422_358, mgn1422_327, mgn1422_332, mgn1422_383, mgn1422_356, mgn1422_326, mgn1422_213, mgn1422_208, mgn1422_207, mgn1422_323, mgn1422_197, mgn1422_199, mgn1422_203, mgn1422_184, mgn1422_174, mgn1422_192, mgn1422_183, mgn1422_496, mgn1422_495, mgn1422_501, mgn1422_474, mgn1422_470, mgn1422_471, mgn1422_477, mgn1422_422, mgn1422_424, mgn1422_394, mgn1422_390, mgn1422_392, mgn1422_397, mgn1422_427, mgn1422_384, mgn1422_399, mgn1422_359, mgn1422_331, mgn1422_361, mgn1422_329, mgn1422_333, mgn1422_334, mgn1422_206, mgn1422_205, mgn1422_209, mgn1422_198, mgn1422_231, mgn1422_196, mgn1422_200, mgn1422_186, mgn1422_178, mgn1422_173, mgn1422_188] 2000 true mgn1422_170.1 mgn1422_170.2 = true := by decide +kernel
theorem mgk1422_171 : ai_go [mgc55, mgc544, mgc547, mgc548] mgc1422 mgb1422 [81, 92, 93, 94] 0 [46] [] [mgn1422_229, mgn1422_322, mgn1422_236, mgn1422_487, mgn1422_480, mgn1422_478, mgn1422_482, mgn1422_428, mgn1422_430, mgn1422_434, mgn1422_436, mgn1422_433, mgn1422_432, mgn1422_441, mgn1422_401, mgn1422_403, mgn1422_377, mgn1422_365, mgn1422_366, mgn1422_349, mgn1422_342, mgn1422_335, mgn1422_240, mgn1422_311, mgn1422_267, mgn1422_239, mgn1422_238, mgn1422_245, mgn1422_242, mgn1422_243, mgn1422_241, mgn1422_269, mgn1422_271, mgn1422_255, mgn1422_256, mgn1422_249, mgn1422_222] 2000 true mgn1422_171.1 mgn1422_171.2 = true := by decide +kernel
theorem mgk1422_172 : ai_go [mgc55, mgc538, mgc539, mgc542, mgc543] mgc1422 mgb1422 [81, 92, 93, 94] 0 [46] [] [mgn1422_181, mgn1422_188, mgn1422_505, mgn1422_506, mgn1422_476, mgn1422_472, mgn1422_473, mgn1422_494, mgn1422_423, mgn1422_419, mgn1422_416, mgn1422_469, mgn1422_414, mgn1422_418, mgn1422_393, mgn1422_389, mgn1422_387, mgn1422_358, mgn1422_327, mgn1422_332, mgn1422_383, mgn1422_356, mgn1422_326, mgn1422_213, mgn1422_208, mgn1422_207, mgn1422_323, mgn1422_197, mgn1422_199, mgn1422_203, mgn1422_184, mgn1422_174, mgn1422_192, mgn1422_175, mgn1422_182, mgn1422_180, mgn1422_496, mgn1422_495, mgn1422_501, mgn1422_474, mgn1422_470, mgn1422_471, mgn1422_477, mgn1422_422, mgn1422_424, mgn1422_394, mgn1422_390, mgn1422_392, mgn1422_397, mgn1422_427, mgn1422_384, mgn1422_399, mgn1422_359, mgn1422_331, mgn1422_361, mgn1422_329, mgn1422_333, mgn1422_334, mgn1422_206, mgn1422_205, mgn1422_209, mgn1422_198, mgn1422_231, mgn1422_196, mgn1422_200, mgn1422_186, mgn1422_178, mgn1422_173, mgn1422_177, mgn1422_189, mgn1422_176] 2000 true mgn1422_172.1 mgn1422_172.2 = true := by decide +kernel
theorem mgk1422_173 : ai_go [mgc50, mgc673, mgc676, mgc677] mgc1422 mgb1422 [81, 92, 93, 94] 0 [46] [] [mgn1422_190, mgn1422_179, mgn1422_187, mgn1422_487, mgn1422_480, mgn1422_478, mgn1422_482, mgn1422_428, mgn1422_430, mgn1422_434, mgn1422_436, mgn1422_433, mgn1422_432, mgn1422_441, mgn1422_401, mgn1422_403, mgn1422_377, mgn1422_365, mgn1422_366, mgn1422_349, mgn1422_342, mgn1422_335, mgn1422_240, mgn1422_311, mgn1422_267, mgn1422_239, mgn1422_238, mgn1422_245, mgn1422_242, mgn1422_243, mgn1422_241, mgn1422_269] 2000 true mgn1422_173.1 mgn1422_173.2 = true := by decide +kernel
theorem mgk1422_174 : ai_go [mgc48, mgc717, mgc718, mgc721, mgc722] mgc1422 mgb1422 [81, 92, 93, 94] 0 [46] [] [mgn1422_195, mgn1422_212, mgn1422_505, mgn1422_506, mgn1422_476, mgn1422_472, mgn1422_473, mgn1422_494, mgn1422_423, mgn1422_419, mgn1422_416, mgn1422_469, mgn1422_414, mgn1422_418, mgn1422_393, mgn1422_389, mgn1422_387, mgn1422_358, mgn1422_327, mgn1422_332, mgn1422_383, mgn1422_356, mgn1422_326, mgn1422_213, mgn1422_208, mgn1422_207, mgn1422_323, mgn1422_197, mgn1422_204, mgn1422_496, mgn1422_495, mgn1422_501, mgn1422_474, mgn1422_470, mgn1422_471, mgn1422_477, mgn1422_422, mgn1422_424, mgn1422_394, mgn1422_390, mgn1422_392, mgn1422_397, mgn1422_427, mgn1422_384, mgn1422_399, mgn1422_359, mgn1422_331, mgn1422_361, mgn1422_329, mgn1422_333, mgn1422_334, mgn1422_206, mgn1422_205, mgn1422_209, mgn1422_198, mgn1422_231, mgn1422_194] 2000 true mgn1422_174.1 mgn1422_174.2 = true := by decide +kernel
theorem mgk1422_175 : ai_go [mgc50, mgc667, mgc668, mgc671, mgc672] mgc1422 mgb1422 [81, 92, 93, 94] 0 [46] [] [mgn1422_193, mgn1422_194, mgn1422_505, mgn1422_506, mgn1422_476, mgn1422_472, mgn1422_473, mgn1422_494, mgn1422_423, mgn1422_419, mgn1422_416, mgn1422_469, mgn1422_414, mgn1422_418, mgn1422_393, mgn1422_389, mgn1422_387, mgn1422_358, mgn1422_327, mgn1422_332, mgn1422_383, mgn1422_356, mgn1422_326, mgn1422_213, mgn1422_208, mgn1422_207, mgn1422_323, mgn1422_197, mgn1422_199, mgn1422_203, mgn1422_195, mgn1422_496, mgn1422_495, mgn1422_501, mgn1422_474, mgn1422_470, mgn1422_471, mgn1422_477, mgn1422_422, mgn1422_424, mgn1422_394, mgn1422_390, mgn1422_392, mgn1422_397, mgn1422_427, mgn1422_384, mgn1422_399, mgn1422_359, mgn1422_331, mgn1422_361, mgn1422_329, mgn1422_333, mgn1422_334, mgn1422_206, mgn1422_205, mgn1422_209, mgn1422_198, mgn1422_231, mgn1422_196, mgn1422_200, mgn1422_183] 2000 true mgn1422_175.1 mgn1422_175.2 = true := by decide +kernel
theorem mgk1422_176 : ai_go [] mgc1422 mgb1422 [81, 92, 93, 94] 0 [46] [] [] 2000 true mgn1422_176.1 mgn1422_176.2 = true := by decide +kernel
theorem mgk1422_177 : ai_go [mgc51, mgc646, mgc649, mgc650] mgc1422 mgb1422 [81, 92, 93, 94] 0 [46] [] [mgn1422_191, mgn1422_190, mgn1422_179, mgn1422_487, mgn1422_480, mgn1422_478, mgn1422_482, mgn1422_428, mgn1422_430, mgn1422_434, mgn1422_436, mgn1422_433, mgn1422_432, mgn1422_441, mgn1422_401, mgn1422_403, mgn1422_377, mgn1422_365, mgn1422_366, mgn1422_349, mgn1422_342, mgn1422_335, mgn1422_240, mgn1422_311, mgn1422_267, mgn1422_239, mgn1422_238, mgn1422_245, mgn1422_242, mgn1422_243, mgn1422_241, mgn1422_269, mgn1422_271] 2000 true mgn1422_177.1 mgn1422_177.2 = true := by decide +kernel
theorem mgk1422_178 : ai_go [mgc49, mgc698, mgc701, mgc702] mgc1422 mgb1422 [81, 92, 93, 94] 0 [46] [] [mgn1422_179, mgn1422_187, mgn1422_201, mgn1422_487, mgn1422_480, mgn1422_478, mgn1422_482, mgn1422_428, mgn1422_430, mgn1422_434, mgn1422_436, mgn1422_433, mgn1422_432, mgn1422_441, mgn1422_401, mgn1422_403, mgn1422_377, mgn1422_365, mgn1422_366, mgn1422_349, mgn1422_342, mgn1422_335, mgn1422_240, mgn1422_311, mgn1422_267, mgn1422_239, mgn1422_238, mgn1422_245, mgn1422_242, mgn1422_243, mgn1422_241] 2000 true mgn1422_178.1 mgn1422_178.2 = true := by decide +kernel
theorem mgk1422_179 : ai_go [] mgc1422 mgb1422 [81, 92, 93, 94] 0 [46] [] [] 2000 true mgn1422_179.1 mgn1422_179.2 = true := by decide +kernel
theorem mgk1422_180 : ai_go [] mgc1422 mgb1422 [81, 92, 93, 94] 0 [46] [] [] 2000 true mgn1422_180.1 mgn1422_180.2 = true := by decide +kernel
theorem mgk1422_181 : ai_go [] mgc1422 mgb1422 [81, 92, 93, 94] 0 [46] [] [] 2000 true mgn1422_181.1 mgn1422_181.2 = true := by decide +kernel
theorem mgk1422_182 : ai_go [mgc51, mgc640, mgc641, mgc644, mgc645] mgc1422 mgb1422 [81, 92, 93, 94] 0 [46] [] [mgn1422_183, mgn1422_193, mgn1422_505, mgn1422_506, mgn1422_476, mgn1422_472, mgn1422_473, mgn1422_494, mgn1422_423, mgn1422_419, mgn1422_416, mgn1422_469, mgn1422_414, mgn1422_418, mgn1422_393, mgn1422_389, mgn1422_387, mgn1422_358, mgn1422_327, mgn1422_332, mgn1422_383, mgn1422_356, mgn1422_326, mgn1422_213, mgn1422_208, mgn1422_207, mgn1422_323, mgn1422_197, mgn1422_199, mgn1422_203, mgn1422_184, mgn1422_194, mgn1422_496, mgn1422_495, mgn1422_501, mgn1422_474, mgn1422_470, mgn1422_471, mgn1422_477, mgn1422_422, mgn1422_424, mgn1422_394, mgn1422_390, mgn1422_392, mgn1422_397, mgn1422_427, mgn1422_384, mgn1422_399, mgn1422_359, mgn1422_331, mgn1422_361, mgn1422_329, mgn1422_333, mgn1422_334, mgn1422_206, mgn1422_205, mgn1422_209, mgn1422_198, mgn1422_231, mgn1422_196, mgn1422_200, mgn1422_186, mgn1422_185] 2000 true mgn1422_182.1 mgn1422_182.2 = true := by decide +kernel
theorem mgk1422_183 : ai_go [] mgc1422 mgb1422 [81, 92, 93, 94] 0 [46] [] [] 2000 true mgn1422_183.1 mgn1422_183.2 = true := by decide +kernel
theorem mgk1422_184 : ai_go [mgc47, mgc742, mgc743, mgc746, mgc747] mgc1422 mgb1422 [81, 92, 93, 94] 0 [46] [] [mgn1422_212, mgn1422_204, mgn1422_505, mgn1422_506, mgn1422_476, mgn1422_472, mgn1422_473, mgn1422_494, mgn1422_423, mgn1422_419, mgn1422_416, mgn1422_469, mgn1422_414, mgn1422_418, mgn1422_393, mgn1422_389, mgn1422_387, mgn1422_358, mgn1422_327, mgn1422_332, mgn1422_383, mgn1422_356, mgn1422_326, mgn1422_213, mgn1422_208, mgn1422_207, mgn1422_323, mgn1422_214, mgn1422_496, mgn1422_495, mgn1422_501, mgn1422_474, mgn1422_470, mgn1422_471, mgn1422_477, mgn1422_422, mgn1422_424, mgn1422_394, mgn1422_390, mgn1422_392, mgn1422_397, mgn1422_427, mgn1422_384, mgn1422_399, mgn1422_359, mgn1422_331, mgn1422_361, mgn1422_329, mgn1422_333, mgn1422_334, mgn1422_206, mgn1422_205, mgn1422_209, mgn1422_198, mgn1422_195] 2000 true mgn1422_184.1 mgn1422_184.2 = true := by decide +kernel
theorem mgk1422_185 : ai_go [] mgc1422 mgb1422 [81, 92, 93, 94] 0 [46] [] [] 2000 true mgn1422_185.1 mgn1422_185.2 = true := by decide +kernel
theorem mgk1422_186 : ai_go [mgc48, mgc723, mgc726, mgc727] mgc1422 mgb1422 [81, 92, 93, 94] 0 [46] [] [mgn1422_187, mgn1422_201, mgn1422_202, mgn1422_487, mgn1422_480, mgn1422_478, mgn1422_482, mgn1422_428, mgn1422_430, mgn1422_434, mgn1422_436, mgn1422_433, mgn1422_432, mgn1422_441, mgn1422_401, mgn1422_403, mgn1422_377, mgn1422_365, mgn1422_366, mgn1422_349, mgn1422_342, mgn1422_335, mgn1422_240, mgn1422_311, mgn1422_267, mgn1422_239, mgn1422_238, mgn1422_245, mgn1422_242, mgn1422_243] 2000 true mgn1422_186.1 mgn1422_186.2 = true := by decide +kernel
theorem mgk1422_187 : ai_go [] mgc1422 mgb1422 [81, 92, 93, 94] 0 [46] [] [] 2000 true mgn1422_187.1 mgn1422_187.2 = true := by decide +kernel
theorem mgk1422_188 : ai_go [] mgc1422 mgb1422 [81, 92, 93, 94] 0 [46] [] [] 2000 true mgn1422_188.1 mgn1422_188.2 = true := by decide +kernel
theorem mgk1422_189 : ai_go [mgc52, mgc621, mgc624, mgc625] mgc1422 mgb1422 [81, 92, 93, 94] 0 [46] [] [mgn1422_237, mgn1422_191, mgn1422_190, mgn1422_487, mgn1422_480, mgn1422_478, mgn1422_482, mgn1422_428, mgn1422_430, mgn1422_434, mgn1422_436, mgn1422_433, mgn1422_432, mgn1422_441, mgn1422_401, mgn1422_403, mgn1422_377, mgn1422_365, mgn1422_366, mgn1422_349, mgn1422_342, mgn1422_335, mgn1422_240, mgn1422_311, mgn1422_267, mgn1422_239, mgn1422_238, mgn1422_245, mgn1422_242, mgn1422_243, mgn1422_241, mgn1422_269, mgn1422_271, mgn1422_255] 2000 true mgn1422_189.1 mgn1422_189.2 = true := by decide +kernel
theorem mgk1422_190 : ai_go [] mgc1422 mgb1422 [81, 92, 93, 94] 0 [46] [] [] 2000 true mgn1422_190.1 mgn1422_190.2 = true := by decide +kernel
theorem mgk1422_191 : ai_go [] mgc1422 mgb1422 [81, 92, 93, 94] 0 [46] [] [] 2000 true mgn1422_191.1 mgn1422_191.2 = true := by decide +kernel
theorem mgk1422_192 : ai_go [mgc49, mgc692, mgc693, mgc696, mgc697] mgc1422 mgb1422 [81, 92, 93, 94] 0 [46] [] [mgn1422_194, mgn1422_195, mgn1422_505, mgn1422_506, mgn1422_476, mgn1422_472, mgn1422_473, mgn1422_494, mgn1422_423, mgn1422_419, mgn1422_416, mgn1422_469, mgn1422_414, mgn1422_418, mgn1422_393, mgn1422_389, mgn1422_387, mgn1422_358, mgn1422_327, mgn1422_332, mgn1422_383, mgn1422_356, mgn1422_326, mgn1422_213, mgn1422_208, mgn1422_207, mgn1422_323, mgn1422_197, mgn1422_199, mgn1422_212, mgn1422_496, mgn1422_495, mgn1422_501, mgn1422_474, mgn1422_470, mgn1422_471, mgn1422_477, mgn1422_422, mgn1422_424, mgn1422_394, mgn1422_390, mgn1422_392, mgn1422_397, mgn1422_427, mgn1422_384, mgn1422_399, mgn1422_359, mgn1422_331, mgn1422_361, mgn1422_329, mgn1422_333, mgn1422_334, mgn1422_206, mgn1422_205, mgn1422_209, mgn1422_198, mgn1422_231, mgn1422_196, mgn1422_193] 2000 true mgn1422_192.1 mgn1422_192.2 = true := by decide +kernel
theorem mgk1422_193 : ai_go [] mgc1422 mgb1422 [81, 92, 93, 94] 0 [46] [] [] 2000 true mgn1422_193.1 mgn1422_193.2 = true := by decide +kernel
theorem mgk1422_194 : ai_go [] mgc1422 mgb1422 [81, 92, 93, 94] 0 [46] [] [] 2000 true mgn1422_194.1 mgn1422_194.2 = true := by decide +kernel
theorem mgk1422_195 : ai_go [] mgc1422 mgb1422 [81, 92, 93, 94] 0 [46] [] [] 2000 true mgn1422_195.1 mgn1422_195.2 = true := by decide +kernel
theorem mgk1422_196 : ai_go [mgc46, mgc773, mgc776, mgc777] mgc1422 mgb1422 [81, 92, 93, 94] 0 [46] [] [mgn1422_202, mgn1422_233, mgn1422_234, mgn1422_487, mgn1422_480, mgn1422_478, mgn1422_482, mgn1422_428, mgn1422_430, mgn1422_434, mgn1422_436, mgn1422_433, mgn1422_432, mgn1422_441, mgn1422_401, mgn1422_403, mgn1422_377, mgn1422_365, mgn1422_366, mgn1422_349, mgn1422_342, mgn1422_335, mgn1422_240, mgn1422_311, mgn1422_267, mgn1422_239, mgn1422_238, mgn1422_245] 2000 true mgn1422_196.1 mgn1422_196.2 = true := by decide +kernel
theorem mgk1422_197 : ai_go [mgc44, mgc817, mgc818, mgc821, mgc822] mgc1422 mgb1422 [81, 92, 93, 94] 0 [46] [] [mgn1422_214, mgn1422_324, mgn1422_360, mgn1422_505, mgn1422_506, mgn1422_476, mgn1422_472, mgn1422_473, mgn1422_494, mgn1422_423, mgn1422_419, mgn1422_416, mgn1422_469, mgn1422_414, mgn1422_418, mgn1422_393, mgn1422_389, mgn1422_387, mgn1422_358, mgn1422_327, mgn1422_332, mgn1422_383, mgn1422_356, mgn1422_326, mgn1422_213, mgn1422_330, mgn1422_496, mgn1422_495, mgn1422_501, mgn1422_474, mgn1422_470, mgn1422_471, mgn1422_477, mgn1422_422, mgn1422_424, mgn1422_394, mgn1422_390, mgn1422_392, mgn1422_397, mgn1422_427, mgn1422_384, mgn1422_399, mgn1422_359, mgn1422_331, mgn1422_361, mgn1422_329, mgn1422_333, mgn1422_334, mgn1422_206] 2000 true mgn1422_197.1 mgn1422_197.2 = true := by decide +kernel
theorem mgk1422_198 : ai_go [mgc44, mgc823, mgc826, mgc827] mgc1422 mgb1422 [81, 92, 93, 94] 0 [46] [] [mgn1422_234, mgn1422_232, mgn1422_210, mgn1422_487, mgn1422_480, mgn1422_478, mgn1422_482, mgn1422_428, mgn1422_430, mgn1422_434, mgn1422_436, mgn1422_433, mgn1422_432, mgn1422_441, mgn1422_401, mgn1422_403, mgn1422_377, mgn1422_365, mgn1422_366, mgn1422_349, mgn1422_342, mgn1422_335, mgn1422_240, mgn1422_311, mgn1422_267, mgn1422_239] 2000 true mgn1422_198.1 mgn1422_198.2 = true := by decide +kernel
theorem mgk1422_199 : ai_go [mgc45, mgc792, mgc793, mgc796, mgc797] mgc1422 mgb1422 [81, 92, 93, 94] 0 [46] [] [mgn1422_204, mgn1422_214, mgn1422_324, mgn1422_505, mgn1422_506, mgn1422_476, mgn1422_472, mgn1422_473, mgn1422_494, mgn1422_423, mgn1422_419, mgn1422_416, mgn1422_469, mgn1422_414, mgn1422_418, mgn1422_393, mgn1422_389, mgn1422_387, mgn1422_358, mgn1422_327, mgn1422_332, mgn1422_383, mgn1422_356, mgn1422_326, mgn1422_213, mgn1422_208, mgn1422_360, mgn1422_496, mgn1422_495, mgn1422_501, mgn1422_474, mgn1422_470, mgn1422_471, mgn1422_477, mgn1422_422, mgn1422_424, mgn1422_394, mgn1422_390, mgn1422_392, mgn1422_397, mgn1422_427, mgn1422_384, mgn1422_399, mgn1422_359, mgn1422_331, mgn1422_361, mgn1422_329, mgn1422_333, mgn1422_334, mgn1422_206, mgn1422_205] 2000 true mgn1422_199.1 mgn1422_199.2 = true := by decide +kernel
theorem mgk1422_200 : ai_go [mgc47, mgc748, mgc751, mgc752] mgc1422 mgb1422 [81, 92, 93, 94] 0 [46] [] [mgn1422_201, mgn1422_202, mgn1422_233, mgn1422_487, mgn1422_480, mgn1422_478, mgn1422_482, mgn1422_428, mgn1422_430, mgn1422_434, mgn1422_436, mgn1422_433, mgn1422_432, mgn1422_441, mgn1422_401, mgn1422_403, mgn1422_377, mgn1422_365, mgn1422_366, mgn1422_349, mgn1422_342, mgn1422_335, mgn1422_240, mgn1422_311, mgn1422_267, mgn1422_239, mgn1422_238, mgn1422_245, mgn1422_242] 2000 true mgn1422_200.1 mgn1422_200.2 = true := by decide +kernel
theorem mgk1422_201 : ai_go [] mgc1422 mgb1422 [81, 92, 93, 94] 0 [46] [] [] 2000 true mgn1422_201.1 mgn1422_201.2 = true := by decide +kernel
theorem mgk1422_202 : ai_go [] mgc1422 mgb1422 [81, 92, 93, 94] 0 [46] [] [] 2000 true mgn1422_202.1 mgn1422_202.2 = true := by decide +kernel
theorem mgk1422_203 : ai_go [mgc46, mgc767, mgc768, mgc771, mgc772] mgc1422 mgb1422 [81, 92, 93, 94] 0 [46] [] [mgn1422_212, mgn1422_204, mgn1422_214, mgn1422_505, mgn1422_506, mgn1422_476, mgn1422_472, mgn1422_473, mgn1422_494, mgn1422_423, mgn1422_419, mgn1422_416, mgn1422_469, mgn1422_414, mgn1422_418, mgn1422_393, mgn1422_389, mgn1422_387, mgn1422_358, mgn1422_327, mgn1422_332, mgn1422_383, mgn1422_356, mgn1422_326, mgn1422_213, mgn1422_208, mgn1422_207, mgn1422_324, mgn1422_496, mgn1422_495, mgn1422_501, mgn1422_474, mgn1422_470, mgn1422_471, mgn1422_477, mgn1422_422, mgn1422_424, mgn1422_394, mgn1422_390, mgn1422_392, mgn1422_397, mgn1422_427, mgn1422_384, mgn1422_399, mgn1422_359, mgn1422_331, mgn1422_361, mgn1422_329, mgn1422_333, mgn1422_334, mgn1422_206, mgn1422_205, mgn1422_209] 2000 true mgn1422_203.1 mgn1422_203.2 = true := by decide +kernel
theorem mgk1422_204 : ai_go [] mgc1422 mgb1422 [81, 92, 93, 94] 0 [46] [] [] 2000 true mgn1422_204.1 mgn1422_204.2 = true := by decide +kernel
theorem mgk1422_205 : ai_go [mgc42, mgc873, mgc876, mgc877] mgc1422 mgb1422 [81, 92, 93, 94] 0 [46] [] [mgn1422_210, mgn1422_211, mgn1422_341, mgn1422_487, mgn1422_480, mgn1422_478, mgn1422_482, mgn1422_428, mgn1422_430, mgn1422_434, mgn1422_436, mgn1422_433, mgn1422_432, mgn1422_441, mgn1422_401, mgn1422_403, mgn1422_377, mgn1422_365, mgn1422_366, mgn1422_349, mgn1422_342, mgn1422_335, mgn1422_240, mgn1422_311] 2000 true mgn1422_205.1 mgn1422_205.2 = true := by decide +kernel
theorem mgk1422_206 : ai_go [mgc41, mgc898, mgc901, mgc902] mgc1422 mgb1422 [81, 92, 93, 94] 0 [46] [] [mgn1422_211, mgn1422_341, mgn1422_355, mgn1422_487, mgn1422_480, mgn1422_478, mgn1422_482, mgn1422_428, mgn1422_430, mgn1422_434, mgn1422_436, mgn1422_433, mgn1422_432, mgn1422_441, mgn1422_401, mgn1422_403, mgn1422_377, mgn1422_365, mgn1422_366, mgn1422_349, mgn1422_342, mgn1422_335, mgn1422_240] 2000 true mgn1422_206.1 mgn1422_206.2 = true := by decide +kernel
theorem mgk1422_207 : ai_go [mgc42, mgc867, mgc868, mgc871, mgc872] mgc1422 mgb1422 [81, 92, 93, 94] 0 [46] [] [mgn1422_360, mgn1422_330, mgn1422_325, mgn1422_505, mgn1422_506, mgn1422_476, mgn1422_472, mgn1422_473, mgn1422_494, mgn1422_423, mgn1422_419, mgn1422_416, mgn1422_469, mgn1422_414, mgn1422_418, mgn1422_393, mgn1422_389, mgn1422_387, mgn1422_358, mgn1422_327, mgn1422_332, mgn1422_383, mgn1422_356, mgn1422_328, mgn1422_496, mgn1422_495, mgn1422_501, mgn1422_474, mgn1422_470, mgn1422_471, mgn1422_477, mgn1422_422, mgn1422_424, mgn1422_394, mgn1422_390, mgn1422_392, mgn1422_397, mgn1422_427, mgn1422_384, mgn1422_399, mgn1422_359, mgn1422_331, mgn1422_361, mgn1422_329, mgn1422_333] 2000 true mgn1422_207.1 mgn1422_207.2 = true := by decide +kernel
theorem mgk1422_208 : ai_go [mgc41, mgc892, mgc893, mgc896, mgc897] mgc1422 mgb1422 [81, 92, 93, 94] 0 [46] [] [mgn1422_330, mgn1422_325, mgn1422_328, mgn1422_505, mgn1422_506, mgn1422_476, mgn1422_472, mgn1422_473, mgn1422_494, mgn1422_423, mgn1422_419, mgn1422_416, mgn1422_469, mgn1422_414, mgn1422_418, mgn1422_393, mgn1422_389, mgn1422_387, mgn1422_358, mgn1422_327, mgn1422_332, mgn1422_383, mgn1422_357, mgn1422_496, mgn1422_495, mgn1422_501, mgn1422_474, mgn1422_470, mgn1422_471, mgn1422_477, mgn1422_422, mgn1422_424, mgn1422_394, mgn1422_390, mgn1422_392, mgn1422_397, mgn1422_427, mgn1422_384, mgn1422_399, mgn1422_359, mgn1422_331, mgn1422_361, mgn1422_329] 2000 true mgn1422_208.1 mgn1422_208.2 = true := by decide +kernel
theorem mgk1422_209 : ai_go [mgc43, mgc848, mgc851, mgc852] mgc1422 mgb1422 [81, 92, 93, 94] 0 [46] [] [mgn1422_232, mgn1422_210, mgn1422_211, mgn1422_487, mgn1422_480, mgn1422_478, mgn1422_482, mgn1422_428, mgn1422_430, mgn1422_434, mgn1422_436, mgn1422_433, mgn1422_432, mgn1422_441, mgn1422_401, mgn1422_403, mgn1422_377, mgn1422_365, mgn1422_366, mgn1422_349, mgn1422_342, mgn1422_335, mgn1422_240, mgn1422_311, mgn1422_267] 2000 true mgn1422_209.1 mgn1422_209.2 = true := by decide +kernel
theorem mgk1422_210 : ai_go [] mgc1422 mgb1422 [81, 92, 93, 94] 0 [46] [] [] 2000 true mgn1422_210.1 mgn1422_210.2 = true := by decide +kernel
theorem mgk1422_211 : ai_go [] mgc1422 mgb1422 [81, 92, 93, 94] 0 [46] [] [] 2000 true mgn1422_211.1 mgn1422_211.2 = true := by decide +kernel
theorem mgk1422_212 : ai_go [] mgc1422 mgb1422 [81, 92, 93, 94] 0 [46] [] [] 2000 true mgn1422_212.1 mgn1422_212.2 = true := by decide +kernel
theorem mgk1422_213 : ai_go [mgc40, mgc917, mgc918, mgc921, mgc922] mgc1422 mgb1422 [81, 92, 93, 94] 0 [46] [] [mgn1422_325, mgn1422_328, mgn1422_357, mgn1422_505, mgn1422_506, mgn1422_476, mgn1422_472, mgn1422_473, mgn1422_494, mgn1422_423, mgn1422_419, mgn1422_416, mgn1422_469, mgn1422_414, mgn1422_418, mgn1422_393, mgn1422_389, mgn1422_387, mgn1422_358, mgn1422_327, mgn1422_332, mgn1422_415, mgn1422_496, mgn1422_495, mgn1422_501, mgn1422_474, mgn1422_470, mgn1422_471, mgn1422_477, mgn1422_422, mgn1422_424, mgn1422_394, mgn1422_390, mgn1422_392, mgn1422_397, mgn1422_427, mgn1422_384, mgn1422_399, mgn1422_359, mgn1422_331, mgn1422_361] 2000 true mgn1422_213.1 mgn1422_213.2 = true := by decide +kernel
theorem mgk1422_214 : ai_go [] mgc1422 mgb1422 [81, 92, 93, 94] 0 [46] [] [] 2000 true mgn1422_214.1 mgn1422_214.2 = true := by decide +kernel
theorem mgk1422_215 : ai_go [mgc56, mgc519, mgc522, mgc523] mgc1422 mgb1422 [81, 92, 93, 94] 0 [46] [] [mgn1422_228, mgn1422_229, mgn1422_322, mgn1422_487, mgn1422_480, mgn1422_478, mgn1422_482, mgn1422_428, mgn1422_430, mgn1422_434, mgn1422_436, mgn1422_433, mgn1422_432, mgn1422_441, mgn1422_401, mgn1422_403, mgn1422_377, mgn1422_365, mgn1422_366, mgn1422_349, mgn1422_342, mgn1422_335, mgn1422_240, mgn1422_311, mgn1422_267, mgn1422_239, mgn1422_238, mgn1422_245, mgn1422_242, mgn1422_243, mgn1422_241, mgn1422_269, mgn1422_271, mgn1422_255, mgn1422_256, mgn1422_249, mgn1422_222, mgn1422_216] 2000 true mgn1422_215.1 mgn1422_215.2 = true := by decide +kernel
theorem mgk1422_216 : ai_go [mgc53, mgc601, mgc604, mgc605] mgc1422 mgb1422 [81, 92, 93, 94] 0 [46] [] [mgn1422_217, mgn1422_227, mgn1422_250, mgn1422_485, mgn1422_445, mgn1422_465, mgn1422_446, mgn1422_443, mgn1422_442, mgn1422_449, mgn1422_452, mgn1422_405, mgn1422_406, mgn1422_378, mgn1422_369, mgn1422_370, mgn1422_351, mgn1422_344, mgn1422_336, mgn1422_317, mgn1422_313, mgn1422_303, mgn1422_304, mgn1422_299, mgn1422_276, mgn1422_275, mgn1422_273, mgn1422_278, mgn1422_274, mgn1422_283, mgn1422_257, mgn1422_259, mgn1422_251, mgn1422_223, mgn1422_218] 2000 true mgn1422_216.1 mgn1422_216.2 = true := by decide +kernel
theorem mgk1422_217 : ai_go [] mgc1422 mgb1422 [81, 92, 93, 94] 0 [46] [] [] 2000 true mgn1422_217.1 mgn1422_217.2 = true := by decide +kernel
theorem mgk1422_218 : ai_go [mgc50, mgc683, mgc686, mgc687] mgc1422 mgb1422 [81, 92, 93, 94] 0 [46] [] [mgn1422_219, mgn1422_226, mgn1422_254, mgn1422_453, mgn1422_463, mgn1422_457, mgn1422_454, mgn1422_461, mgn1422_408, mgn1422_411, mgn1422_379, mgn1422_374, mgn1422_371, mgn1422_352, mgn1422_345, mgn1422_337, mgn1422_318, mgn1422_314, mgn1422_309, mgn1422_307, mgn1422_300, mgn1422_291, mgn1422_293, mgn1422_284, mgn1422_289, mgn1422_286, mgn1422_296, mgn1422_262, mgn1422_260, mgn1422_252, mgn1422_224, mgn1422_220] 2000 true mgn1422_218.1 mgn1422_218.2 = true := by decide +kernel
theorem mgk1422_219 : ai_go [] mgc1422 mgb1422 [81, 92, 93, 94] 0 [46] [] [] 2000 true mgn1422_219.1 mgn1422_219.2 = true := by decide +kernel
theorem mgk1422_220 : ai_go [mgc47, mgc763, mgc764] mgc1422 mgb1422 [81, 92, 93, 94] 0 [46] [] [mgn1422_221] 2000 true mgn1422_220.1 mgn1422_220.2 = true := by decide +kernel
theorem mgk1422_221 : ai_go [] mgc1422 mgb1422 [81, 92, 93, 94] 0 [46] [] [] 2000 true mgn1422_221.1 mgn1422_221.2 = true := by decide +kernel
theorem mgk1422_222 : ai_go [mgc52, mgc626, mgc629, mgc630] mgc1422 mgb1422 [81, 92, 93, 94] 0 [46] [] [mgn1422_227, mgn1422_250, mgn1422_258, mgn1422_485, mgn1422_445, mgn1422_465, mgn1422_446, mgn1422_443, mgn1422_442, mgn1422_449, mgn1422_452, mgn1422_405, mgn1422_406, mgn1422_378, mgn1422_369, mgn1422_370, mgn1422_351, mgn1422_344, mgn1422_336, mgn1422_317, mgn1422_313, mgn1422_303, mgn1422_304, mgn1422_299, mgn1422_276, mgn1422_275, mgn1422_273, mgn1422_278, mgn1422_274, mgn1422_283, mgn1422_257, mgn1422_259, mgn1422_251, mgn1422_223] 2000 true mgn1422_222.1 mgn1422_222.2 = true := by decide +kernel
theorem mgk1422_223 : ai_go [mgc49, mgc708, mgc711, mgc712] mgc1422 mgb1422 [81, 92, 93, 94] 0 [46] [] [mgn1422_226, mgn1422_254, mgn1422_265, mgn1422_453, mgn1422_463, mgn1422_457, mgn1422_454, mgn1422_461, mgn1422_408, mgn1422_411, mgn1422_379, mgn1422_374, mgn1422_371, mgn1422_352, mgn1422_345, mgn1422_337, mgn1422_318, mgn1422_314, mgn1422_309, mgn1422_307, mgn1422_300, mgn1422_291, mgn1422_293, mgn1422_284, mgn1422_289, mgn1422_286, mgn1422_296, mgn1422_262, mgn1422_260, mgn1422_252, mgn1422_224] 2000 true mgn1422_223.1 mgn1422_223.2 = true := by decide +kernel
theorem mgk1422_224 : ai_go [mgc46, mgc788, mgc789] mgc1422 mgb1422 [81, 92, 93, 94] 0 [46] [] [mgn1422_225] 2000 true mgn1422_224.1 mgn1422_224.2 = true := by decide +kernel
theorem mgk1422_225 : ai_go [] mgc1422 mgb1422 [81, 92, 93, 94] 0 [46] [] [] 2000 true mgn1422_225.1 mgn1422_225.2 = true := by decide +kernel
theorem mgk1422_226 : ai_go [] mgc1422 mgb1422 [81, 92, 93, 94] 0 [46] [] [] 2000 true mgn1422_226.1 mgn1422_226.2 = true := by decide +kernel
theorem mgk1422_227 : ai_go [] mgc1422 mgb1422 [81, 92, 93, 94] 0 [46] [] [] 2000 true mgn1422_227.1 mgn1422_227.2 = true := by decide +kernel
theorem mgk1422_228 : ai_go [] mgc1422 mgb1422 [81, 92, 93, 94] 0 [46] [] [] 2000 true mgn1422_228.1 mgn1422_228.2 = true := by decide +kernel
theorem mgk1422_229 : ai_go [] mgc1422 mgb1422 [81, 92, 93, 94] 0 [46] [] [] 2000 true mgn1422_229.1 mgn1422_229.2 = true := by decide +kernel
theorem mgk1422_230 : ai_go [] mgc1422 mgb1422 [81, 92, 93, 94] 0 [46] [] [] 2000 true mgn1422_230.1 mgn1422_230.2 = true := by decide +kernel
theorem mgk1422_231 : ai_go [mgc45, mgc798, mgc801, mgc802] mgc1422 mgb1422 [81, 92, 93, 94] 0 [46] [] [mgn1422_233, mgn1422_234, mgn1422_232, mgn1422_487, mgn1422_480, mgn1422_478, mgn1422_482, mgn1422_428, mgn1422_430, mgn1422_434, mgn1422_436, mgn1422_433, mgn1422_432, mgn1422_441, mgn1422_401, mgn1422_403, mgn1422_377, mgn1422_365, mgn1422_366, mgn1422_349, mgn1422_342, mgn1422_335, mgn1422_240, mgn1422_311, mgn1422_267, mgn1422_239, mgn1422_238] 2000 true mgn1422_231.1 mgn1422_231.2 = true := by decide +kernel
theorem mgk1422_232 : ai_go [] mgc1422 mgb1422 [81, 92, 93, 94] 0 [46] [] [] 2000 true mgn1422_232.1 mgn1422_232.2 = true := by decide +kernel
theorem mgk1422_233 : ai_go [] mgc1422 mgb1422 [81, 92, 93, 94] 0 [46] [] [] 2000 true mgn1422_233.1 mgn1422_233.2 = true := by decide +kernel
theorem mgk1422_234 : ai_go [] mgc1422 mgb1422 [81, 92, 93, 94] 0 [46] [] [] 2000 true mgn1422_234.1 mgn1422_234.2 = true := by decide +kernel
theorem mgk1422_235 : ai_go [mgc54, mgc571, mgc574, mgc575] mgc1422 mgb1422 [81, 92, 93, 94] 0 [46] [] [mgn1422_322, mgn1422_236, mgn1422_237, mgn1422_487, mgn1422_480, mgn1422_478, mgn1422_482, mgn1422_428, mgn1422_430, mgn1422_434, mgn1422_436, mgn1422_433, mgn1422_432, mgn1422_441, mgn1422_401, mgn1422_403, mgn1422_377, mgn1422_365, mgn1422_366, mgn1422_349, mgn1422_342, mgn1422_335, mgn1422_240, mgn1422_311, mgn1422_267, mgn1422_239, mgn1422_238, mgn1422_245, mgn1422_242, mgn1422_243, mgn1422_241, mgn1422_269, mgn1422_271, mgn1422_255, mgn1422_256, mgn1422_249] 2000 true mgn1422_235.1 mgn1422_235.2 = true := by decide +kernel
theorem mgk1422_236 : ai_go [] mgc1422 mgb1422 [81, 92, 93, 94] 0 [46] [] [] 2000 true mgn1422_236.1 mgn1422_236.2 = true := by decide +kernel
theorem mgk1422_237 : ai_go [] mgc1422 mgb1422 [81, 92, 93, 94] 0 [46] [] [] 2000 true mgn1422_237.1 mgn1422_237.2 = true := by decide +kernel
theorem mgk1422_238 : ai_go [mgc42, mgc878, mgc881, mgc882] mgc1422 mgb1422 [81, 92, 93, 94] 0 [46] [] [mgn1422_246, mgn1422_248, mgn1422_268, mgn1422_485, mgn1422_445, mgn1422_465, mgn1422_446, mgn1422_443, mgn1422_442, mgn1422_449, mgn1422_452, mgn1422_405, mgn1422_406, mgn1422_378, mgn1422_369, mgn1422_370, mgn1422_351, mgn1422_344, mgn1422_336, mgn1422_317, mgn1422_313, mgn1422_303, mgn1422_304, mgn1422_299] 2000 true mgn1422_238.1 mgn1422_238.2 = true := by decide +kernel
theorem mgk1422_239 : ai_go [mgc41, mgc903, mgc906, mgc907] mgc1422 mgb1422 [81, 92, 93, 94] 0 [46] [] [mgn1422_248, mgn1422_268, mgn1422_312, mgn1422_485, mgn1422_445, mgn1422_465, mgn1422_446, mgn1422_443, mgn1422_442, mgn1422_449, mgn1422_452, mgn1422_405, mgn1422_406, mgn1422_378, mgn1422_369, mgn1422_370, mgn1422_351, mgn1422_344, mgn1422_336, mgn1422_317, mgn1422_313, mgn1422_303, mgn1422_304] 2000 true mgn1422_239.1 mgn1422_239.2 = true := by decide +kernel
theorem mgk1422_240 : ai_go [mgc38, mgc978, mgc981, mgc982] mgc1422 mgb1422 [81, 92, 93, 94] 0 [46] [] [mgn1422_321, mgn1422_340, mgn1422_343, mgn1422_485, mgn1422_445, mgn1422_465, mgn1422_446, mgn1422_443, mgn1422_442, mgn1422_449, mgn1422_452, mgn1422_405, mgn1422_406, mgn1422_378, mgn1422_369, mgn1422_370, mgn1422_351, mgn1422_344, mgn1422_336, mgn1422_317] 2000 true mgn1422_240.1 mgn1422_240.2 = true := by decide +kernel
theorem mgk1422_241 : ai_go [mgc46, mgc778, mgc781, mgc782] mgc1422 mgb1422 [81, 92, 93, 94] 0 [46] [] [mgn1422_272, mgn1422_270, mgn1422_244, mgn1422_485, mgn1422_445, mgn1422_465, mgn1422_446, mgn1422_443, mgn1422_442, mgn1422_449, mgn1422_452, mgn1422_405, mgn1422_406, mgn1422_378, mgn1422_369, mgn1422_370, mgn1422_351, mgn1422_344, mgn1422_336, mgn1422_317, mgn1422_313, mgn1422_303, mgn1422_304, mgn1422_299, mgn1422_276, mgn1422_275, mgn1422_273, mgn1422_278] 2000 true mgn1422_241.1 mgn1422_241.2 = true := by decide +kernel
theorem mgk1422_242 : ai_go [mgc44, mgc828, mgc831, mgc832] mgc1422 mgb1422 [81, 92, 93, 94] 0 [46] [] [mgn1422_244, mgn1422_247, mgn1422_246, mgn1422_485, mgn1422_445, mgn1422_465, mgn1422_446, mgn1422_443, mgn1422_442, mgn1422_449, mgn1422_452, mgn1422_405, mgn1422_406, mgn1422_378, mgn1422_369, mgn1422_370, mgn1422_351, mgn1422_344, mgn1422_336, mgn1422_317, mgn1422_313, mgn1422_303, mgn1422_304, mgn1422_299, mgn1422_276, mgn1422_275] 2000 true mgn1422_242.1 mgn1422_242.2 = true := by decide +kernel
theorem mgk1422_243 : ai_go [mgc45, mgc803, mgc806, mgc807] mgc1422 mgb1422 [81, 92, 93, 94] 0 [46] [] [mgn1422_270, mgn1422_244, mgn1422_247, mgn1422_485, mgn1422_445, mgn1422_465, mgn1422_446, mgn1422_443, mgn1422_442, mgn1422_449, mgn1422_452, mgn1422_405, mgn1422_406, mgn1422_378, mgn1422_369, mgn1422_370, mgn1422_351, mgn1422_344, mgn1422_336, mgn1422_317, mgn1422_313, mgn1422_303, mgn1422_304, mgn1422_299, mgn1422_276, mgn1422_275, mgn1422_273] 2000 true mgn1422_243.1 mgn1422_243.2 = true := by decide +kernel
theorem mgk1422_244 : ai_go [] mgc1422 mgb1422 [81, 92, 93, 94] 0 [46] [] [] 2000 true mgn1422_244.1 mgn1422_244.2 = true := by decide +kernel
theorem mgk1422_245 : ai_go [mgc43, mgc853, mgc856, mgc857] mgc1422 mgb1422 [81, 92, 93, 94] 0 [46] [] [mgn1422_247, mgn1422_246, mgn1422_248, mgn1422_485, mgn1422_445, mgn1422_465, mgn1422_446, mgn1422_443, mgn1422_442, mgn1422_449, mgn1422_452, mgn1422_405, mgn1422_406, mgn1422_378, mgn1422_369, mgn1422_370, mgn1422_351, mgn1422_344, mgn1422_336, mgn1422_317, mgn1422_313, mgn1422_303, mgn1422_304, mgn1422_299, mgn1422_276] 2000 true mgn1422_245.1 mgn1422_245.2 = true := by decide +kernel
theorem mgk1422_246 : ai_go [] mgc1422 mgb1422 [81, 92, 93, 94] 0 [46] [] [] 2000 true mgn1422_246.1 mgn1422_246.2 = true := by decide +kernel
theorem mgk1422_247 : ai_go [] mgc1422 mgb1422 [81, 92, 93, 94] 0 [46] [] [] 2000 true mgn1422_247.1 mgn1422_247.2 = true := by decide +kernel
theorem mgk1422_248 : ai_go [] mgc1422 mgb1422 [81, 92, 93, 94] 0 [46] [] [] 2000 true mgn1422_248.1 mgn1422_248.2 = true := by decide +kernel
theorem mgk1422_249 : ai_go [mgc51, mgc651, mgc654, mgc655] mgc1422 mgb1422 [81, 92, 93, 94] 0 [46] [] [mgn1422_250, mgn1422_258, mgn1422_266, mgn1422_485, mgn1422_445, mgn1422_465, mgn1422_446, mgn1422_443, mgn1422_442, mgn1422_449, mgn1422_452, mgn1422_405, mgn1422_406, mgn1422_378, mgn1422_369, mgn1422_370, mgn1422_351, mgn1422_344, mgn1422_336, mgn1422_317, mgn1422_313, mgn1422_303, mgn1422_304, mgn1422_299, mgn1422_276, mgn1422_275, mgn1422_273, mgn1422_278, mgn1422_274, mgn1422_283, mgn1422_257, mgn1422_259, mgn1422_251] 2000 true mgn1422_249.1 mgn1422_249.2 = true := by decide +kernel
theorem mgk1422_250 : ai_go [] mgc1422 mgb1422 [81, 92, 93, 94] 0 [46] [] [] 2000 true mgn1422_250.1 mgn1422_250.2 = true := by decide +kernel
theorem mgk1422_251 : ai_go [mgc48, mgc733, mgc736, mgc737] mgc1422 mgb1422 [81, 92, 93, 94] 0 [46] [] [mgn1422_254, mgn1422_265, mgn1422_264, mgn1422_453, mgn1422_463, mgn1422_457, mgn1422_454, mgn1422_461, mgn1422_408, mgn1422_411, mgn1422_379, mgn1422_374, mgn1422_371, mgn1422_352, mgn1422_345, mgn1422_337, mgn1422_318, mgn1422_314, mgn1422_309, mgn1422_307, mgn1422_300, mgn1422_291, mgn1422_293, mgn1422_284, mgn1422_289, mgn1422_286, mgn1422_296, mgn1422_262, mgn1422_260, mgn1422_252] 2000 true mgn1422_251.1 mgn1422_251.2 = true := by decide +kernel
theorem mgk1422_252 : ai_go [mgc45, mgc813, mgc814] mgc1422 mgb1422 [81, 92, 93, 94] 0 [46] [] [mgn1422_253] 2000 true mgn1422_252.1 mgn1422_252.2 = true := by decide +kernel
theorem mgk1422_253 : ai_go [] mgc1422 mgb1422 [81, 92, 93, 94] 0 [46] [] [] 2000 true mgn1422_253.1 mgn1422_253.2 = true := by decide +kernel
theorem mgk1422_254 : ai_go [] mgc1422 mgb1422 [81, 92, 93, 94] 0 [46] [] [] 2000 true mgn1422_254.1 mgn1422_254.2 = true := by decide +kernel
theorem mgk1422_255 : ai_go [mgc49, mgc703, mgc706, mgc707] mgc1422 mgb1422 [81, 92, 93, 94] 0 [46] [] [mgn1422_266, mgn1422_282, mgn1422_281, mgn1422_485, mgn1422_445, mgn1422_465, mgn1422_446, mgn1422_443, mgn1422_442, mgn1422_449, mgn1422_452, mgn1422_405, mgn1422_406, mgn1422_378, mgn1422_369, mgn1422_370, mgn1422_351, mgn1422_344, mgn1422_336, mgn1422_317, mgn1422_313, mgn1422_303, mgn1422_304, mgn1422_299, mgn1422_276, mgn1422_275, mgn1422_273, mgn1422_278, mgn1422_274, mgn1422_283, mgn1422_257] 2000 true mgn1422_255.1 mgn1422_255.2 = true := by decide +kernel
theorem mgk1422_256 : ai_go [mgc50, mgc678, mgc681, mgc682] mgc1422 mgb1422 [81, 92, 93, 94] 0 [46] [] [mgn1422_258, mgn1422_266, mgn1422_282, mgn1422_485, mgn1422_445, mgn1422_465, mgn1422_446, mgn1422_443, mgn1422_442, mgn1422_449, mgn1422_452, mgn1422_405, mgn1422_406, mgn1422_378, mgn1422_369, mgn1422_370, mgn1422_351, mgn1422_344, mgn1422_336, mgn1422_317, mgn1422_313, mgn1422_303, mgn1422_304, mgn1422_299, mgn1422_276, mgn1422_275, mgn1422_273, mgn1422_278, mgn1422_274, mgn1422_283, mgn1422_257, mgn1422_259] 2000 true mgn1422_256.1 mgn1422_256.2 = true := by decide +kernel
theorem mgk1422_257 : ai_go [mgc46, mgc783, mgc786, mgc787] mgc1422 mgb1422 [81, 92, 93, 94] 0 [46] [] [mgn1422_264, mgn1422_298, mgn1422_288, mgn1422_453, mgn1422_463, mgn1422_457, mgn1422_454, mgn1422_461, mgn1422_408, mgn1422_411, mgn1422_379, mgn1422_374, mgn1422_371, mgn1422_352, mgn1422_345, mgn1422_337, mgn1422_318, mgn1422_314, mgn1422_309, mgn1422_307, mgn1422_300, mgn1422_291, mgn1422_293, mgn1422_284, mgn1422_289, mgn1422_286, mgn1422_296, mgn1422_262] 2000 true mgn1422_257.1 mgn1422_257.2 = true := by decide +kernel
theorem mgk1422_258 : ai_go [] mgc1422 mgb1422 [81, 92, 93, 94] 0 [46] [] [] 2000 true mgn1422_258.1 mgn1422_258.2 = true := by decide +kernel
theorem mgk1422_259 : ai_go [mgc47, mgc758, mgc761, mgc762] mgc1422 mgb1422 [81, 92, 93, 94] 0 [46] [] [mgn1422_265, mgn1422_264, mgn1422_298, mgn1422_453, mgn1422_463, mgn1422_457, mgn1422_454, mgn1422_461, mgn1422_408, mgn1422_411, mgn1422_379, mgn1422_374, mgn1422_371, mgn1422_352, mgn1422_345, mgn1422_337, mgn1422_318, mgn1422_314, mgn1422_309, mgn1422_307, mgn1422_300, mgn1422_291, mgn1422_293, mgn1422_284, mgn1422_289, mgn1422_286, mgn1422_296, mgn1422_262, mgn1422_260] 2000 true mgn1422_259.1 mgn1422_259.2 = true := by decide +kernel
theorem mgk1422_260 : ai_go [mgc44, mgc838, mgc839] mgc1422 mgb1422 [81, 92, 93, 94] 0 [46] [] [mgn1422_261] 2000 true mgn1422_260.1 mgn1422_260.2 = true := by decide +kernel
theorem mgk1422_261 : ai_go [] mgc1422 mgb1422 [81, 92, 93, 94] 0 [46] [] [] 2000 true mgn1422_261.1 mgn1422_261.2 = true := by decide +kernel
theorem mgk1422_262 : ai_go [mgc43, mgc863, mgc864] mgc1422 mgb1422 [81, 92, 93, 94] 0 [46] [] [mgn1422_263] 2000 true mgn1422_262.1 mgn1422_262.2 = true := by decide +kernel
theorem mgk1422_263 : ai_go [] mgc1422 mgb1422 [81, 92, 93, 94] 0 [46] [] [] 2000 true mgn1422_263.1 mgn1422_263.2 = true := by decide +kernel
theorem mgk1422_264 : ai_go [] mgc1422 mgb1422 [81, 92, 93, 94] 0 [46] [] [] 2000 true mgn1422_264.1 mgn1422_264.2 = true := by decide +kernel
theorem mgk1422_265 : ai_go [] mgc1422 mgb1422 [81, 92, 93, 94] 0 [46] [] [] 2000 true mgn1422_265.1 mgn1422_265.2 = true := by decide +kernel
theorem mgk1422_266 : ai_go [] mgc1422 mgb1422 [81, 92, 93, 94] 0 [46] [] [] 2000 true mgn1422_266.1 mgn1422_266.2 = true := by decide +kernel
theorem mgk1422_267 : ai_go [mgc40, mgc928, mgc931, mgc932] mgc1422 mgb1422 [81, 92, 93, 94] 0 [46] [] [mgn1422_268, mgn1422_312, mgn1422_321, mgn1422_485, mgn1422_445, mgn1422_465, mgn1422_446, mgn1422_443, mgn1422_442, mgn1422_449, mgn1422_452, mgn1422_405, mgn1422_406, mgn1422_378, mgn1422_369, mgn1422_370, mgn1422_351, mgn1422_344, mgn1422_336, mgn1422_317, mgn1422_313, mgn1422_303] 2000 true mgn1422_267.1 mgn1422_267.2 = true := by decide +kernel
theorem mgk1422_268 : ai_go [] mgc1422 mgb1422 [81, 92, 93, 94] 0 [46] [] [] 2000 true mgn1422_268.1 mgn1422_268.2 = true := by decide +kernel
theorem mgk1422_269 : ai_go [mgc47, mgc753, mgc756, mgc757] mgc1422 mgb1422 [81, 92, 93, 94] 0 [46] [] [mgn1422_281, mgn1422_272, mgn1422_270, mgn1422_485, mgn1422_445, mgn1422_465, mgn1422_446, mgn1422_443, mgn1422_442, mgn1422_449, mgn1422_452, mgn1422_405, mgn1422_406, mgn1422_378, mgn1422_369, mgn1422_370, mgn1422_351, mgn1422_344, mgn1422_336, mgn1422_317, mgn1422_313, mgn1422_303, mgn1422_304, mgn1422_299, mgn1422_276, mgn1422_275, mgn1422_273, mgn1422_278, mgn1422_274] 2000 true mgn1422_269.1 mgn1422_269.2 = true := by decide +kernel
theorem mgk1422_270 : ai_go [] mgc1422 mgb1422 [81, 92, 93, 94] 0 [46] [] [] 2000 true mgn1422_270.1 mgn1422_270.2 = true := by decide +kernel
theorem mgk1422_271 : ai_go [mgc48, mgc728, mgc731, mgc732] mgc1422 mgb1422 [81, 92, 93, 94] 0 [46] [] [mgn1422_282, mgn1422_281, mgn1422_272, mgn1422_485, mgn1422_445, mgn1422_465, mgn1422_446, mgn1422_443, mgn1422_442, mgn1422_449, mgn1422_452, mgn1422_405, mgn1422_406, mgn1422_378, mgn1422_369, mgn1422_370, mgn1422_351, mgn1422_344, mgn1422_336, mgn1422_317, mgn1422_313, mgn1422_303, mgn1422_304, mgn1422_299, mgn1422_276, mgn1422_275, mgn1422_273, mgn1422_278, mgn1422_274, mgn1422_283] 2000 true mgn1422_271.1 mgn1422_271.2 = true := by decide +kernel
theorem mgk1422_272 : ai_go [] mgc1422 mgb1422 [81, 92, 93, 94] 0 [46] [] [] 2000 true mgn1422_272.1 mgn1422_272.2 = true := by decide +kernel
theorem mgk1422_273 : ai_go [mgc42, mgc883, mgc886, mgc887] mgc1422 mgb1422 [81, 92, 93, 94] 0 [46] [] [mgn1422_279, mgn1422_280, mgn1422_277, mgn1422_453, mgn1422_463, mgn1422_457, mgn1422_454, mgn1422_461, mgn1422_408, mgn1422_411, mgn1422_379, mgn1422_374, mgn1422_371, mgn1422_352, mgn1422_345, mgn1422_337, mgn1422_318, mgn1422_314, mgn1422_309, mgn1422_307, mgn1422_300, mgn1422_291, mgn1422_293, mgn1422_284] 2000 true mgn1422_273.1 mgn1422_273.2 = true := by decide +kernel
theorem mgk1422_274 : ai_go [mgc44, mgc833, mgc836, mgc837] mgc1422 mgb1422 [81, 92, 93, 94] 0 [46] [] [mgn1422_288, mgn1422_295, mgn1422_279, mgn1422_453, mgn1422_463, mgn1422_457, mgn1422_454, mgn1422_461, mgn1422_408, mgn1422_411, mgn1422_379, mgn1422_374, mgn1422_371, mgn1422_352, mgn1422_345, mgn1422_337, mgn1422_318, mgn1422_314, mgn1422_309, mgn1422_307, mgn1422_300, mgn1422_291, mgn1422_293, mgn1422_284, mgn1422_289, mgn1422_286] 2000 true mgn1422_274.1 mgn1422_274.2 = true := by decide +kernel
theorem mgk1422_275 : ai_go [mgc41, mgc908, mgc911, mgc912] mgc1422 mgb1422 [81, 92, 93, 94] 0 [46] [] [mgn1422_280, mgn1422_277, mgn1422_302, mgn1422_453, mgn1422_463, mgn1422_457, mgn1422_454, mgn1422_461, mgn1422_408, mgn1422_411, mgn1422_379, mgn1422_374, mgn1422_371, mgn1422_352, mgn1422_345, mgn1422_337, mgn1422_318, mgn1422_314, mgn1422_309, mgn1422_307, mgn1422_300, mgn1422_291, mgn1422_293] 2000 true mgn1422_275.1 mgn1422_275.2 = true := by decide +kernel
theorem mgk1422_276 : ai_go [mgc40, mgc933, mgc936, mgc937] mgc1422 mgb1422 [81, 92, 93, 94] 0 [46] [] [mgn1422_277, mgn1422_302, mgn1422_306, mgn1422_453, mgn1422_463, mgn1422_457, mgn1422_454, mgn1422_461, mgn1422_408, mgn1422_411, mgn1422_379, mgn1422_374, mgn1422_371, mgn1422_352, mgn1422_345, mgn1422_337, mgn1422_318, mgn1422_314, mgn1422_309, mgn1422_307, mgn1422_300, mgn1422_291] 2000 true mgn1422_276.1 mgn1422_276.2 = true := by decide +kernel
theorem mgk1422_277 : ai_go [] mgc1422 mgb1422 [81, 92, 93, 94] 0 [46] [] [] 2000 true mgn1422_277.1 mgn1422_277.2 = true := by decide +kernel
theorem mgk1422_278 : ai_go [mgc43, mgc858, mgc861, mgc862] mgc1422 mgb1422 [81, 92, 93, 94] 0 [46] [] [mgn1422_295, mgn1422_279, mgn1422_280, mgn1422_453, mgn1422_463, mgn1422_457, mgn1422_454, mgn1422_461, mgn1422_408, mgn1422_411, mgn1422_379, mgn1422_374, mgn1422_371, mgn1422_352, mgn1422_345, mgn1422_337, mgn1422_318, mgn1422_314, mgn1422_309, mgn1422_307, mgn1422_300, mgn1422_291, mgn1422_293, mgn1422_284, mgn1422_289] 2000 true mgn1422_278.1 mgn1422_278.2 = true := by decide +kernel
theorem mgk1422_279 : ai_go [] mgc1422 mgb1422 [81, 92, 93, 94] 0 [46] [] [] 2000 true mgn1422_279.1 mgn1422_279.2 = true := by decide +kernel
theorem mgk1422_280 : ai_go [] mgc1422 mgb1422 [81, 92, 93, 94] 0 [46] [] [] 2000 true mgn1422_280.1 mgn1422_280.2 = true := by decide +kernel
theorem mgk1422_281 : ai_go [] mgc1422 mgb1422 [81, 92, 93, 94] 0 [46] [] [] 2000 true mgn1422_281.1 mgn1422_281.2 = true := by decide +kernel
theorem mgk1422_282 : ai_go [] mgc1422 mgb1422 [81, 92, 93, 94] 0 [46] [] [] 2000 true mgn1422_282.1 mgn1422_282.2 = true := by decide +kernel
theorem mgk1422_283 : ai_go [mgc45, mgc808, mgc811, mgc812] mgc1422 mgb1422 [81, 92, 93, 94] 0 [46] [] [mgn1422_298, mgn1422_288, mgn1422_295, mgn1422_453, mgn1422_463, mgn1422_457, mgn1422_454, mgn1422_461, mgn1422_408, mgn1422_411, mgn1422_379, mgn1422_374, mgn1422_371, mgn1422_352, mgn1422_345, mgn1422_337, mgn1422_318, mgn1422_314, mgn1422_309, mgn1422_307, mgn1422_300, mgn1422_291, mgn1422_293, mgn1422_284, mgn1422_289, mgn1422_286, mgn1422_296] 2000 true mgn1422_283.1 mgn1422_283.2 = true := by decide +kernel
theorem mgk1422_284 : ai_go [mgc39, mgc963, mgc964] mgc1422 mgb1422 [81, 92, 93, 94] 0 [46] [] [mgn1422_285] 2000 true mgn1422_284.1 mgn1422_284.2 = true := by decide +kernel
theorem mgk1422_285 : ai_go [] mgc1422 mgb1422 [81, 92, 93, 94] 0 [46] [] [] 2000 true mgn1422_285.1 mgn1422_285.2 = true := by decide +kernel
theorem mgk1422_286 : ai_go [mgc41, mgc913, mgc914] mgc1422 mgb1422 [81, 92, 93, 94] 0 [46] [] [mgn1422_287] 2000 true mgn1422_286.1 mgn1422_286.2 = true := by decide +kernel
theorem mgk1422_287 : ai_go [] mgc1422 mgb1422 [81, 92, 93, 94] 0 [46] [] [] 2000 true mgn1422_287.1 mgn1422_287.2 = true := by decide +kernel
theorem mgk1422_288 : ai_go [] mgc1422 mgb1422 [81, 92, 93, 94] 0 [46] [] [] 2000 true mgn1422_288.1 mgn1422_288.2 = true := by decide +kernel
theorem mgk1422_289 : ai_go [mgc40, mgc938, mgc939] mgc1422 mgb1422 [81, 92, 93, 94] 0 [46] [] [mgn1422_290] 2000 true mgn1422_289.1 mgn1422_289.2 = true := by decide +kernel
theorem mgk1422_290 : ai_go [] mgc1422 mgb1422 [81, 92, 93, 94] 0 [46] [] [] 2000 true mgn1422_290.1 mgn1422_290.2 = true := by decide +kernel
theorem mgk1422_291 : ai_go [mgc37, mgc1013, mgc1014] mgc1422 mgb1422 [81, 92, 93, 94] 0 [46] [] [mgn1422_292] 2000 true mgn1422_291.1 mgn1422_291.2 = true := by decide +kernel
theorem mgk1422_292 : ai_go [] mgc1422 mgb1422 [81, 92, 93, 94] 0 [46] [] [] 2000 true mgn1422_292.1 mgn1422_292.2 = true := by decide +kernel
theorem mgk1422_293 : ai_go [mgc38, mgc988, mgc989] mgc1422 mgb1422 [81, 92, 93, 94] 0 [46] [] [mgn1422_294] 2000 true mgn1422_293.1 mgn1422_293.2 = true := by decide +kernel
theorem mgk1422_294 : ai_go [] mgc1422 mgb1422 [81, 92, 93, 94] 0 [46] [] [] 2000 true mgn1422_294.1 mgn1422_294.2 = true := by decide +kernel
theorem mgk1422_295 : ai_go [] mgc1422 mgb1422 [81, 92, 93, 94] 0 [46] [] [] 2000 true mgn1422_295.1 mgn1422_295.2 = true := by decide +kernel
theorem mgk1422_296 : ai_go [mgc42, mgc888, mgc889] mgc1422 mgb1422 [81, 92, 93, 94] 0 [46] [] [mgn1422_297] 2000 true mgn1422_296.1 mgn1422_296.2 = true := by decide +kernel
theorem mgk1422_297 : ai_go [] mgc1422 mgb1422 [81, 92, 93, 94] 0 [46] [] [] 2000 true mgn1422_297.1 mgn1422_297.2 = true := by decide +kernel
theorem mgk1422_298 : ai_go [] mgc1422 mgb1422 [81, 92, 93, 94] 0 [46] [] [] 2000 true mgn1422_298.1 mgn1422_298.2 = true := by decide +kernel
theorem mgk1422_299 : ai_go [mgc39, mgc958, mgc961, mgc962] mgc1422 mgb1422 [81, 92, 93, 94] 0 [46] [] [mgn1422_302, mgn1422_306, mgn1422_305, mgn1422_453, mgn1422_463, mgn1422_457, mgn1422_454, mgn1422_461, mgn1422_408, mgn1422_411, mgn1422_379, mgn1422_374, mgn1422_371, mgn1422_352, mgn1422_345, mgn1422_337, mgn1422_318, mgn1422_314, mgn1422_309, mgn1422_307, mgn1422_300] 2000 true mgn1422_299.1 mgn1422_299.2 = true := by decide +kernel
theorem mgk1422_300 : ai_go [mgc36, mgc1038, mgc1039] mgc1422 mgb1422 [81, 92, 93, 94] 0 [46] [] [mgn1422_301] 2000 true mgn1422_300.1 mgn1422_300.2 = true := by decide +kernel
theorem mgk1422_301 : ai_go [] mgc1422 mgb1422 [81, 92, 93, 94] 0 [46] [] [] 2000 true mgn1422_301.1 mgn1422_301.2 = true := by decide +kernel
theorem mgk1422_302 : ai_go [] mgc1422 mgb1422 [81, 92, 93, 94] 0 [46] [] [] 2000 true mgn1422_302.1 mgn1422_302.2 = true := by decide +kernel
theorem mgk1422_303 : ai_go [mgc37, mgc1008, mgc1011, mgc1012] mgc1422 mgb1422 [81, 92, 93, 94] 0 [46] [] [mgn1422_305, mgn1422_316, mgn1422_320, mgn1422_453, mgn1422_463, mgn1422_457, mgn1422_454, mgn1422_461, mgn1422_408, mgn1422_411, mgn1422_379, mgn1422_374, mgn1422_371, mgn1422_352, mgn1422_345, mgn1422_337, mgn1422_318, mgn1422_314, mgn1422_309] 2000 true mgn1422_303.1 mgn1422_303.2 = true := by decide +kernel
theorem mgk1422_304 : ai_go [mgc38, mgc983, mgc986, mgc987] mgc1422 mgb1422 [81, 92, 93, 94] 0 [46] [] [mgn1422_306, mgn1422_305, mgn1422_316, mgn1422_453, mgn1422_463, mgn1422_457, mgn1422_454, mgn1422_461, mgn1422_408, mgn1422_411, mgn1422_379, mgn1422_374, mgn1422_371, mgn1422_352, mgn1422_345, mgn1422_337, mgn1422_318, mgn1422_314, mgn1422_309, mgn1422_307] 2000 true mgn1422_304.1 mgn1422_304.2 = true := by decide +kernel
theorem mgk1422_305 : ai_go [] mgc1422 mgb1422 [81, 92, 93, 94] 0 [46] [] [] 2000 true mgn1422_305.1 mgn1422_305.2 = true := by decide +kernel
theorem mgk1422_306 : ai_go [] mgc1422 mgb1422 [81, 92, 93, 94] 0 [46] [] [] 2000 true mgn1422_306.1 mgn1422_306.2 = true := by decide +kernel
theorem mgk1422_307 : ai_go [mgc35, mgc1063, mgc1064] mgc1422 mgb1422 [81, 92, 93, 94] 0 [46] [] [mgn1422_308] 2000 true mgn1422_307.1 mgn1422_307.2 = true := by decide +kernel
theorem mgk1422_308 : ai_go [] mgc1422 mgb1422 [81, 92, 93, 94] 0 [46] [] [] 2000 true mgn1422_308.1 mgn1422_308.2 = true := by decide +kernel
theorem mgk1422_309 : ai_go [mgc34, mgc1088, mgc1089] mgc1422 mgb1422 [81, 92, 93, 94] 0 [46] [] [mgn1422_310] 2000 true mgn1422_309.1 mgn1422_309.2 = true := by decide +kernel
theorem mgk1422_310 : ai_go [] mgc1422 mgb1422 [81, 92, 93, 94] 0 [46] [] [] 2000 true mgn1422_310.1 mgn1422_310.2 = true := by decide +kernel
theorem mgk1422_311 : ai_go [mgc39, mgc953, mgc956, mgc957] mgc1422 mgb1422 [81, 92, 93, 94] 0 [46] [] [mgn1422_312, mgn1422_321, mgn1422_340, mgn1422_485, mgn1422_445, mgn1422_465, mgn1422_446, mgn1422_443, mgn1422_442, mgn1422_449, mgn1422_452, mgn1422_405, mgn1422_406, mgn1422_378, mgn1422_369, mgn1422_370, mgn1422_351, mgn1422_344, mgn1422_336, mgn1422_317, mgn1422_313] 2000 true mgn1422_311.1 mgn1422_311.2 = true := by decide +kernel
theorem mgk1422_312 : ai_go [] mgc1422 mgb1422 [81, 92, 93, 94] 0 [46] [] [] 2000 true mgn1422_312.1 mgn1422_312.2 = true := by decide +kernel
theorem mgk1422_313 : ai_go [mgc36, mgc1033, mgc1036, mgc1037] mgc1422 mgb1422 [81, 92, 93, 94] 0 [46] [] [mgn1422_316, mgn1422_320, mgn1422_339, mgn1422_453, mgn1422_463, mgn1422_457, mgn1422_454, mgn1422_461, mgn1422_408, mgn1422_411, mgn1422_379, mgn1422_374, mgn1422_371, mgn1422_352, mgn1422_345, mgn1422_337, mgn1422_318, mgn1422_314] 2000 true mgn1422_313.1 mgn1422_313.2 = true := by decide +kernel
theorem mgk1422_314 : ai_go [mgc33, mgc1113, mgc1114] mgc1422 mgb1422 [81, 92, 93, 94] 0 [46] [] [mgn1422_315] 2000 true mgn1422_314.1 mgn1422_314.2 = true := by decide +kernel
theorem mgk1422_315 : ai_go [] mgc1422 mgb1422 [81, 92, 93, 94] 0 [46] [] [] 2000 true mgn1422_315.1 mgn1422_315.2 = true := by decide +kernel
theorem mgk1422_316 : ai_go [] mgc1422 mgb1422 [81, 92, 93, 94] 0 [46] [] [] 2000 true mgn1422_316.1 mgn1422_316.2 = true := by decide +kernel
theorem mgk1422_317 : ai_go [mgc35, mgc1058, mgc1061, mgc1062] mgc1422 mgb1422 [81, 92, 93, 94] 0 [46] [] [mgn1422_320, mgn1422_339, mgn1422_347, mgn1422_453, mgn1422_463, mgn1422_457, mgn1422_454, mgn1422_461, mgn1422_408, mgn1422_411, mgn1422_379, mgn1422_374, mgn1422_371, mgn1422_352, mgn1422_345, mgn1422_337, mgn1422_318] 2000 true mgn1422_317.1 mgn1422_317.2 = true := by decide +kernel
theorem mgk1422_318 : ai_go [mgc32, mgc1138, mgc1139] mgc1422 mgb1422 [81, 92, 93, 94] 0 [46] [] [mgn1422_319] 2000 true mgn1422_318.1 mgn1422_318.2 = true := by decide +kernel
theorem mgk1422_319 : ai_go [] mgc1422 mgb1422 [81, 92, 93, 94] 0 [46] [] [] 2000 true mgn1422_319.1 mgn1422_319.2 = true := by decide +kernel
theorem mgk1422_320 : ai_go [] mgc1422 mgb1422 [81, 92, 93, 94] 0 [46] [] [] 2000 true mgn1422_320.1 mgn1422_320.2 = true := by decide +kernel
theorem mgk1422_321 : ai_go [] mgc1422 mgb1422 [81, 92, 93, 94] 0 [46] [] [] 2000 true mgn1422_321.1 mgn1422_321.2 = true := by decide +kernel
theorem mgk1422_322 : ai_go [] mgc1422 mgb1422 [81, 92, 93, 94] 0 [46] [] [] 2000 true mgn1422_322.1 mgn1422_322.2 = true := by decide +kernel
theorem mgk1422_323 : ai_go [mgc43, mgc842, mgc843, mgc846, mgc847] mgc1422 mgb1422 [81, 92, 93, 94] 0 [46] [] [mgn1422_324, mgn1422_360, mgn1422_330, mgn1422_505, mgn1422_506, mgn1422_476, mgn1422_472, mgn1422_473, mgn1422_494, mgn1422_423, mgn1422_419, mgn1422_416, mgn1422_469, mgn1422_414, mgn1422_418, mgn1422_393, mgn1422_389, mgn1422_387, mgn1422_358, mgn1422_327, mgn1422_332, mgn1422_383, mgn1422_356, mgn1422_326, mgn1422_325, mgn1422_496, mgn1422_495, mgn1422_501, mgn1422_474, mgn1422_470, mgn1422_471, mgn1422_477, mgn1422_422, mgn1422_424, mgn1422_394, mgn1422_390, mgn1422_392, mgn1422_397, mgn1422_427, mgn1422_384, mgn1422_399, mgn1422_359, mgn1422_331, mgn1422_361, mgn1422_329, mgn1422_333, mgn1422_334] 2000 true mgn1422_323.1 mgn1422_323.2 = true := by decide +kernel
theorem mgk1422_324 : ai_go [] mgc1422 mgb1422 [81, 92, 93, 94] 0 [46] [] [] 2000 true mgn1422_324.1 mgn1422_324.2 = true := by decide +kernel
theorem mgk1422_325 : ai_go [] mgc1422 mgb1422 [81, 92, 93, 94] 0 [46] [] [] 2000 true mgn1422_325.1 mgn1422_325.2 = true := by decide +kernel
theorem mgk1422_326 : ai_go [mgc39, mgc942, mgc943, mgc946, mgc947] mgc1422 mgb1422 [81, 92, 93, 94] 0 [46] [] [mgn1422_328, mgn1422_357, mgn1422_415, mgn1422_505, mgn1422_506, mgn1422_476, mgn1422_472, mgn1422_473, mgn1422_494, mgn1422_423, mgn1422_419, mgn1422_416, mgn1422_469, mgn1422_414, mgn1422_418, mgn1422_393, mgn1422_389, mgn1422_387, mgn1422_358, mgn1422_327, mgn1422_385, mgn1422_496, mgn1422_495, mgn1422_501, mgn1422_474, mgn1422_470, mgn1422_471, mgn1422_477, mgn1422_422, mgn1422_424, mgn1422_394, mgn1422_390, mgn1422_392, mgn1422_397, mgn1422_427, mgn1422_384, mgn1422_399, mgn1422_359, mgn1422_331] 2000 true mgn1422_326.1 mgn1422_326.2 = true := by decide +kernel
theorem mgk1422_327 : ai_go [mgc35, mgc1042, mgc1043, mgc1046, mgc1047] mgc1422 mgb1422 [81, 92, 93, 94] 0 [46] [] [mgn1422_386, mgn1422_417, mgn1422_388, mgn1422_505, mgn1422_506, mgn1422_476, mgn1422_472, mgn1422_473, mgn1422_494, mgn1422_423, mgn1422_419, mgn1422_416, mgn1422_469, mgn1422_414, mgn1422_418, mgn1422_393, mgn1422_391, mgn1422_496, mgn1422_495, mgn1422_501, mgn1422_474, mgn1422_470, mgn1422_471, mgn1422_477, mgn1422_422, mgn1422_424, mgn1422_394, mgn1422_390, mgn1422_392, mgn1422_397, mgn1422_427] 2000 true mgn1422_327.1 mgn1422_327.2 = true := by decide +kernel
theorem mgk1422_328 : ai_go [] mgc1422 mgb1422 [81, 92, 93, 94] 0 [46] [] [] 2000 true mgn1422_328.1 mgn1422_328.2 = true := by decide +kernel
theorem mgk1422_329 : ai_go [mgc38, mgc973, mgc976, mgc977] mgc1422 mgb1422 [81, 92, 93, 94] 0 [46] [] [mgn1422_348, mgn1422_362, mgn1422_364, mgn1422_487, mgn1422_480, mgn1422_478, mgn1422_482, mgn1422_428, mgn1422_430, mgn1422_434, mgn1422_436, mgn1422_433, mgn1422_432, mgn1422_441, mgn1422_401, mgn1422_403, mgn1422_377, mgn1422_365, mgn1422_366, mgn1422_349] 2000 true mgn1422_329.1 mgn1422_329.2 = true := by decide +kernel
theorem mgk1422_330 : ai_go [] mgc1422 mgb1422 [81, 92, 93, 94] 0 [46] [] [] 2000 true mgn1422_330.1 mgn1422_330.2 = true := by decide +kernel
theorem mgk1422_331 : ai_go [mgc36, mgc1023, mgc1026, mgc1027] mgc1422 mgb1422 [81, 92, 93, 94] 0 [46] [] [mgn1422_364, mgn1422_363, mgn1422_400, mgn1422_487, mgn1422_480, mgn1422_478, mgn1422_482, mgn1422_428, mgn1422_430, mgn1422_434, mgn1422_436, mgn1422_433, mgn1422_432, mgn1422_441, mgn1422_401, mgn1422_403, mgn1422_377, mgn1422_365] 2000 true mgn1422_331.1 mgn1422_331.2 = true := by decide +kernel
theorem mgk1422_332 : ai_go [mgc36, mgc1017, mgc1018, mgc1021, mgc1022] mgc1422 mgb1422 [81, 92, 93, 94] 0 [46] [] [mgn1422_385, mgn1422_386, mgn1422_417, mgn1422_505, mgn1422_506, mgn1422_476, mgn1422_472, mgn1422_473, mgn1422_494, mgn1422_423, mgn1422_419, mgn1422_416, mgn1422_469, mgn1422_414, mgn1422_418, mgn1422_393, mgn1422_389, mgn1422_388, mgn1422_496, mgn1422_495, mgn1422_501, mgn1422_474, mgn1422_470, mgn1422_471, mgn1422_477, mgn1422_422, mgn1422_424, mgn1422_394, mgn1422_390, mgn1422_392, mgn1422_397, mgn1422_427, mgn1422_384] 2000 true mgn1422_332.1 mgn1422_332.2 = true := by decide +kernel
theorem mgk1422_333 : ai_go [mgc39, mgc948, mgc951, mgc952] mgc1422 mgb1422 [81, 92, 93, 94] 0 [46] [] [mgn1422_355, mgn1422_348, mgn1422_362, mgn1422_487, mgn1422_480, mgn1422_478, mgn1422_482, mgn1422_428, mgn1422_430, mgn1422_434, mgn1422_436, mgn1422_433, mgn1422_432, mgn1422_441, mgn1422_401, mgn1422_403, mgn1422_377, mgn1422_365, mgn1422_366, mgn1422_349, mgn1422_342] 2000 true mgn1422_333.1 mgn1422_333.2 = true := by decide +kernel
theorem mgk1422_334 : ai_go [mgc40, mgc923, mgc926, mgc927] mgc1422 mgb1422 [81, 92, 93, 94] 0 [46] [] [mgn1422_341, mgn1422_355, mgn1422_348, mgn1422_487, mgn1422_480, mgn1422_478, mgn1422_482, mgn1422_428, mgn1422_430, mgn1422_434, mgn1422_436, mgn1422_433, mgn1422_432, mgn1422_441, mgn1422_401, mgn1422_403, mgn1422_377, mgn1422_365, mgn1422_366, mgn1422_349, mgn1422_342, mgn1422_335] 2000 true mgn1422_334.1 mgn1422_334.2 = true := by decide +kernel
theorem mgk1422_335 : ai_go [mgc37, mgc1003, mgc1006, mgc1007] mgc1422 mgb1422 [81, 92, 93, 94] 0 [46] [] [mgn1422_340, mgn1422_343, mgn1422_350, mgn1422_485, mgn1422_445, mgn1422_465, mgn1422_446, mgn1422_443, mgn1422_442, mgn1422_449, mgn1422_452, mgn1422_405, mgn1422_406, mgn1422_378, mgn1422_369, mgn1422_370, mgn1422_351, mgn1422_344, mgn1422_336] 2000 true mgn1422_335.1 mgn1422_335.2 = true := by decide +kernel
theorem mgk1422_336 : ai_go [mgc34, mgc1083, mgc1086, mgc1087] mgc1422 mgb1422 [81, 92, 93, 94] 0 [46] [] [mgn1422_339, mgn1422_347, mgn1422_354, mgn1422_453, mgn1422_463, mgn1422_457, mgn1422_454, mgn1422_461, mgn1422_408, mgn1422_411, mgn1422_379, mgn1422_374, mgn1422_371, mgn1422_352, mgn1422_345, mgn1422_337] 2000 true mgn1422_336.1 mgn1422_336.2 = true := by decide +kernel
theorem mgk1422_337 : ai_go [mgc31, mgc1163, mgc1164] mgc1422 mgb1422 [81, 92, 93, 94] 0 [46] [] [mgn1422_338] 2000 true mgn1422_337.1 mgn1422_337.2 = true := by decide +kernel
theorem mgk1422_338 : ai_go [] mgc1422 mgb1422 [81, 92, 93, 94] 0 [46] [] [] 2000 true mgn1422_338.1 mgn1422_338.2 = true := by decide +kernel
theorem mgk1422_339 : ai_go [] mgc1422 mgb1422 [81, 92, 93, 94] 0 [46] [] [] 2000 true mgn1422_339.1 mgn1422_339.2 = true := by decide +kernel
theorem mgk1422_340 : ai_go [] mgc1422 mgb1422 [81, 92, 93, 94] 0 [46] [] [] 2000 true mgn1422_340.1 mgn1422_340.2 = true := by decide +kernel
theorem mgk1422_341 : ai_go [] mgc1422 mgb1422 [81, 92, 93, 94] 0 [46] [] [] 2000 true mgn1422_341.1 mgn1422_341.2 = true := by decide +kernel
theorem mgk1422_342 : ai_go [mgc36, mgc1028, mgc1031, mgc1032] mgc1422 mgb1422 [81, 92, 93, 94] 0 [46] [] [mgn1422_343, mgn1422_350, mgn1422_367, mgn1422_485, mgn1422_445, mgn1422_465, mgn1422_446, mgn1422_443, mgn1422_442, mgn1422_449, mgn1422_452, mgn1422_405, mgn1422_406, mgn1422_378, mgn1422_369, mgn1422_370, mgn1422_351, mgn1422_344] 2000 true mgn1422_342.1 mgn1422_342.2 = true := by decide +kernel
theorem mgk1422_343 : ai_go [] mgc1422 mgb1422 [81, 92, 93, 94] 0 [46] [] [] 2000 true mgn1422_343.1 mgn1422_343.2 = true := by decide +kernel
theorem mgk1422_344 : ai_go [mgc33, mgc1108, mgc1111, mgc1112] mgc1422 mgb1422 [81, 92, 93, 94] 0 [46] [] [mgn1422_347, mgn1422_354, mgn1422_376, mgn1422_453, mgn1422_463, mgn1422_457, mgn1422_454, mgn1422_461, mgn1422_408, mgn1422_411, mgn1422_379, mgn1422_374, mgn1422_371, mgn1422_352, mgn1422_345] 2000 true mgn1422_344.1 mgn1422_344.2 = true := by decide +kernel
theorem mgk1422_345 : ai_go [mgc30, mgc1188, mgc1189] mgc1422 mgb1422 [81, 92, 93, 94] 0 [46] [] [mgn1422_346] 2000 true mgn1422_345.1 mgn1422_345.2 = true := by decide +kernel
theorem mgk1422_346 : ai_go [] mgc1422 mgb1422 [81, 92, 93, 94] 0 [46] [] [] 2000 true mgn1422_346.1 mgn1422_346.2 = true := by decide +kernel
theorem mgk1422_347 : ai_go [] mgc1422 mgb1422 [81, 92, 93, 94] 0 [46] [] [] 2000 true mgn1422_347.1 mgn1422_347.2 = true := by decide +kernel
theorem mgk1422_348 : ai_go [] mgc1422 mgb1422 [81, 92, 93, 94] 0 [46] [] [] 2000 true mgn1422_348.1 mgn1422_348.2 = true := by decide +kernel
theorem mgk1422_349 : ai_go [mgc35, mgc1053, mgc1056, mgc1057] mgc1422 mgb1422 [81, 92, 93, 94] 0 [46] [] [mgn1422_350, mgn1422_367, mgn1422_368, mgn1422_485, mgn1422_445, mgn1422_465, mgn1422_446, mgn1422_443, mgn1422_442, mgn1422_449, mgn1422_452, mgn1422_405, mgn1422_406, mgn1422_378, mgn1422_369, mgn1422_370, mgn1422_351] 2000 true mgn1422_349.1 mgn1422_349.2 = true := by decide +kernel
theorem mgk1422_350 : ai_go [] mgc1422 mgb1422 [81, 92, 93, 94] 0 [46] [] [] 2000 true mgn1422_350.1 mgn1422_350.2 = true := by decide +kernel
theorem mgk1422_351 : ai_go [mgc32, mgc1133, mgc1136, mgc1137] mgc1422 mgb1422 [81, 92, 93, 94] 0 [46] [] [mgn1422_354, mgn1422_376, mgn1422_373, mgn1422_453, mgn1422_463, mgn1422_457, mgn1422_454, mgn1422_461, mgn1422_408, mgn1422_411, mgn1422_379, mgn1422_374, mgn1422_371, mgn1422_352] 2000 true mgn1422_351.1 mgn1422_351.2 = true := by decide +kernel
theorem mgk1422_352 : ai_go [mgc29, mgc1213, mgc1214] mgc1422 mgb1422 [81, 92, 93, 94] 0 [46] [] [mgn1422_353] 2000 true mgn1422_352.1 mgn1422_352.2 = true := by decide +kernel
theorem mgk1422_353 : ai_go [] mgc1422 mgb1422 [81, 92, 93, 94] 0 [46] [] [] 2000 true mgn1422_353.1 mgn1422_353.2 = true := by decide +kernel
theorem mgk1422_354 : ai_go [] mgc1422 mgb1422 [81, 92, 93, 94] 0 [46] [] [] 2000 true mgn1422_354.1 mgn1422_354.2 = true := by decide +kernel
theorem mgk1422_355 : ai_go [] mgc1422 mgb1422 [81, 92, 93, 94] 0 [46] [] [] 2000 true mgn1422_355.1 mgn1422_355.2 = true := by decide +kernel
theorem mgk1422_356 : ai_go [mgc38, mgc967, mgc968, mgc971, mgc972] mgc1422 mgb1422 [81, 92, 93, 94] 0 [46] [] [mgn1422_357, mgn1422_415, mgn1422_385, mgn1422_505, mgn1422_506, mgn1422_476, mgn1422_472, mgn1422_473, mgn1422_494, mgn1422_423, mgn1422_419, mgn1422_416, mgn1422_469, mgn1422_414, mgn1422_418, mgn1422_393, mgn1422_389, mgn1422_387, mgn1422_358, mgn1422_386, mgn1422_496, mgn1422_495, mgn1422_501, mgn1422_474, mgn1422_470, mgn1422_471, mgn1422_477, mgn1422_422, mgn1422_424, mgn1422_394, mgn1422_390, mgn1422_392, mgn1422_397, mgn1422_427, mgn1422_384, mgn1422_399, mgn1422_359] 2000 true mgn1422_356.1 mgn1422_356.2 = true := by decide +kernel
theorem mgk1422_357 : ai_go [] mgc1422 mgb1422 [81, 92, 93, 94] 0 [46] [] [] 2000 true mgn1422_357.1 mgn1422_357.2 = true := by decide +kernel
theorem mgk1422_358 : ai_go [mgc34, mgc1067, mgc1068, mgc1071, mgc1072] mgc1422 mgb1422 [81, 92, 93, 94] 0 [46] [] [mgn1422_417, mgn1422_388, mgn1422_391, mgn1422_505, mgn1422_506, mgn1422_476, mgn1422_472, mgn1422_473, mgn1422_494, mgn1422_423, mgn1422_419, mgn1422_416, mgn1422_469, mgn1422_414, mgn1422_418, mgn1422_396, mgn1422_496, mgn1422_495, mgn1422_501, mgn1422_474, mgn1422_470, mgn1422_471, mgn1422_477, mgn1422_422, mgn1422_424, mgn1422_394, mgn1422_390, mgn1422_392, mgn1422_397] 2000 true mgn1422_358.1 mgn1422_358.2 = true := by decide +kernel
theorem mgk1422_359 : ai_go [mgc35, mgc1048, mgc1051, mgc1052] mgc1422 mgb1422 [81, 92, 93, 94] 0 [46] [] [mgn1422_363, mgn1422_400, mgn1422_402, mgn1422_487, mgn1422_480, mgn1422_478, mgn1422_482, mgn1422_428, mgn1422_430, mgn1422_434, mgn1422_436, mgn1422_433, mgn1422_432, mgn1422_441, mgn1422_401, mgn1422_403, mgn1422_377] 2000 true mgn1422_359.1 mgn1422_359.2 = true := by decide +kernel
theorem mgk1422_360 : ai_go [] mgc1422 mgb1422 [81, 92, 93, 94] 0 [46] [] [] 2000 true mgn1422_360.1 mgn1422_360.2 = true := by decide +kernel
theorem mgk1422_361 : ai_go [mgc37, mgc998, mgc1001, mgc1002] mgc1422 mgb1422 [81, 92, 93, 94] 0 [46] [] [mgn1422_362, mgn1422_364, mgn1422_363, mgn1422_487, mgn1422_480, mgn1422_478, mgn1422_482, mgn1422_428, mgn1422_430, mgn1422_434, mgn1422_436, mgn1422_433, mgn1422_432, mgn1422_441, mgn1422_401, mgn1422_403, mgn1422_377, mgn1422_365, mgn1422_366] 2000 true mgn1422_361.1 mgn1422_361.2 = true := by decide +kernel
theorem mgk1422_362 : ai_go [] mgc1422 mgb1422 [81, 92, 93, 94] 0 [46] [] [] 2000 true mgn1422_362.1 mgn1422_362.2 = true := by decide +kernel
theorem mgk1422_363 : ai_go [] mgc1422 mgb1422 [81, 92, 93, 94] 0 [46] [] [] 2000 true mgn1422_363.1 mgn1422_363.2 = true := by decide +kernel
theorem mgk1422_364 : ai_go [] mgc1422 mgb1422 [81, 92, 93, 94] 0 [46] [] [] 2000 true mgn1422_364.1 mgn1422_364.2 = true := by decide +kernel
theorem mgk1422_365 : ai_go [mgc33, mgc1103, mgc1106, mgc1107] mgc1422 mgb1422 [81, 92, 93, 94] 0 [46] [] [mgn1422_368, mgn1422_382, mgn1422_413, mgn1422_485, mgn1422_445, mgn1422_465, mgn1422_446, mgn1422_443, mgn1422_442, mgn1422_449, mgn1422_452, mgn1422_405, mgn1422_406, mgn1422_378, mgn1422_369] 2000 true mgn1422_365.1 mgn1422_365.2 = true := by decide +kernel
theorem mgk1422_366 : ai_go [mgc34, mgc1078, mgc1081, mgc1082] mgc1422 mgb1422 [81, 92, 93, 94] 0 [46] [] [mgn1422_367, mgn1422_368, mgn1422_382, mgn1422_485, mgn1422_445, mgn1422_465, mgn1422_446, mgn1422_443, mgn1422_442, mgn1422_449, mgn1422_452, mgn1422_405, mgn1422_406, mgn1422_378, mgn1422_369, mgn1422_370] 2000 true mgn1422_366.1 mgn1422_366.2 = true := by decide +kernel
theorem mgk1422_367 : ai_go [] mgc1422 mgb1422 [81, 92, 93, 94] 0 [46] [] [] 2000 true mgn1422_367.1 mgn1422_367.2 = true := by decide +kernel
theorem mgk1422_368 : ai_go [] mgc1422 mgb1422 [81, 92, 93, 94] 0 [46] [] [] 2000 true mgn1422_368.1 mgn1422_368.2 = true := by decide +kernel
theorem mgk1422_369 : ai_go [mgc30, mgc1183, mgc1186, mgc1187] mgc1422 mgb1422 [81, 92, 93, 94] 0 [46] [] [mgn1422_373, mgn1422_381, mgn1422_407, mgn1422_453, mgn1422_463, mgn1422_457, mgn1422_454, mgn1422_461, mgn1422_408, mgn1422_411, mgn1422_379, mgn1422_374] 2000 true mgn1422_369.1 mgn1422_369.2 = true := by decide +kernel
theorem mgk1422_370 : ai_go [mgc31, mgc1158, mgc1161, mgc1162] mgc1422 mgb1422 [81, 92, 93, 94] 0 [46] [] [mgn1422_376, mgn1422_373, mgn1422_381, mgn1422_453, mgn1422_463, mgn1422_457, mgn1422_454, mgn1422_461, mgn1422_408, mgn1422_411, mgn1422_379, mgn1422_374, mgn1422_371] 2000 true mgn1422_370.1 mgn1422_370.2 = true := by decide +kernel
theorem mgk1422_371 : ai_go [mgc28, mgc1238, mgc1239] mgc1422 mgb1422 [81, 92, 93, 94] 0 [46] [] [mgn1422_372] 2000 true mgn1422_371.1 mgn1422_371.2 = true := by decide +kernel
theorem mgk1422_372 : ai_go [] mgc1422 mgb1422 [81, 92, 93, 94] 0 [46] [] [] 2000 true mgn1422_372.1 mgn1422_372.2 = true := by decide +kernel
theorem mgk1422_373 : ai_go [] mgc1422 mgb1422 [81, 92, 93, 94] 0 [46] [] [] 2000 true mgn1422_373.1 mgn1422_373.2 = true := by decide +kernel
theorem mgk1422_374 : ai_go [mgc27, mgc1263, mgc1264] mgc1422 mgb1422 [81, 92, 93, 94] 0 [46] [] [mgn1422_375] 2000 true mgn1422_374.1 mgn1422_374.2 = true := by decide +kernel
theorem mgk1422_375 : ai_go [] mgc1422 mgb1422 [81, 92, 93, 94] 0 [46] [] [] 2000 true mgn1422_375.1 mgn1422_375.2 = true := by decide +kernel
theorem mgk1422_376 : ai_go [] mgc1422 mgb1422 [81, 92, 93, 94] 0 [46] [] [] 2000 true mgn1422_376.1 mgn1422_376.2 = true := by decide +kernel
theorem mgk1422_377 : ai_go [mgc32, mgc1128, mgc1131, mgc1132] mgc1422 mgb1422 [81, 92, 93, 94] 0 [46] [] [mgn1422_382, mgn1422_413, mgn1422_404, mgn1422_485, mgn1422_445, mgn1422_465, mgn1422_446, mgn1422_443, mgn1422_442, mgn1422_449, mgn1422_452, mgn1422_405, mgn1422_406, mgn1422_378] 2000 true mgn1422_377.1 mgn1422_377.2 = true := by decide +kernel
theorem mgk1422_378 : ai_go [mgc29, mgc1208, mgc1211, mgc1212] mgc1422 mgb1422 [81, 92, 93, 94] 0 [46] [] [mgn1422_381, mgn1422_407, mgn1422_410, mgn1422_453, mgn1422_463, mgn1422_457, mgn1422_454, mgn1422_461, mgn1422_408, mgn1422_411, mgn1422_379] 2000 true mgn1422_378.1 mgn1422_378.2 = true := by decide +kernel
theorem mgk1422_379 : ai_go [mgc26, mgc1288, mgc1289] mgc1422 mgb1422 [81, 92, 93, 94] 0 [46] [] [mgn1422_380] 2000 true mgn1422_379.1 mgn1422_379.2 = true := by decide +kernel
theorem mgk1422_380 : ai_go [] mgc1422 mgb1422 [81, 92, 93, 94] 0 [46] [] [] 2000 true mgn1422_380.1 mgn1422_380.2 = true := by decide +kernel
theorem mgk1422_381 : ai_go [] mgc1422 mgb1422 [81, 92, 93, 94] 0 [46] [] [] 2000 true mgn1422_381.1 mgn1422_381.2 = true := by decide +kernel
theorem mgk1422_382 : ai_go [] mgc1422 mgb1422 [81, 92, 93, 94] 0 [46] [] [] 2000 true mgn1422_382.1 mgn1422_382.2 = true := by decide +kernel
theorem mgk1422_383 : ai_go [mgc37, mgc992, mgc993, mgc996, mgc997] mgc1422 mgb1422 [81, 92, 93, 94] 0 [46] [] [mgn1422_415, mgn1422_385, mgn1422_386, mgn1422_505, mgn1422_506, mgn1422_476, mgn1422_472, mgn1422_473, mgn1422_494, mgn1422_423, mgn1422_419, mgn1422_416, mgn1422_469, mgn1422_414, mgn1422_418, mgn1422_393, mgn1422_389, mgn1422_387, mgn1422_417, mgn1422_496, mgn1422_495, mgn1422_501, mgn1422_474, mgn1422_470, mgn1422_471, mgn1422_477, mgn1422_422, mgn1422_424, mgn1422_394, mgn1422_390, mgn1422_392, mgn1422_397, mgn1422_427, mgn1422_384, mgn1422_399] 2000 true mgn1422_383.1 mgn1422_383.2 = true := by decide +kernel
theorem mgk1422_384 : ai_go [mgc33, mgc1098, mgc1101, mgc1102] mgc1422 mgb1422 [81, 92, 93, 94] 0 [46] [] [mgn1422_402, mgn1422_429, mgn1422_431, mgn1422_487, mgn1422_480, mgn1422_478, mgn1422_482, mgn1422_428, mgn1422_430, mgn1422_434, mgn1422_436, mgn1422_433, mgn1422_432, mgn1422_441, mgn1422_401] 2000 true mgn1422_384.1 mgn1422_384.2 = true := by decide +kernel
theorem mgk1422_385 : ai_go [] mgc1422 mgb1422 [81, 92, 93, 94] 0 [46] [] [] 2000 true mgn1422_385.1 mgn1422_385.2 = true := by decide +kernel
theorem mgk1422_386 : ai_go [] mgc1422 mgb1422 [81, 92, 93, 94] 0 [46] [] [] 2000 true mgn1422_386.1 mgn1422_386.2 = true := by decide +kernel
theorem mgk1422_387 : ai_go [mgc33, mgc1092, mgc1093, mgc1096, mgc1097] mgc1422 mgb1422 [81, 92, 93, 94] 0 [46] [] [mgn1422_388, mgn1422_391, mgn1422_396, mgn1422_505, mgn1422_506, mgn1422_476, mgn1422_472, mgn1422_473, mgn1422_494, mgn1422_423, mgn1422_419, mgn1422_416, mgn1422_469, mgn1422_414, mgn1422_420, mgn1422_496, mgn1422_495, mgn1422_501, mgn1422_474, mgn1422_470, mgn1422_471, mgn1422_477, mgn1422_422, mgn1422_424, mgn1422_394, mgn1422_390, mgn1422_392] 2000 true mgn1422_387.1 mgn1422_387.2 = true := by decide +kernel
theorem mgk1422_388 : ai_go [] mgc1422 mgb1422 [81, 92, 93, 94] 0 [46] [] [] 2000 true mgn1422_388.1 mgn1422_388.2 = true := by decide +kernel
theorem mgk1422_389 : ai_go [mgc32, mgc1117, mgc1118, mgc1121, mgc1122] mgc1422 mgb1422 [81, 92, 93, 94] 0 [46] [] [mgn1422_391, mgn1422_396, mgn1422_420, mgn1422_505, mgn1422_506, mgn1422_476, mgn1422_472, mgn1422_473, mgn1422_494, mgn1422_423, mgn1422_419, mgn1422_416, mgn1422_469, mgn1422_421, mgn1422_496, mgn1422_495, mgn1422_501, mgn1422_474, mgn1422_470, mgn1422_471, mgn1422_477, mgn1422_422, mgn1422_424, mgn1422_394, mgn1422_390] 2000 true mgn1422_389.1 mgn1422_389.2 = true := by decide +kernel
theorem mgk1422_390 : ai_go [mgc29, mgc1198, mgc1201, mgc1202] mgc1422 mgb1422 [81, 92, 93, 94] 0 [46] [] [mgn1422_398, mgn1422_395, mgn1422_426, mgn1422_487, mgn1422_480, mgn1422_478, mgn1422_482, mgn1422_428, mgn1422_430, mgn1422_434, mgn1422_436] 2000 true mgn1422_390.1 mgn1422_390.2 = true := by decide +kernel
theorem mgk1422_391 : ai_go [] mgc1422 mgb1422 [81, 92, 93, 94] 0 [46] [] [] 2000 true mgn1422_391.1 mgn1422_391.2 = true := by decide +kernel
theorem mgk1422_392 : ai_go [mgc30, mgc1173, mgc1176, mgc1177] mgc1422 mgb1422 [81, 92, 93, 94] 0 [46] [] [mgn1422_440, mgn1422_398, mgn1422_395, mgn1422_487, mgn1422_480, mgn1422_478, mgn1422_482, mgn1422_428, mgn1422_430, mgn1422_434, mgn1422_436, mgn1422_433] 2000 true mgn1422_392.1 mgn1422_392.2 = true := by decide +kernel
theorem mgk1422_393 : ai_go [mgc31, mgc1142, mgc1143, mgc1146, mgc1147] mgc1422 mgb1422 [81, 92, 93, 94] 0 [46] [] [mgn1422_396, mgn1422_420, mgn1422_421, mgn1422_505, mgn1422_506, mgn1422_476, mgn1422_472, mgn1422_473, mgn1422_494, mgn1422_423, mgn1422_419, mgn1422_416, mgn1422_492, mgn1422_496, mgn1422_495, mgn1422_501, mgn1422_474, mgn1422_470, mgn1422_471, mgn1422_477, mgn1422_422, mgn1422_424, mgn1422_394] 2000 true mgn1422_393.1 mgn1422_393.2 = true := by decide +kernel
theorem mgk1422_394 : ai_go [mgc28, mgc1223, mgc1226, mgc1227] mgc1422 mgb1422 [81, 92, 93, 94] 0 [46] [] [mgn1422_395, mgn1422_426, mgn1422_425, mgn1422_487, mgn1422_480, mgn1422_478, mgn1422_482, mgn1422_428, mgn1422_430, mgn1422_434] 2000 true mgn1422_394.1 mgn1422_394.2 = true := by decide +kernel
theorem mgk1422_395 : ai_go [] mgc1422 mgb1422 [81, 92, 93, 94] 0 [46] [] [] 2000 true mgn1422_395.1 mgn1422_395.2 = true := by decide +kernel
theorem mgk1422_396 : ai_go [] mgc1422 mgb1422 [81, 92, 93, 94] 0 [46] [] [] 2000 true mgn1422_396.1 mgn1422_396.2 = true := by decide +kernel
theorem mgk1422_397 : ai_go [mgc31, mgc1148, mgc1151, mgc1152] mgc1422 mgb1422 [81, 92, 93, 94] 0 [46] [] [mgn1422_431, mgn1422_440, mgn1422_398, mgn1422_487, mgn1422_480, mgn1422_478, mgn1422_482, mgn1422_428, mgn1422_430, mgn1422_434, mgn1422_436, mgn1422_433, mgn1422_432] 2000 true mgn1422_397.1 mgn1422_397.2 = true := by decide +kernel
theorem mgk1422_398 : ai_go [] mgc1422 mgb1422 [81, 92, 93, 94] 0 [46] [] [] 2000 true mgn1422_398.1 mgn1422_398.2 = true := by decide +kernel
theorem mgk1422_399 : ai_go [mgc34, mgc1073, mgc1076, mgc1077] mgc1422 mgb1422 [81, 92, 93, 94] 0 [46] [] [mgn1422_400, mgn1422_402, mgn1422_429, mgn1422_487, mgn1422_480, mgn1422_478, mgn1422_482, mgn1422_428, mgn1422_430, mgn1422_434, mgn1422_436, mgn1422_433, mgn1422_432, mgn1422_441, mgn1422_401, mgn1422_403] 2000 true mgn1422_399.1 mgn1422_399.2 = true := by decide +kernel
theorem mgk1422_400 : ai_go [] mgc1422 mgb1422 [81, 92, 93, 94] 0 [46] [] [] 2000 true mgn1422_400.1 mgn1422_400.2 = true := by decide +kernel
theorem mgk1422_401 : ai_go [mgc30, mgc1178, mgc1181, mgc1182] mgc1422 mgb1422 [81, 92, 93, 94] 0 [46] [] [mgn1422_404, mgn1422_444, mgn1422_448, mgn1422_485, mgn1422_445, mgn1422_465, mgn1422_446, mgn1422_443, mgn1422_442, mgn1422_449, mgn1422_452, mgn1422_405] 2000 true mgn1422_401.1 mgn1422_401.2 = true := by decide +kernel
theorem mgk1422_402 : ai_go [] mgc1422 mgb1422 [81, 92, 93, 94] 0 [46] [] [] 2000 true mgn1422_402.1 mgn1422_402.2 = true := by decide +kernel
theorem mgk1422_403 : ai_go [mgc31, mgc1153, mgc1156, mgc1157] mgc1422 mgb1422 [81, 92, 93, 94] 0 [46] [] [mgn1422_413, mgn1422_404, mgn1422_444, mgn1422_485, mgn1422_445, mgn1422_465, mgn1422_446, mgn1422_443, mgn1422_442, mgn1422_449, mgn1422_452, mgn1422_405, mgn1422_406] 2000 true mgn1422_403.1 mgn1422_403.2 = true := by decide +kernel
theorem mgk1422_404 : ai_go [] mgc1422 mgb1422 [81, 92, 93, 94] 0 [46] [] [] 2000 true mgn1422_404.1 mgn1422_404.2 = true := by decide +kernel
theorem mgk1422_405 : ai_go [mgc27, mgc1258, mgc1261, mgc1262] mgc1422 mgb1422 [81, 92, 93, 94] 0 [46] [] [mgn1422_410, mgn1422_459, mgn1422_456, mgn1422_453, mgn1422_463, mgn1422_457, mgn1422_454, mgn1422_461, mgn1422_408] 2000 true mgn1422_405.1 mgn1422_405.2 = true := by decide +kernel
theorem mgk1422_406 : ai_go [mgc28, mgc1233, mgc1236, mgc1237] mgc1422 mgb1422 [81, 92, 93, 94] 0 [46] [] [mgn1422_407, mgn1422_410, mgn1422_459, mgn1422_453, mgn1422_463, mgn1422_457, mgn1422_454, mgn1422_461, mgn1422_408, mgn1422_411] 2000 true mgn1422_406.1 mgn1422_406.2 = true := by decide +kernel
theorem mgk1422_407 : ai_go [] mgc1422 mgb1422 [81, 92, 93, 94] 0 [46] [] [] 2000 true mgn1422_407.1 mgn1422_407.2 = true := by decide +kernel
theorem mgk1422_408 : ai_go [mgc24, mgc1338, mgc1339] mgc1422 mgb1422 [81, 92, 93, 94] 0 [46] [] [mgn1422_409] 2000 true mgn1422_408.1 mgn1422_408.2 = true := by decide +kernel
theorem mgk1422_409 : ai_go [] mgc1422 mgb1422 [81, 92, 93, 94] 0 [46] [] [] 2000 true mgn1422_409.1 mgn1422_409.2 = true := by decide +kernel
theorem mgk1422_410 : ai_go [] mgc1422 mgb1422 [81, 92, 93, 94] 0 [46] [] [] 2000 true mgn1422_410.1 mgn1422_410.2 = true := by decide +kernel
theorem mgk1422_411 : ai_go [mgc25, mgc1313, mgc1314] mgc1422 mgb1422 [81, 92, 93, 94] 0 [46] [] [mgn1422_412] 2000 true mgn1422_411.1 mgn1422_411.2 = true := by decide +kernel
theorem mgk1422_412 : ai_go [] mgc1422 mgb1422 [81, 92, 93, 94] 0 [46] [] [] 2000 true mgn1422_412.1 mgn1422_412.2 = true := by decide +kernel
theorem mgk1422_413 : ai_go [] mgc1422 mgb1422 [81, 92, 93, 94] 0 [46] [] [] 2000 true mgn1422_413.1 mgn1422_413.2 = true := by decide +kernel
theorem mgk1422_414 : ai_go [mgc29, mgc1192, mgc1193, mgc1196, mgc1197] mgc1422 mgb1422 [81, 92, 93, 94] 0 [46] [] [mgn1422_421, mgn1422_492, mgn1422_491, mgn1422_505, mgn1422_506, mgn1422_476, mgn1422_472, mgn1422_473, mgn1422_494, mgn1422_423, mgn1422_490, mgn1422_496, mgn1422_495, mgn1422_501, mgn1422_474, mgn1422_470, mgn1422_471, mgn1422_477, mgn1422_422] 2000 true mgn1422_414.1 mgn1422_414.2 = true := by decide +kernel
theorem mgk1422_415 : ai_go [] mgc1422 mgb1422 [81, 92, 93, 94] 0 [46] [] [] 2000 true mgn1422_415.1 mgn1422_415.2 = true := by decide +kernel
theorem mgk1422_416 : ai_go [mgc27, mgc1242, mgc1243, mgc1246, mgc1247] mgc1422 mgb1422 [81, 92, 93, 94] 0 [46] [] [mgn1422_491, mgn1422_490, mgn1422_493, mgn1422_505, mgn1422_506, mgn1422_476, mgn1422_472, mgn1422_473, mgn1422_498, mgn1422_496, mgn1422_495, mgn1422_501, mgn1422_474, mgn1422_470, mgn1422_471] 2000 true mgn1422_416.1 mgn1422_416.2 = true := by decide +kernel
theorem mgk1422_417 : ai_go [] mgc1422 mgb1422 [81, 92, 93, 94] 0 [46] [] [] 2000 true mgn1422_417.1 mgn1422_417.2 = true := by decide +kernel
theorem mgk1422_418 : ai_go [mgc30, mgc1167, mgc1168, mgc1171, mgc1172] mgc1422 mgb1422 [81, 92, 93, 94] 0 [46] [] [mgn1422_420, mgn1422_421, mgn1422_492, mgn1422_505, mgn1422_506, mgn1422_476, mgn1422_472, mgn1422_473, mgn1422_494, mgn1422_423, mgn1422_419, mgn1422_491, mgn1422_496, mgn1422_495, mgn1422_501, mgn1422_474, mgn1422_470, mgn1422_471, mgn1422_477, mgn1422_422, mgn1422_424] 2000 true mgn1422_418.1 mgn1422_418.2 = true := by decide +kernel
theorem mgk1422_419 : ai_go [mgc26, mgc1267, mgc1268, mgc1271, mgc1272] mgc1422 mgb1422 [81, 92, 93, 94] 0 [46] [] [mgn1422_490, mgn1422_493, mgn1422_498, mgn1422_505, mgn1422_506, mgn1422_476, mgn1422_472, mgn1422_499, mgn1422_496, mgn1422_495, mgn1422_501, mgn1422_474, mgn1422_470] 2000 true mgn1422_419.1 mgn1422_419.2 = true := by decide +kernel
theorem mgk1422_420 : ai_go [] mgc1422 mgb1422 [81, 92, 93, 94] 0 [46] [] [] 2000 true mgn1422_420.1 mgn1422_420.2 = true := by decide +kernel
theorem mgk1422_421 : ai_go [] mgc1422 mgb1422 [81, 92, 93, 94] 0 [46] [] [] 2000 true mgn1422_421.1 mgn1422_421.2 = true := by decide +kernel
theorem mgk1422_422 : ai_go [mgc26, mgc1273, mgc1276, mgc1277] mgc1422 mgb1422 [81, 92, 93, 94] 0 [46] [] [mgn1422_425, mgn1422_489, mgn1422_488, mgn1422_487, mgn1422_480, mgn1422_478, mgn1422_482, mgn1422_428] 2000 true mgn1422_422.1 mgn1422_422.2 = true := by decide +kernel
theorem mgk1422_423 : ai_go [mgc25, mgc1292, mgc1293, mgc1296, mgc1297] mgc1422 mgb1422 [81, 92, 93, 94] 0 [46] [] [mgn1422_493, mgn1422_498, mgn1422_499, mgn1422_505, mgn1422_506, mgn1422_476, mgn1422_497, mgn1422_496, mgn1422_495, mgn1422_501, mgn1422_474] 2000 true mgn1422_423.1 mgn1422_423.2 = true := by decide +kernel
theorem mgk1422_424 : ai_go [mgc27, mgc1248, mgc1251, mgc1252] mgc1422 mgb1422 [81, 92, 93, 94] 0 [46] [] [mgn1422_426, mgn1422_425, mgn1422_489, mgn1422_487, mgn1422_480, mgn1422_478, mgn1422_482, mgn1422_428, mgn1422_430] 2000 true mgn1422_424.1 mgn1422_424.2 = true := by decide +kernel
theorem mgk1422_425 : ai_go [] mgc1422 mgb1422 [81, 92, 93, 94] 0 [46] [] [] 2000 true mgn1422_425.1 mgn1422_425.2 = true := by decide +kernel
theorem mgk1422_426 : ai_go [] mgc1422 mgb1422 [81, 92, 93, 94] 0 [46] [] [] 2000 true mgn1422_426.1 mgn1422_426.2 = true := by decide +kernel
theorem mgk1422_427 : ai_go [mgc32, mgc1123, mgc1126, mgc1127] mgc1422 mgb1422 [81, 92, 93, 94] 0 [46] [] [mgn1422_429, mgn1422_431, mgn1422_440, mgn1422_487, mgn1422_480, mgn1422_478, mgn1422_482, mgn1422_428, mgn1422_430, mgn1422_434, mgn1422_436, mgn1422_433, mgn1422_432, mgn1422_441] 2000 true mgn1422_427.1 mgn1422_427.2 = true := by decide +kernel
theorem mgk1422_428 : ai_go [mgc23, mgc1353, mgc1356, mgc1357] mgc1422 mgb1422 [81, 92, 93, 94] 0 [46] [] [mgn1422_435, mgn1422_483, mgn1422_486, mgn1422_485, mgn1422_445] 2000 true mgn1422_428.1 mgn1422_428.2 = true := by decide +kernel
theorem mgk1422_429 : ai_go [] mgc1422 mgb1422 [81, 92, 93, 94] 0 [46] [] [] 2000 true mgn1422_429.1 mgn1422_429.2 = true := by decide +kernel
theorem mgk1422_430 : ai_go [mgc24, mgc1328, mgc1331, mgc1332] mgc1422 mgb1422 [81, 92, 93, 94] 0 [46] [] [mgn1422_437, mgn1422_435, mgn1422_483, mgn1422_485, mgn1422_445, mgn1422_465] 2000 true mgn1422_430.1 mgn1422_430.2 = true := by decide +kernel
theorem mgk1422_431 : ai_go [] mgc1422 mgb1422 [81, 92, 93, 94] 0 [46] [] [] 2000 true mgn1422_431.1 mgn1422_431.2 = true := by decide +kernel
theorem mgk1422_432 : ai_go [mgc28, mgc1228, mgc1231, mgc1232] mgc1422 mgb1422 [81, 92, 93, 94] 0 [46] [] [mgn1422_448, mgn1422_451, mgn1422_439, mgn1422_485, mgn1422_445, mgn1422_465, mgn1422_446, mgn1422_443, mgn1422_442, mgn1422_449] 2000 true mgn1422_432.1 mgn1422_432.2 = true := by decide +kernel
theorem mgk1422_433 : ai_go [mgc27, mgc1253, mgc1256, mgc1257] mgc1422 mgb1422 [81, 92, 93, 94] 0 [46] [] [mgn1422_451, mgn1422_439, mgn1422_438, mgn1422_485, mgn1422_445, mgn1422_465, mgn1422_446, mgn1422_443, mgn1422_442] 2000 true mgn1422_433.1 mgn1422_433.2 = true := by decide +kernel
theorem mgk1422_434 : ai_go [mgc25, mgc1303, mgc1306, mgc1307] mgc1422 mgb1422 [81, 92, 93, 94] 0 [46] [] [mgn1422_438, mgn1422_437, mgn1422_435, mgn1422_485, mgn1422_445, mgn1422_465, mgn1422_446] 2000 true mgn1422_434.1 mgn1422_434.2 = true := by decide +kernel
theorem mgk1422_435 : ai_go [] mgc1422 mgb1422 [81, 92, 93, 94] 0 [46] [] [] 2000 true mgn1422_435.1 mgn1422_435.2 = true := by decide +kernel
theorem mgk1422_436 : ai_go [mgc26, mgc1278, mgc1281, mgc1282] mgc1422 mgb1422 [81, 92, 93, 94] 0 [46] [] [mgn1422_439, mgn1422_438, mgn1422_437, mgn1422_485, mgn1422_445, mgn1422_465, mgn1422_446, mgn1422_443] 2000 true mgn1422_436.1 mgn1422_436.2 = true := by decide +kernel
theorem mgk1422_437 : ai_go [] mgc1422 mgb1422 [81, 92, 93, 94] 0 [46] [] [] 2000 true mgn1422_437.1 mgn1422_437.2 = true := by decide +kernel
theorem mgk1422_438 : ai_go [] mgc1422 mgb1422 [81, 92, 93, 94] 0 [46] [] [] 2000 true mgn1422_438.1 mgn1422_438.2 = true := by decide +kernel
theorem mgk1422_439 : ai_go [] mgc1422 mgb1422 [81, 92, 93, 94] 0 [46] [] [] 2000 true mgn1422_439.1 mgn1422_439.2 = true := by decide +kernel
theorem mgk1422_440 : ai_go [] mgc1422 mgb1422 [81, 92, 93, 94] 0 [46] [] [] 2000 true mgn1422_440.1 mgn1422_440.2 = true := by decide +kernel
theorem mgk1422_441 : ai_go [mgc29, mgc1203, mgc1206, mgc1207] mgc1422 mgb1422 [81, 92, 93, 94] 0 [46] [] [mgn1422_444, mgn1422_448, mgn1422_451, mgn1422_485, mgn1422_445, mgn1422_465, mgn1422_446, mgn1422_443, mgn1422_442, mgn1422_449, mgn1422_452] 2000 true mgn1422_441.1 mgn1422_441.2 = true := by decide +kernel
theorem mgk1422_442 : ai_go [mgc24, mgc1333, mgc1336, mgc1337] mgc1422 mgb1422 [81, 92, 93, 94] 0 [46] [] [mgn1422_460, mgn1422_450, mgn1422_447, mgn1422_453, mgn1422_463, mgn1422_457] 2000 true mgn1422_442.1 mgn1422_442.2 = true := by decide +kernel
theorem mgk1422_443 : ai_go [mgc23, mgc1358, mgc1361, mgc1362] mgc1422 mgb1422 [81, 92, 93, 94] 0 [46] [] [mgn1422_450, mgn1422_447, mgn1422_467, mgn1422_453, mgn1422_463] 2000 true mgn1422_443.1 mgn1422_443.2 = true := by decide +kernel
theorem mgk1422_444 : ai_go [] mgc1422 mgb1422 [81, 92, 93, 94] 0 [46] [] [] 2000 true mgn1422_444.1 mgn1422_444.2 = true := by decide +kernel
theorem mgk1422_445 : ai_go [mgc20, mgc1417, mgc1419] mgc1422 mgb1422 [81, 92, 93, 94] 0 [46] [] [mgn1422_468, mgn1422_466] 2000 true mgn1422_445.1 mgn1422_445.2 = true := by decide +kernel
theorem mgk1422_446 : ai_go [mgc22, mgc1382, mgc1385, mgc1386] mgc1422 mgb1422 [81, 92, 93, 94] 0 [46] [] [mgn1422_447, mgn1422_467, mgn1422_468, mgn1422_453] 2000 true mgn1422_446.1 mgn1422_446.2 = true := by decide +kernel
theorem mgk1422_447 : ai_go [] mgc1422 mgb1422 [81, 92, 93, 94] 0 [46] [] [] 2000 true mgn1422_447.1 mgn1422_447.2 = true := by decide +kernel
theorem mgk1422_448 : ai_go [] mgc1422 mgb1422 [81, 92, 93, 94] 0 [46] [] [] 2000 true mgn1422_448.1 mgn1422_448.2 = true := by decide +kernel
theorem mgk1422_449 : ai_go [mgc25, mgc1308, mgc1311, mgc1312] mgc1422 mgb1422 [81, 92, 93, 94] 0 [46] [] [mgn1422_456, mgn1422_460, mgn1422_450, mgn1422_453, mgn1422_463, mgn1422_457, mgn1422_454] 2000 true mgn1422_449.1 mgn1422_449.2 = true := by decide +kernel
theorem mgk1422_450 : ai_go [] mgc1422 mgb1422 [81, 92, 93, 94] 0 [46] [] [] 2000 true mgn1422_450.1 mgn1422_450.2 = true := by decide +kernel
theorem mgk1422_451 : ai_go [] mgc1422 mgb1422 [81, 92, 93, 94] 0 [46] [] [] 2000 true mgn1422_451.1 mgn1422_451.2 = true := by decide +kernel
theorem mgk1422_452 : ai_go [mgc26, mgc1283, mgc1286, mgc1287] mgc1422 mgb1422 [81, 92, 93, 94] 0 [46] [] [mgn1422_459, mgn1422_456, mgn1422_460, mgn1422_453, mgn1422_463, mgn1422_457, mgn1422_454, mgn1422_461] 2000 true mgn1422_452.1 mgn1422_452.2 = true := by decide +kernel
theorem mgk1422_453 : ai_go [] mgc1422 mgb1422 [81, 92, 93, 94] 0 [46] [] [] 2000 true mgn1422_453.1 mgn1422_453.2 = true := by decide +kernel
theorem mgk1422_454 : ai_go [mgc22, mgc1387, mgc1388] mgc1422 mgb1422 [81, 92, 93, 94] 0 [46] [] [mgn1422_455] 2000 true mgn1422_454.1 mgn1422_454.2 = true := by decide +kernel
theorem mgk1422_455 : ai_go [] mgc1422 mgb1422 [81, 92, 93, 94] 0 [46] [] [] 2000 true mgn1422_455.1 mgn1422_455.2 = true := by decide +kernel
theorem mgk1422_456 : ai_go [] mgc1422 mgb1422 [81, 92, 93, 94] 0 [46] [] [] 2000 true mgn1422_456.1 mgn1422_456.2 = true := by decide +kernel
theorem mgk1422_457 : ai_go [mgc21, mgc1406, mgc1407] mgc1422 mgb1422 [81, 92, 93, 94] 0 [46] [] [mgn1422_458] 2000 true mgn1422_457.1 mgn1422_457.2 = true := by decide +kernel
theorem mgk1422_458 : ai_go [] mgc1422 mgb1422 [81, 92, 93, 94] 0 [46] [] [] 2000 true mgn1422_458.1 mgn1422_458.2 = true := by decide +kernel
theorem mgk1422_459 : ai_go [] mgc1422 mgb1422 [81, 92, 93, 94] 0 [46] [] [] 2000 true mgn1422_459.1 mgn1422_459.2 = true := by decide +kernel
theorem mgk1422_460 : ai_go [] mgc1422 mgb1422 [81, 92, 93, 94] 0 [46] [] [] 2000 true mgn1422_460.1 mgn1422_460.2 = true := by decide +kernel
theorem mgk1422_461 : ai_go [mgc23, mgc1363, mgc1364] mgc1422 mgb1422 [81, 92, 93, 94] 0 [46] [] [mgn1422_462] 2000 true mgn1422_461.1 mgn1422_461.2 = true := by decide +kernel
theorem mgk1422_462 : ai_go [] mgc1422 mgb1422 [81, 92, 93, 94] 0 [46] [] [] 2000 true mgn1422_462.1 mgn1422_462.2 = true := by decide +kernel
theorem mgk1422_463 : ai_go [mgc20, mgc1420, mgc1421] mgc1422 mgb1422 [81, 92, 93, 94] 0 [46] [] [mgn1422_464] 2000 true mgn1422_463.1 mgn1422_463.2 = true := by decide +kernel
theorem mgk1422_464 : ai_go [] mgc1422 mgb1422 [81, 92, 93, 94] 0 [46] [] [] 2000 true mgn1422_464.1 mgn1422_464.2 = true := by decide +kernel
theorem mgk1422_465 : ai_go [mgc21, mgc1402, mgc1405] mgc1422 mgb1422 [81, 92, 93, 94] 0 [46] [] [mgn1422_467, mgn1422_468, mgn1422_466] 2000 true mgn1422_465.1 mgn1422_465.2 = true := by decide +kernel
theorem mgk1422_466 : ai_go [] mgc1422 mgb1422 [81, 92, 93, 94] 0 [46] [] [] 2000 true mgn1422_466.1 mgn1422_466.2 = true := by decide +kernel
theorem mgk1422_467 : ai_go [] mgc1422 mgb1422 [81, 92, 93, 94] 0 [46] [] [] 2000 true mgn1422_467.1 mgn1422_467.2 = true := by decide +kernel
theorem mgk1422_468 : ai_go [] mgc1422 mgb1422 [81, 92, 93, 94] 0 [46] [] [] 2000 true mgn1422_468.1 mgn1422_468.2 = true := by decide +kernel
theorem mgk1422_469 : ai_go [mgc28, mgc1217, mgc1218, mgc1221, mgc1222] mgc1422 mgb1422 [81, 92, 93, 94] 0 [46] [] [mgn1422_492, mgn1422_491, mgn1422_490, mgn1422_505, mgn1422_506, mgn1422_476, mgn1422_472, mgn1422_473, mgn1422_494, mgn1422_493, mgn1422_496, mgn1422_495, mgn1422_501, mgn1422_474, mgn1422_470, mgn1422_471, mgn1422_477] 2000 true mgn1422_469.1 mgn1422_469.2 = true := by decide +kernel
theorem mgk1422_470 : ai_go [mgc23, mgc1348, mgc1351, mgc1352] mgc1422 mgb1422 [81, 92, 93, 94] 0 [46] [] [mgn1422_479, mgn1422_475, mgn1422_502, mgn1422_487, mgn1422_480] 2000 true mgn1422_470.1 mgn1422_470.2 = true := by decide +kernel
theorem mgk1422_471 : ai_go [mgc24, mgc1323, mgc1326, mgc1327] mgc1422 mgb1422 [81, 92, 93, 94] 0 [46] [] [mgn1422_488, mgn1422_479, mgn1422_475, mgn1422_487, mgn1422_480, mgn1422_478] 2000 true mgn1422_471.1 mgn1422_471.2 = true := by decide +kernel
theorem mgk1422_472 : ai_go [mgc22, mgc1367, mgc1370, mgc1371] mgc1422 mgb1422 [81, 92, 93, 94] 0 [46] [] [mgn1422_497, mgn1422_500, mgn1422_507, mgn1422_508, mgn1422_496] 2000 true mgn1422_472.1 mgn1422_472.2 = true := by decide +kernel
theorem mgk1422_473 : ai_go [mgc23, mgc1342, mgc1343, mgc1346, mgc1347] mgc1422 mgb1422 [81, 92, 93, 94] 0 [46] [] [mgn1422_499, mgn1422_497, mgn1422_500, mgn1422_505, mgn1422_508, mgn1422_496, mgn1422_495] 2000 true mgn1422_473.1 mgn1422_473.2 = true := by decide +kernel
theorem mgk1422_474 : ai_go [mgc22, mgc1372, mgc1375, mgc1376] mgc1422 mgb1422 [81, 92, 93, 94] 0 [46] [] [mgn1422_475, mgn1422_502, mgn1422_503, mgn1422_487] 2000 true mgn1422_474.1 mgn1422_474.2 = true := by decide +kernel
theorem mgk1422_475 : ai_go [] mgc1422 mgb1422 [81, 92, 93, 94] 0 [46] [] [] 2000 true mgn1422_475.1 mgn1422_475.2 = true := by decide +kernel
theorem mgk1422_476 : ai_go [mgc21, mgc1390, mgc1393] mgc1422 mgb1422 [81, 92, 93, 94] 0 [46] [] [mgn1422_500, mgn1422_508, mgn1422_507] 2000 true mgn1422_476.1 mgn1422_476.2 = true := by decide +kernel
theorem mgk1422_477 : ai_go [mgc25, mgc1298, mgc1301, mgc1302] mgc1422 mgb1422 [81, 92, 93, 94] 0 [46] [] [mgn1422_489, mgn1422_488, mgn1422_479, mgn1422_487, mgn1422_480, mgn1422_478, mgn1422_482] 2000 true mgn1422_477.1 mgn1422_477.2 = true := by decide +kernel
theorem mgk1422_478 : ai_go [mgc21, mgc1398, mgc1401] mgc1422 mgb1422 [81, 92, 93, 94] 0 [46] [] [mgn1422_486, mgn1422_484, mgn1422_481] 2000 true mgn1422_478.1 mgn1422_478.2 = true := by decide +kernel
theorem mgk1422_479 : ai_go [] mgc1422 mgb1422 [81, 92, 93, 94] 0 [46] [] [] 2000 true mgn1422_479.1 mgn1422_479.2 = true := by decide +kernel
theorem mgk1422_480 : ai_go [mgc20, mgc1414, mgc1416] mgc1422 mgb1422 [81, 92, 93, 94] 0 [46] [] [mgn1422_484, mgn1422_481] 2000 true mgn1422_480.1 mgn1422_480.2 = true := by decide +kernel
theorem mgk1422_481 : ai_go [] mgc1422 mgb1422 [81, 92, 93, 94] 0 [46] [] [] 2000 true mgn1422_481.1 mgn1422_481.2 = true := by decide +kernel
theorem mgk1422_482 : ai_go [mgc22, mgc1377, mgc1380, mgc1381] mgc1422 mgb1422 [81, 92, 93, 94] 0 [46] [] [mgn1422_483, mgn1422_486, mgn1422_484, mgn1422_485] 2000 true mgn1422_482.1 mgn1422_482.2 = true := by decide +kernel
theorem mgk1422_483 : ai_go [] mgc1422 mgb1422 [81, 92, 93, 94] 0 [46] [] [] 2000 true mgn1422_483.1 mgn1422_483.2 = true := by decide +kernel
theorem mgk1422_484 : ai_go [] mgc1422 mgb1422 [81, 92, 93, 94] 0 [46] [] [] 2000 true mgn1422_484.1 mgn1422_484.2 = true := by decide +kernel
theorem mgk1422_485 : ai_go [] mgc1422 mgb1422 [81, 92, 93, 94] 0 [46] [] [] 2000 true mgn1422_485.1 mgn1422_485.2 = true := by decide +kernel
theorem mgk1422_486 : ai_go [] mgc1422 mgb1422 [81, 92, 93, 94] 0 [46] [] [] 2000 true mgn1422_486.1 mgn1422_486.2 = true := by decide +kernel
theorem mgk1422_487 : ai_go [] mgc1422 mgb1422 [81, 92, 93, 94] 0 [46] [] [] 2000 true mgn1422_487.1 mgn1422_487.2 = true := by decide +kernel
theorem mgk1422_488 : ai_go [] mgc1422 mgb1422 [81, 92, 93, 94] 0 [46] [] [] 2000 true mgn1422_488.1 mgn1422_488.2 = true := by decide +kernel
theorem mgk1422_489 : ai_go [] mgc1422 mgb1422 [81, 92, 93, 94] 0 [46] [] [] 2000 true mgn1422_489.1 mgn1422_489.2 = true := by decide +kernel
theorem mgk1422_490 : ai_go [] mgc1422 mgb1422 [81, 92, 93, 94] 0 [46] [] [] 2000 true mgn1422_490.1 mgn1422_490.2 = true := by decide +kernel
theorem mgk1422_491 : ai_go [] mgc1422 mgb1422 [81, 92, 93, 94] 0 [46] [] [] 2000 true mgn1422_491.1 mgn1422_491.2 = true := by decide +kernel
theorem mgk1422_492 : ai_go [] mgc1422 mgb1422 [81, 92, 93, 94] 0 [46] [] [] 2000 true mgn1422_492.1 mgn1422_492.2 = true := by decide +kernel
theorem mgk1422_493 : ai_go [] mgc1422 mgb1422 [81, 92, 93, 94] 0 [46] [] [] 2000 true mgn1422_493.1 mgn1422_493.2 = true := by decide +kernel
theorem mgk1422_494 : ai_go [mgc24, mgc1317, mgc1318, mgc1321, mgc1322] mgc1422 mgb1422 [81, 92, 93, 94] 0 [46] [] [mgn1422_498, mgn1422_499, mgn1422_497, mgn1422_505, mgn1422_506, mgn1422_500, mgn1422_496, mgn1422_495, mgn1422_501] 2000 true mgn1422_494.1 mgn1422_494.2 = true := by decide +kernel
theorem mgk1422_495 : ai_go [mgc20, mgc1411, mgc1413] mgc1422 mgb1422 [81, 92, 93, 94] 0 [46] [] [mgn1422_503, mgn1422_504] 2000 true mgn1422_495.1 mgn1422_495.2 = true := by decide +kernel
theorem mgk1422_496 : ai_go [] mgc1422 mgb1422 [81, 92, 93, 94] 0 [46] [] [] 2000 true mgn1422_496.1 mgn1422_496.2 = true := by decide +kernel
theorem mgk1422_497 : ai_go [] mgc1422 mgb1422 [81, 92, 93, 94] 0 [46] [] [] 2000 true mgn1422_497.1 mgn1422_497.2 = true := by decide +kernel
theorem mgk1422_498 : ai_go [] mgc1422 mgb1422 [81, 92, 93, 94] 0 [46] [] [] 2000 true mgn1422_498.1 mgn1422_498.2 = true := by decide +kernel
theorem mgk1422_499 : ai_go [] mgc1422 mgb1422 [81, 92, 93, 94] 0 [46] [] [] 2000 true mgn1422_499.1 mgn1422_499.2 = true := by decide +kernel
theorem mgk1422_500 : ai_go [] mgc1422 mgb1422 [81, 92, 93, 94] 0 [46] [] [] 2000 true mgn1422_500.1 mgn1422_500.2 = true := by decide +kernel
theorem mgk1422_501 : ai_go [mgc21, mgc1394, mgc1397] mgc1422 mgb1422 [81, 92, 93, 94] 0 [46] [] [mgn1422_502, mgn1422_503, mgn1422_504] 2000 true mgn1422_501.1 mgn1422_501.2 = true := by decide +kernel
theorem mgk1422_502 : ai_go [] mgc1422 mgb1422 [81, 92, 93, 94] 0 [46] [] [] 2000 true mgn1422_502.1 mgn1422_502.2 = true := by decide +kernel
theorem mgk1422_503 : ai_go [] mgc1422 mgb1422 [81, 92, 93, 94] 0 [46] [] [] 2000 true mgn1422_503.1 mgn1422_503.2 = true := by decide +kernel
theorem mgk1422_504 : ai_go [] mgc1422 mgb1422 [81, 92, 93, 94] 0 [46] [] [] 2000 true mgn1422_504.1 mgn1422_504.2 = true := by decide +kernel
theorem mgk1422_505 : ai_go [] mgc1422 mgb1422 [81, 92, 93, 94] 0 [46] [] [] 2000 true mgn1422_505.1 mgn1422_505.2 = true := by decide +kernel
theorem mgk1422_506 : ai_go [mgc20, mgc1408, mgc1410] mgc1422 mgb1422 [81, 92, 93, 94] 0 [46] [] [mgn1422_508, mgn1422_507] 2000 true mgn1422_506.1 mgn1422_506.2 = true := by decide +kernel
theorem mgk1422_507 : ai_go [] mgc1422 mgb1422 [81, 92, 93, 94] 0 [46] [] [] 2000 true mgn1422_507.1 mgn1422_507.2 = true := by decide +kernel
theorem mgk1422_508 : ai_go [] mgc1422 mgb1422 [81, 92, 93, 94] 0 [46] [] [] 2000 true mgn1422_508.1 mgn1422_508.2 = true := by decide +kernel
theorem mgw1422 : ([81, 92, 93, 94] : List Nat).all (fun a => decide (a ∈ mgc1422.2.2.2.1) && !decide (a ∈ ai_pc)) = true := by decide
