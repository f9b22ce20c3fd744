/-! Every public method, by its contract. -/
theorem kd0 {xs : Nat → Int32} {i : Nat} : kd_ok false 0 [2, 9, 10, 11, 12, 13, 14] (.ref 0 :: la_vs xs i 2 1) := kd_c (c := kcc12) (ko12 ps_P ko_h) (by decide) (by decide +kernel) rfl
theorem md0_1 : ∀ m, m < 5 → md_1 false 103 2 [89, 90] m := md_G (c := mgc6) (mgo6 ps_P) (by decide) rfl (by decide +kernel) rfl
theorem md0 {xs : Nat → Int32} {i : Nat} : md_ok false 103 [89, 90] (.ref 81 :: la_vs xs i 2 1) := md_c md0_1
theorem kd1 {xs : Nat → Int32} {i : Nat} : kd_ok false 3 [1, 2, 9, 10, 11, 12, 13, 14] (.ref 0 :: la_vs xs i 3 1) := kd_c (c := kcc15) (ko15 ps_P ko_h) (by decide) (by decide +kernel) rfl
theorem md1_1 : ∀ m, m < 5 → md_1 false 108 3 [87, 89, 90] m := md_G (c := mgc10) (mgo10 ps_P) (by decide) rfl (by decide +kernel) rfl
theorem md1 {xs : Nat → Int32} {i : Nat} : md_ok false 108 [87, 89, 90] (.ref 81 :: la_vs xs i 3 1) := md_c md1_1
theorem kd2 {xs : Nat → Int32} {i : Nat} : kd_ok false 6 [1, 2, 3, 4, 5, 6, 7, 8, 9, 10, 11, 12, 13, 14] (.ref 0 :: la_vs xs i 2 1) := kd_c (c := kcc16) (ko16 ps_P ko_h) (by decide) (by decide +kernel) rfl
theorem md2_1 : ∀ m, m < 5 → md_1 false 111 2 [87, 88, 89, 90] m := md_G (c := mgc11) (mgo11 ps_P) (by decide) rfl (by decide +kernel) rfl
theorem md2 {xs : Nat → Int32} {i : Nat} : md_ok false 111 [87, 88, 89, 90] (.ref 81 :: la_vs xs i 2 1) := md_c md2_1
theorem kd3 {xs : Nat → Int32} {i : Nat} : kd_ok false 7 [2, 3, 4, 5, 6, 7, 8, 9, 10, 11, 12, 13, 14] (.ref 0 :: la_vs xs i 1 1) := kd_c (c := kcc17) (ko17 ps_P ko_h) (by decide) (by decide +kernel) rfl
theorem md3_1 : ∀ m, m < 5 → md_1 false 112 1 [88, 89, 90] m := md_G (c := mgc12) (mgo12 ps_P) (by decide) rfl (by decide +kernel) rfl
theorem md3 {xs : Nat → Int32} {i : Nat} : md_ok false 112 [88, 89, 90] (.ref 81 :: la_vs xs i 1 1) := md_c md3_1
theorem kd4 {xs : Nat → Int32} {i : Nat} : kd_ok false 8 [1, 2, 9, 10, 11, 12, 13, 14] (.ref 0 :: la_vs xs i 5 1) := kd_c (c := kcc9) (ko9 ko_h) (by decide) (by decide +kernel) rfl
theorem md4_1 : ∀ m, m < 5 → md_1 false 113 5 [87, 89, 90] m := md_G (c := mgc0) (mgo0 ps_P) (by decide) rfl (by decide +kernel) rfl
theorem md4 {xs : Nat → Int32} {i : Nat} : md_ok false 113 [87, 89, 90] (.ref 81 :: la_vs xs i 5 1) := md_c md4_1
theorem kd5 {xs : Nat → Int32} {i : Nat} : kd_ok false 10 [1, 2, 3, 4, 5, 6, 7, 8, 9, 10, 11, 12, 13, 14] (.ref 0 :: la_vs xs i 1 1) := kd_c (c := kcc18) (ko18 ps_P ko_h) (by decide) (by decide +kernel) rfl
theorem md5_1 : ∀ m, m < 5 → md_1 false 115 1 [87, 88, 89, 90] m := md_G (c := mgc13) (mgo13 ps_P) (by decide) rfl (by decide +kernel) rfl
theorem md5 {xs : Nat → Int32} {i : Nat} : md_ok false 115 [87, 88, 89, 90] (.ref 81 :: la_vs xs i 1 1) := md_c md5_1
theorem kd6 {xs : Nat → Int32} {i : Nat} : kd_ok false 11 [1, 2, 3, 4, 5, 6, 7, 8, 10] (.ref 0 :: la_vs xs i 2 1) := kd_c (c := kcc20) (ko20 ps_P ko_h) (by decide) (by decide +kernel) rfl
theorem md6_1 : ∀ m, m < 5 → md_1 false 116 2 [87, 88] m := md_G (c := mgc16) (mgo16 ps_P) (by decide) rfl (by decide +kernel) rfl
theorem md6 {xs : Nat → Int32} {i : Nat} : md_ok false 116 [87, 88] (.ref 81 :: la_vs xs i 2 1) := md_c md6_1
theorem kd7 {xs : Nat → Int32} {i : Nat} : kd_ok false 13 [1, 2, 3, 4, 5, 6, 7, 8, 9, 10] (.ref 0 :: la_vs xs i 3 1) := kd_c (c := kcc21) (ko21 ps_P ko_h) (by decide) (by decide +kernel) rfl
theorem md7_1 : ∀ m, m < 5 → md_1 false 118 3 [87, 88, 89] m := md_G (c := mgc18) (mgo18 ps_P) (by decide) rfl (by decide +kernel) rfl
theorem md7 {xs : Nat → Int32} {i : Nat} : md_ok false 118 [87, 88, 89] (.ref 81 :: la_vs xs i 3 1) := md_c md7_1
theorem kd10 {xs : Nat → Int32} {i : Nat} : kd_ok false 24 [1, 2, 3, 4, 5, 6, 7, 8, 9, 10, 11, 12, 13, 14] (.ref 0 :: la_vs xs i 2 1) := kd_c (c := kcc983) (ko983 ps_P ko_h) (by decide) (by decide +kernel) rfl
theorem md10_1 : ∀ m, m < 5 → md_1 false 130 2 [87, 88, 89, 90] m := md_G (c := mgc6338) (mgo6338 ps_P) (by decide) rfl (by decide +kernel) rfl
theorem md10 {xs : Nat → Int32} {i : Nat} : md_ok false 130 [87, 88, 89, 90] (.ref 81 :: la_vs xs i 2 1) := md_c md10_1
theorem kd11 {xs : Nat → Int32} {i : Nat} : kd_ok false 32 [1, 2, 3, 4, 5, 6, 7, 8, 9, 10, 11, 12, 13, 14] (.ref 0 :: la_vs xs i 2 1) := kd_c (c := kcc987) (ko987 ps_P ko_h) (by decide) (by decide +kernel) rfl
theorem md11_1 : ∀ m, m < 5 → md_1 false 139 2 [87, 88, 89, 90] m := md_G (c := mgc6344) (mgo6344 ps_P) (by decide) rfl (by decide +kernel) rfl
theorem md11 {xs : Nat → Int32} {i : Nat} : md_ok false 139 [87, 88, 89, 90] (.ref 81 :: la_vs xs i 2 1) := md_c md11_1
theorem kd12 {xs : Nat → Int32} {i : Nat} : kd_ok false 36 [1, 2, 3, 4, 5, 6, 7, 8, 9, 10, 11, 12, 13, 14] (.ref 0 :: la_vs xs i 2 1) := kd_c (c := kcc993) (ko993 ps_P ko_h) (by decide) (by decide +kernel) rfl
theorem md12_1 : ∀ m, m < 5 → md_1 false 143 2 [87, 88, 89, 90] m := fun m hm => match m, hm with
  | 0, _ => ⟨m0c4, (mwm 0), rfl, ak_ok_le 12 (by decide) (m0o4 ps_P), rfl, by decide +kernel, rfl, by decide +kernel⟩
  | 1, _ => ⟨m1c14, (mwm 1), rfl, ak_ok_le 12 (by decide) (m1o14 ps_P), rfl, by decide +kernel, rfl, by decide +kernel⟩
  | 2, _ => ⟨m2c14, (mwm 2), rfl, ak_ok_le 12 (by decide) (m2o14 ps_P), rfl, by decide +kernel, rfl, by decide +kernel⟩
  | 3, _ => ⟨m3c14, (mwm 3), rfl, ak_ok_le 12 (by decide) (m3o14 ps_P), rfl, by decide +kernel, rfl, by decide +kernel⟩
  | 4, _ => ⟨m4c14, (mwm 4), rfl, ak_ok_le 12 (by decide) (m4o14 ps_P), rfl, by decide +kernel, rfl, by decide +kernel⟩
  | n + 5, hm => absurd hm (by omega)
theorem md12 {xs : Nat → Int32} {i : Nat} : md_ok false 143 [87, 88, 89, 90] (.ref 81 :: la_vs xs i 2 1) := md_c md12_1
theorem kd13 {xs : Nat → Int32} {i : Nat} : kd_ok false 42 [1, 2, 3, 4, 5, 6, 7, 8, 9, 10, 11, 12, 13, 14] (.ref 0 :: la_vs xs i 0 1) := kd_c (c := kcc997) (ko997 ps_P ko_h) (by decide) (by decide +kernel) rfl
theorem md13_1 : ∀ m, m < 5 → md_1 false 148 0 [87, 88, 89, 90] m := md_G (c := mgc6347) (mgo6347 ps_P) (by decide) rfl (by decide +kernel) rfl
theorem md13 {xs : Nat → Int32} {i : Nat} : md_ok false 148 [87, 88, 89, 90] (.ref 81 :: la_vs xs i 0 1) := md_c md13_1
theorem kd14 {xs : Nat → Int32} {i : Nat} : kd_ok false 47 [1, 2, 3, 4, 5, 6, 7, 8, 9, 10, 11, 12, 13, 14] (.ref 0 :: la_vs xs i 2 1) := kd_c (c := kcc1000) (ko1000 ps_P ko_h) (by decide) (by decide +kernel) rfl
theorem md14_1 : ∀ m, m < 5 → md_1 false 151 2 [87, 88, 89, 90] m := md_G (c := mgc6349) (mgo6349 ps_P) (by decide) rfl (by decide +kernel) rfl
theorem md14 {xs : Nat → Int32} {i : Nat} : md_ok false 151 [87, 88, 89, 90] (.ref 81 :: la_vs xs i 2 1) := md_c md14_1
theorem kd15 {xs : Nat → Int32} {i : Nat} : kd_ok false 48 [1, 2, 3, 4, 5, 6, 7, 8, 9, 10, 11, 12, 13, 14] (.ref 0 :: la_vs xs i 1 1) := kd_c (c := kcc1005) (ko1005 ps_P ko_h) (by decide) (by decide +kernel) rfl
theorem md15_1 : ∀ m, m < 5 → md_1 false 152 1 [87, 88, 89, 90] m := md_G (c := mgc6350) (mgo6350 ps_P) (by decide) rfl (by decide +kernel) rfl
theorem md15 {xs : Nat → Int32} {i : Nat} : md_ok false 152 [87, 88, 89, 90] (.ref 81 :: la_vs xs i 1 1) := md_c md15_1
theorem kd16 {xs : Nat → Int32} {i : Nat} : kd_ok false 49 [1, 2, 3, 4, 5, 6, 7, 8, 9, 10, 11, 12, 13, 14] (.ref 0 :: la_vs xs i 1 1) := kd_c (c := kcc1008) (ko1008 ps_P ko_h) (by decide) (by decide +kernel) rfl
theorem md16_1 : ∀ m, m < 5 → md_1 false 153 1 [87, 88, 89, 90] m := md_G (c := mgc6351) (mgo6351 ps_P) (by decide) rfl (by decide +kernel) rfl
theorem md16 {xs : Nat → Int32} {i : Nat} : md_ok false 153 [87, 88, 89, 90] (.ref 81 :: la_vs xs i 1 1) := md_c md16_1
theorem kd17 {xs : Nat → Int32} {i : Nat} : kd_ok false 50 [1, 2, 3, 4, 5, 6, 7, 8, 9, 10, 11, 12, 13, 14] (.ref 0 :: la_vs xs i 1 1) := kd_c (c := kcc1009) (ko1009 ps_P ko_h) (by decide) (by decide +kernel) rfl
theorem kd18 {xs : Nat → Int32} {i : Nat} : kd_ok false 52 [1, 2, 3, 4, 5, 6, 7, 8, 9, 10, 11, 12, 13, 14] (.ref 0 :: la_vs xs i 1 1) := kd_c (c := kcc1011) (ko1011 ps_P ko_h) (by decide) (by decide +kernel) rfl
theorem md18_1 : ∀ m, m < 5 → md_1 false 155 1 [87, 88, 89, 90] m := md_G (c := mgc6358) (mgo6358 ps_P) (by decide) rfl (by decide +kernel) rfl
theorem md18 {xs : Nat → Int32} {i : Nat} : md_ok false 155 [87, 88, 89, 90] (.ref 81 :: la_vs xs i 1 1) := md_c md18_1
theorem kd19 {xs : Nat → Int32} {i : Nat} : kd_ok false 55 [1, 2, 3, 4, 5, 6, 7, 8, 9, 10, 11, 12, 13, 14] (.ref 0 :: la_vs xs i 1 1) := kd_c (c := kcc1012) (ko1012 ps_P ko_h) (by decide) (by decide +kernel) rfl
theorem md19_1 : ∀ m, m < 5 → md_1 false 157 1 [87, 88, 89, 90] m := md_G (c := mgc6362) (mgo6362 ps_P) (by decide) rfl (by decide +kernel) rfl
theorem md19 {xs : Nat → Int32} {i : Nat} : md_ok false 157 [87, 88, 89, 90] (.ref 81 :: la_vs xs i 1 1) := md_c md19_1
theorem kd20 {xs : Nat → Int32} {i : Nat} : kd_ok false 56 [1, 2, 3, 4, 5, 6, 7, 8, 9, 10, 11, 12, 13, 14] (.ref 0 :: la_vs xs i 4 1) := kd_c (c := kcc1013) (ko1013 ps_P ko_h) (by decide) (by decide +kernel) rfl
theorem md20_1 : ∀ m, m < 5 → md_1 false 158 4 [87, 88, 89, 90] m := md_G (c := mgc6366) (mgo6366 ps_P) (by decide) rfl (by decide +kernel) rfl
theorem md20 {xs : Nat → Int32} {i : Nat} : md_ok false 158 [87, 88, 89, 90] (.ref 81 :: la_vs xs i 4 1) := md_c md20_1
theorem kd21 {xs : Nat → Int32} {i : Nat} : kd_ok false 57 [1, 2, 3, 4, 5, 6, 7, 8, 9, 10, 11, 12, 13, 14] (.ref 0 :: la_vs xs i 2 1) := kd_c (c := kcc1021) (ko1021 ps_P ko_h) (by decide) (by decide +kernel) rfl
theorem md21_1 : ∀ m, m < 5 → md_1 false 159 2 [87, 88, 89, 90] m := md_G (c := mgc6374) (mgo6374 ps_P) (by decide) rfl (by decide +kernel) rfl
theorem md21 {xs : Nat → Int32} {i : Nat} : md_ok false 159 [87, 88, 89, 90] (.ref 81 :: la_vs xs i 2 1) := md_c md21_1
theorem kd22 {xs : Nat → Int32} {i : Nat} : kd_ok false 60 [1, 2, 3, 4, 5, 6, 7, 8, 9, 10, 11, 12, 13, 14] (.ref 0 :: la_vs xs i 1 1) := kd_c (c := kcc1023) (ko1023 ps_P ko_h) (by decide) (by decide +kernel) rfl
theorem md22_1 : ∀ m, m < 5 → md_1 false 162 1 [87, 88, 89, 90] m := md_G (c := mgc6376) (mgo6376 ps_P) (by decide) rfl (by decide +kernel) rfl
theorem md22 {xs : Nat → Int32} {i : Nat} : md_ok false 162 [87, 88, 89, 90] (.ref 81 :: la_vs xs i 1 1) := md_c md22_1
theorem kd23 {xs : Nat → Int32} {i : Nat} : kd_ok false 62 [1, 2, 3, 4, 5, 6, 7, 8, 9, 10, 11, 12, 13, 14] (.ref 0 :: la_vs xs i 1 1) := kd_c (c := kcc1024) (ko1024 ps_P ko_h) (by decide) (by decide +kernel) rfl
theorem md23_1 : ∀ m, m < 5 → md_1 false 164 1 [87, 88, 89, 90] m := md_G (c := mgc6377) (mgo6377 ps_P) (by decide) rfl (by decide +kernel) rfl
theorem md23 {xs : Nat → Int32} {i : Nat} : md_ok false 164 [87, 88, 89, 90] (.ref 81 :: la_vs xs i 1 1) := md_c md23_1
theorem kd24 {xs : Nat → Int32} {i : Nat} : kd_ok false 63 [1, 2, 3, 4, 5, 6, 7, 8, 9, 10, 11, 12, 13, 14] (.ref 0 :: la_vs xs i 2 1) := kd_c (c := kcc1026) (ko1026 ps_P ko_h) (by decide) (by decide +kernel) rfl
theorem md24_1 : ∀ m, m < 5 → md_1 false 165 2 [87, 88, 89, 90] m := md_G (c := mgc6380) (mgo6380 ps_P) (by decide) rfl (by decide +kernel) rfl
theorem md24 {xs : Nat → Int32} {i : Nat} : md_ok false 165 [87, 88, 89, 90] (.ref 81 :: la_vs xs i 2 1) := md_c md24_1
theorem kd25 {xs : Nat → Int32} {i : Nat} : kd_ok false 65 [1, 2, 3, 4, 5, 6, 7, 8, 9, 10, 11, 12, 13, 14] (.ref 0 :: la_vs xs i 1 1) := kd_c (c := kcc1028) (ko1028 ps_P ko_h) (by decide) (by decide +kernel) rfl
theorem md25_1 : ∀ m, m < 5 → md_1 false 167 1 [87, 88, 89, 90] m := md_G (c := mgc6382) (mgo6382 ps_P) (by decide) rfl (by decide +kernel) rfl
theorem md25 {xs : Nat → Int32} {i : Nat} : md_ok false 167 [87, 88, 89, 90] (.ref 81 :: la_vs xs i 1 1) := md_c md25_1
theorem kd26 {xs : Nat → Int32} {i : Nat} : kd_ok false 67 [1, 2, 3, 4, 5, 6, 7, 8, 9, 10, 11, 12, 13, 14] (.ref 0 :: la_vs xs i 2 1) := kd_c (c := kcc1031) (ko1031 ps_P ko_h) (by decide) (by decide +kernel) rfl
theorem md26_1 : ∀ m, m < 5 → md_1 false 169 2 [87, 88, 89, 90] m := md_G (c := mgc6386) (mgo6386 ps_P) (by decide) rfl (by decide +kernel) rfl
theorem md26 {xs : Nat → Int32} {i : Nat} : md_ok false 169 [87, 88, 89, 90] (.ref 81 :: la_vs xs i 2 1) := md_c md26_1
theorem kd27 {xs : Nat → Int32} {i : Nat} : kd_ok false 70 [1, 2, 3, 4, 5, 6, 7, 8, 9, 10, 11, 12, 13, 14] (.ref 0 :: la_vs xs i 2 1) := kd_c (c := kcc1033) (ko1033 ps_P ko_h) (by decide) (by decide +kernel) rfl
theorem md27_1 : ∀ m, m < 5 → md_1 false 172 2 [87, 88, 89, 90] m := md_G (c := mgc6388) (mgo6388 ps_P) (by decide) rfl (by decide +kernel) rfl
theorem md27 {xs : Nat → Int32} {i : Nat} : md_ok false 172 [87, 88, 89, 90] (.ref 81 :: la_vs xs i 2 1) := md_c md27_1
theorem kd28 {xs : Nat → Int32} {i : Nat} : kd_ok false 72 [1, 2, 3, 4, 5, 6, 7, 8, 9, 10, 11, 12, 13, 14] (.ref 0 :: la_vs xs i 2 1) := kd_c (c := kcc1037) (ko1037 ps_P ko_h) (by decide) (by decide +kernel) rfl
theorem md28_1 : ∀ m, m < 5 → md_1 false 174 2 [87, 88, 89, 90] m := md_G (c := mgc6390) (mgo6390 ps_P) (by decide) rfl (by decide +kernel) rfl
theorem md28 {xs : Nat → Int32} {i : Nat} : md_ok false 174 [87, 88, 89, 90] (.ref 81 :: la_vs xs i 2 1) := md_c md28_1
theorem kd29 {xs : Nat → Int32} {i : Nat} : kd_ok false 76 [1, 2, 3, 4, 5, 6, 7, 8, 9, 10, 11, 12, 13, 14] (.ref 0 :: la_vs xs i 1 1) := kd_c (c := kcc1041) (ko1041 ps_P ko_h) (by decide) (by decide +kernel) rfl
theorem md29_1 : ∀ m, m < 5 → md_1 false 176 1 [87, 88, 89, 90] m := md_G (c := mgc6394) (mgo6394 ps_P) (by decide) rfl (by decide +kernel) rfl
theorem md29 {xs : Nat → Int32} {i : Nat} : md_ok false 176 [87, 88, 89, 90] (.ref 81 :: la_vs xs i 1 1) := md_c md29_1
theorem kd30 {xs : Nat → Int32} {i : Nat} : kd_ok false 80 [1, 2, 3, 4, 5, 6, 7, 8, 9, 10, 11, 12, 13, 14] (.ref 0 :: la_vs xs i 1 1) := kd_c (c := kcc1042) (ko1042 ps_P ko_h) (by decide) (by decide +kernel) rfl
theorem md30_1 : ∀ m, m < 5 → md_1 false 179 1 [87, 88, 89, 90] m := md_G (c := mgc6395) (mgo6395 ps_P) (by decide) rfl (by decide +kernel) rfl
theorem md30 {xs : Nat → Int32} {i : Nat} : md_ok false 179 [87, 88, 89, 90] (.ref 81 :: la_vs xs i 1 1) := md_c md30_1
theorem kd31 {xs : Nat → Int32} {i : Nat} : kd_ok false 81 [1, 2, 3, 4, 5, 6, 7, 8, 9, 10, 11, 12, 13, 14] (.ref 0 :: la_vs xs i 3 1) := kd_c (c := kcc1053) (ko1053 ps_P ko_h) (by decide) (by decide +kernel) rfl
theorem md31_1 : ∀ m, m < 5 → md_1 false 180 3 [87, 88, 89, 90] m := md_G (c := mgc1) (mgo1 ps_P) (by decide) rfl (by decide +kernel) rfl
theorem md31 {xs : Nat → Int32} {i : Nat} : md_ok false 180 [87, 88, 89, 90] (.ref 81 :: la_vs xs i 3 1) := md_c md31_1
theorem kd32 {xs : Nat → Int32} {i : Nat} : kd_ok false 83 [1, 2, 3, 4, 5, 6, 7, 8, 9, 10, 11, 12, 13, 14] (.ref 0 :: la_vs xs i 2 1) := kd_c (c := kcc1057) (ko1057 ps_P ko_h) (by decide) (by decide +kernel) rfl
theorem md32_1 : ∀ m, m < 5 → md_1 false 184 2 [87, 88, 89, 90] m := fun m hm => match m, hm with
  | 0, _ => ⟨m0c13, (mwm 0), rfl, ak_ok_le 12 (by decide) (m0o13 ps_P), rfl, by decide +kernel, rfl, by decide +kernel⟩
  | 1, _ => ⟨m1c31, (mwm 1), rfl, ak_ok_le 12 (by decide) (m1o31 ps_P), rfl, by decide +kernel, rfl, by decide +kernel⟩
  | 2, _ => ⟨m2c41, (mwm 2), rfl, ak_ok_le 12 (by decide) (m2o41 ps_P), rfl, by decide +kernel, rfl, by decide +kernel⟩
  | 3, _ => ⟨m3c65, (mwm 3), rfl, ak_ok_le 12 (by decide) (m3o65 ps_P), rfl, by decide +kernel, rfl, by decide +kernel⟩
  | 4, _ => ⟨m4c121, (mwm 4), rfl, ak_ok_le 12 (by decide) (m4o121 ps_P), rfl, by decide +kernel, rfl, by decide +kernel⟩
  | n + 5, hm => absurd hm (by omega)
theorem md32 {xs : Nat → Int32} {i : Nat} : md_ok false 184 [87, 88, 89, 90] (.ref 81 :: la_vs xs i 2 1) := md_c md32_1
theorem kd33 {xs : Nat → Int32} {i : Nat} : kd_ok false 87 [1, 2, 3, 4, 5, 6, 7, 8, 9, 10, 11, 12, 13, 14] (.ref 0 :: la_vs xs i 1 1) := kd_c (c := kcc1058) (ko1058 ps_P ko_h) (by decide) (by decide +kernel) rfl
theorem md33_1 : ∀ m, m < 5 → md_1 false 187 1 [87, 88, 89, 90] m := fun m hm => match m, hm with
  | 0, _ => ⟨m0c14, (mwm 0), rfl, ak_ok_le 12 (by decide) (m0o14 ps_P), rfl, by decide +kernel, rfl, by decide +kernel⟩
  | 1, _ => ⟨m1c33, (mwm 1), rfl, ak_ok_le 12 (by decide) (m1o33 ps_P), rfl, by decide +kernel, rfl, by decide +kernel⟩
  | 2, _ => ⟨m2c43, (mwm 2), rfl, ak_ok_le 12 (by decide) (m2o43 ps_P), rfl, by decide +kernel, rfl, by decide +kernel⟩
  | 3, _ => ⟨m3c67, (mwm 3), rfl, ak_ok_le 12 (by decide) (m3o67 ps_P), rfl, by decide +kernel, rfl, by decide +kernel⟩
  | 4, _ => ⟨m4c123, (mwm 4), rfl, ak_ok_le 12 (by decide) (m4o123 ps_P), rfl, by decide +kernel, rfl, by decide +kernel⟩
  | n + 5, hm => absurd hm (by omega)
theorem md33 {xs : Nat → Int32} {i : Nat} : md_ok false 187 [87, 88, 89, 90] (.ref 81 :: la_vs xs i 1 1) := md_c md33_1
theorem kd34 {xs : Nat → Int32} {i : Nat} : kd_ok false 88 [1, 2, 3, 4, 5, 6, 7, 8, 9, 10, 11, 12, 13, 14] (.ref 0 :: la_vs xs i 2 1) := kd_c (c := kcc1067) (ko1067 ps_P ko_h) (by decide) (by decide +kernel) rfl
theorem md34_1 : ∀ m, m < 5 → md_1 false 188 2 [87, 88, 89, 90] m := fun m hm => match m, hm with
  | 0, _ => ⟨mac4, mwA, rfl, ak_ok_le 12 (by decide) (mao4 ps_P), rfl, by decide +kernel, rfl, by decide +kernel⟩
  | 1, _ => ⟨mbc71, mwB, rfl, ak_ok_le 12 (by decide) (mbo71 ps_P), rfl, by decide +kernel, rfl, by decide +kernel⟩
  | 2, _ => ⟨mbc71, mwB, rfl, ak_ok_le 12 (by decide) (mbo71 ps_P), rfl, by decide +kernel, rfl, by decide +kernel⟩
  | 3, _ => ⟨mbc71, mwB, rfl, ak_ok_le 12 (by decide) (mbo71 ps_P), rfl, by decide +kernel, rfl, by decide +kernel⟩
  | 4, _ => ⟨mbc71, mwB, rfl, ak_ok_le 12 (by decide) (mbo71 ps_P), rfl, by decide +kernel, rfl, by decide +kernel⟩
  | n + 5, hm => absurd hm (by omega)
theorem md34 {xs : Nat → Int32} {i : Nat} : md_ok false 188 [87, 88, 89, 90] (.ref 81 :: la_vs xs i 2 1) := md_c md34_1
theorem kd35 {xs : Nat → Int32} {i : Nat} : kd_ok false 90 [1, 2, 3, 4, 5, 6, 7, 8, 9, 10, 11, 12, 13, 14] (.ref 0 :: la_vs xs i 0 1) := kd_c (c := kcc1068) (ko1068 ps_P ko_h) (by decide) (by decide +kernel) rfl
theorem md35_1 : ∀ m, m < 5 → md_1 false 190 0 [87, 88, 89, 90] m := md_G (c := mgc6396) (mgo6396 ps_P) (by decide) rfl (by decide +kernel) rfl
theorem md35 {xs : Nat → Int32} {i : Nat} : md_ok false 190 [87, 88, 89, 90] (.ref 81 :: la_vs xs i 0 1) := md_c md35_1
theorem kd36 {xs : Nat → Int32} {i : Nat} : kd_ok true 91 [1, 2, 3, 4, 5, 6, 7, 8, 9, 10, 11, 12, 13, 14] (.ref 0 :: la_vs xs i 0 1) := kd_c (c := kcc1069) (ko1069 ps_P ko_h) (by decide) (by decide +kernel) rfl
theorem md36_1 : ∀ m, m < 5 → md_1 true 191 0 [87, 88, 89, 90] m := md_G (c := mgc6397) (mgo6397 ps_P) (by decide) rfl (by decide +kernel) rfl
theorem md36 {xs : Nat → Int32} {i : Nat} : md_ok true 191 [87, 88, 89, 90] (.ref 81 :: la_vs xs i 0 1) := md_c md36_1
theorem kd37 {xs : Nat → Int32} {i : Nat} : kd_ok true 92 [1, 2, 3, 4, 5, 6, 7, 8, 9, 10, 11, 12, 13, 14] (.ref 0 :: la_vs xs i 0 1) := kd_c (c := kcc1070) (ko1070 ps_P ko_h) (by decide) (by decide +kernel) rfl
theorem md37_1 : ∀ m, m < 5 → md_1 true 192 0 [87, 88, 89, 90] m := md_G (c := mgc6398) (mgo6398 ps_P) (by decide) rfl (by decide +kernel) rfl
theorem md37 {xs : Nat → Int32} {i : Nat} : md_ok true 192 [87, 88, 89, 90] (.ref 81 :: la_vs xs i 0 1) := md_c md37_1
theorem kd38 {xs : Nat → Int32} {i : Nat} : kd_ok false 93 [1, 2, 3, 4, 5, 6, 7, 8, 9, 10, 11, 12, 13, 14] (.ref 0 :: la_vs xs i 1 1) := kd_c (c := kcc1077) (ko1077 ps_P ko_h) (by decide) (by decide +kernel) rfl
theorem md38_1 : ∀ m, m < 5 → md_1 false 193 1 [87, 88, 89, 90] m := md_G (c := mgc6407) (mgo6407 ps_P) (by decide) rfl (by decide +kernel) rfl
theorem md38 {xs : Nat → Int32} {i : Nat} : md_ok false 193 [87, 88, 89, 90] (.ref 81 :: la_vs xs i 1 1) := md_c md38_1
theorem kd39 {xs : Nat → Int32} {i : Nat} : kd_ok false 98 [1, 2, 3, 4, 5, 6, 7, 8, 9, 10, 11, 12, 13, 14] (.ref 0 :: la_vs xs i 0 1) := kd_c (c := kcc1078) (ko1078 ps_P ko_h) (by decide) (by decide +kernel) rfl
theorem md39_1 : ∀ m, m < 5 → md_1 false 197 0 [87, 88, 89, 90] m := md_G (c := mgc6408) (mgo6408 ps_P) (by decide) rfl (by decide +kernel) rfl
theorem md39 {xs : Nat → Int32} {i : Nat} : md_ok false 197 [87, 88, 89, 90] (.ref 81 :: la_vs xs i 0 1) := md_c md39_1
theorem kd40 {xs : Nat → Int32} {i : Nat} : kd_ok false 99 [1, 2, 3, 4, 5, 6, 7, 8, 9, 10, 11, 12, 13, 14] (.ref 0 :: la_vs xs i 1 1) := kd_c (c := kcc1079) (ko1079 ps_P ko_h) (by decide) (by decide +kernel) rfl
theorem md40_1 : ∀ m, m < 5 → md_1 false 198 1 [87, 88, 89, 90] m := md_G (c := mgc6410) (mgo6410 ps_P) (by decide) rfl (by decide +kernel) rfl
theorem md40 {xs : Nat → Int32} {i : Nat} : md_ok false 198 [87, 88, 89, 90] (.ref 81 :: la_vs xs i 1 1) := md_c md40_1
theorem kd41 {xs : Nat → Int32} {i : Nat} : kd_ok true 100 [1, 2, 3, 4, 5, 6, 7, 8, 9, 10, 11, 12, 13, 14] (.ref 0 :: la_vs xs i 0 1) := kd_c (c := kcc1082) (ko1082 ps_P ko_h) (by decide) (by decide +kernel) rfl
theorem md41_1 : ∀ m, m < 5 → md_1 true 199 0 [87, 88, 89, 90] m := md_G (c := mgc6411) (mgo6411 ps_P) (by decide) rfl (by decide +kernel) rfl
theorem md41 {xs : Nat → Int32} {i : Nat} : md_ok true 199 [87, 88, 89, 90] (.ref 81 :: la_vs xs i 0 1) := md_c md41_1

