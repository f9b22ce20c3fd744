set_option maxRecDepth 8000 in
theorem ts_134_9 {r : fl_Q} (i1 i2 i3 i4 i5 : Int32) (u6 u7 u8 : Value) (M : fl_M) (J : fl_J) (q1 : (i5 < (M 81 1)) → (0 < (M 82 (((i1 + 4) + i5).toNatClampNeg))) → ((((M 82 ((i1 + 3).toNatClampNeg)) >>> (i5 &&& 31)) &&& 1) = 1) → (i4 < 0) → fl_dn fB134 (9, [.ref 81, .int i1, .int i2, .int i5, .int 0, .int (i5 + 1), .int 0, .int 0, .int 1], [], M, J) r) (q2 : (i5 < (M 81 1)) → (0 < (M 82 (((i1 + 4) + i5).toNatClampNeg))) → ((((M 82 ((i1 + 3).toNatClampNeg)) >>> (i5 &&& 31)) &&& 1) = 1) → (¬ (i4 < 0)) → (i3 = (-9)) → fl_dn fB134 (9, [.ref 81, .int i1, .int i2, .int i3, .int i4, .int (i5 + 1), .int 0, .int 0, .int 0], [], M, J) r) (q3 : (i5 < (M 81 1)) → (0 < (M 82 (((i1 + 4) + i5).toNatClampNeg))) → ((((M 82 ((i1 + 3).toNatClampNeg)) >>> (i5 &&& 31)) &&& 1) = 1) → (¬ (i4 < 0)) → (¬ (i3 = (-9))) → (0 = i4) → ((v_137 i1 i2 i5 M) < (v_137 i1 i2 i3 M)) → fl_dn fB134 (9, [.ref 81, .int i1, .int i2, .int i5, .int 0, .int (i5 + 1), .int 0, .int 0, .int 1], [], M, J) r) (q4 : (i5 < (M 81 1)) → (0 < (M 82 (((i1 + 4) + i5).toNatClampNeg))) → ((((M 82 ((i1 + 3).toNatClampNeg)) >>> (i5 &&& 31)) &&& 1) = 1) → (¬ (i4 < 0)) → (¬ (i3 = (-9))) → (0 = i4) → (¬ ((v_137 i1 i2 i5 M) < (v_137 i1 i2 i3 M))) → fl_dn fB134 (9, [.ref 81, .int i1, .int i2, .int i3, .int i4, .int (i5 + 1), .int 0, .int 0, .int 0], [], M, J) r) (q5 : (i5 < (M 81 1)) → (0 < (M 82 (((i1 + 4) + i5).toNatClampNeg))) → ((((M 82 ((i1 + 3).toNatClampNeg)) >>> (i5 &&& 31)) &&& 1) = 1) → (¬ (i4 < 0)) → (¬ (i3 = (-9))) → (¬ (0 = i4)) → fl_dn fB134 (9, [.ref 81, .int i1, .int i2, .int i3, .int i4, .int (i5 + 1), .int 0, .int 0, .int 0], [], M, J) r) (q6 : (i5 < (M 81 1)) → (0 < (M 82 (((i1 + 4) + i5).toNatClampNeg))) → (¬ ((((M 82 ((i1 + 3).toNatClampNeg)) >>> (i5 &&& 31)) &&& 1) = 1)) → ((M 82 ((i1 + 2).toNatClampNeg)) = i5) → (i4 < 0) → fl_dn fB134 (9, [.ref 81, .int i1, .int i2, .int i5, .int 0, .int (i5 + 1), .int 0, .int 0, .int 1], [], M, J) r) (q7 : (i5 < (M 81 1)) → (0 < (M 82 (((i1 + 4) + i5).toNatClampNeg))) → (¬ ((((M 82 ((i1 + 3).toNatClampNeg)) >>> (i5 &&& 31)) &&& 1) = 1)) → ((M 82 ((i1 + 2).toNatClampNeg)) = i5) → (¬ (i4 < 0)) → (i3 = (-9)) → fl_dn fB134 (9, [.ref 81, .int i1, .int i2, .int i3, .int i4, .int (i5 + 1), .int 0, .int 0, .int 0], [], M, J) r) (q8 : (i5 < (M 81 1)) → (0 < (M 82 (((i1 + 4) + i5).toNatClampNeg))) → (¬ ((((M 82 ((i1 + 3).toNatClampNeg)) >>> (i5 &&& 31)) &&& 1) = 1)) → ((M 82 ((i1 + 2).toNatClampNeg)) = i5) → (¬ (i4 < 0)) → (¬ (i3 = (-9))) → (0 = i4) → ((v_137 i1 i2 i5 M) < (v_137 i1 i2 i3 M)) → fl_dn fB134 (9, [.ref 81, .int i1, .int i2, .int i5, .int 0, .int (i5 + 1), .int 0, .int 0, .int 1], [], M, J) r) (q9 : (i5 < (M 81 1)) → (0 < (M 82 (((i1 + 4) + i5).toNatClampNeg))) → (¬ ((((M 82 ((i1 + 3).toNatClampNeg)) >>> (i5 &&& 31)) &&& 1) = 1)) → ((M 82 ((i1 + 2).toNatClampNeg)) = i5) → (¬ (i4 < 0)) → (¬ (i3 = (-9))) → (0 = i4) → (¬ ((v_137 i1 i2 i5 M) < (v_137 i1 i2 i3 M))) → fl_dn fB134 (9, [.ref 81, .int i1, .int i2, .int i3, .int i4, .int (i5 + 1), .int 0, .int 0, .int 0], [], M, J) r) (q10 : (i5 < (M 81 1)) → (0 < (M 82 (((i1 + 4) + i5).toNatClampNeg))) → (¬ ((((M 82 ((i1 + 3).toNatClampNeg)) >>> (i5 &&& 31)) &&& 1) = 1)) → ((M 82 ((i1 + 2).toNatClampNeg)) = i5) → (¬ (i4 < 0)) → (¬ (i3 = (-9))) → (¬ (0 = i4)) → fl_dn fB134 (9, [.ref 81, .int i1, .int i2, .int i3, .int i4, .int (i5 + 1), .int 0, .int 0, .int 0], [], M, J) r) (q11 : (i5 < (M 81 1)) → (0 < (M 82 (((i1 + 4) + i5).toNatClampNeg))) → (¬ ((((M 82 ((i1 + 3).toNatClampNeg)) >>> (i5 &&& 31)) &&& 1) = 1)) → (¬ ((M 82 ((i1 + 2).toNatClampNeg)) = i5)) → (i4 < (v_136 i1 i2 i5 M)) → fl_dn fB134 (9, [.ref 81, .int i1, .int i2, .int i5, .int (v_136 i1 i2 i5 M), .int (i5 + 1), .int 1, .int (v_136 i1 i2 i5 M), .int 1], [], M, J) r) (q12 : (i5 < (M 81 1)) → (0 < (M 82 (((i1 + 4) + i5).toNatClampNeg))) → (¬ ((((M 82 ((i1 + 3).toNatClampNeg)) >>> (i5 &&& 31)) &&& 1) = 1)) → (¬ ((M 82 ((i1 + 2).toNatClampNeg)) = i5)) → (¬ (i4 < (v_136 i1 i2 i5 M))) → (i3 = (-9)) → fl_dn fB134 (9, [.ref 81, .int i1, .int i2, .int i3, .int i4, .int (i5 + 1), .int 1, .int (v_136 i1 i2 i5 M), .int 0], [], M, J) r) (q13 : (i5 < (M 81 1)) → (0 < (M 82 (((i1 + 4) + i5).toNatClampNeg))) → (¬ ((((M 82 ((i1 + 3).toNatClampNeg)) >>> (i5 &&& 31)) &&& 1) = 1)) → (¬ ((M 82 ((i1 + 2).toNatClampNeg)) = i5)) → (¬ (i4 < (v_136 i1 i2 i5 M))) → (¬ (i3 = (-9))) → ((v_136 i1 i2 i5 M) = i4) → ((v_137 i1 i2 i5 M) < (v_137 i1 i2 i3 M)) → fl_dn fB134 (9, [.ref 81, .int i1, .int i2, .int i5, .int (v_136 i1 i2 i5 M), .int (i5 + 1), .int 1, .int (v_136 i1 i2 i5 M), .int 1], [], M, J) r) (q14 : (i5 < (M 81 1)) → (0 < (M 82 (((i1 + 4) + i5).toNatClampNeg))) → (¬ ((((M 82 ((i1 + 3).toNatClampNeg)) >>> (i5 &&& 31)) &&& 1) = 1)) → (¬ ((M 82 ((i1 + 2).toNatClampNeg)) = i5)) → (¬ (i4 < (v_136 i1 i2 i5 M))) → (¬ (i3 = (-9))) → ((v_136 i1 i2 i5 M) = i4) → (¬ ((v_137 i1 i2 i5 M) < (v_137 i1 i2 i3 M))) → fl_dn fB134 (9, [.ref 81, .int i1, .int i2, .int i3, .int i4, .int (i5 + 1), .int 1, .int (v_136 i1 i2 i5 M), .int 0], [], M, J) r) (q15 : (i5 < (M 81 1)) → (0 < (M 82 (((i1 + 4) + i5).toNatClampNeg))) → (¬ ((((M 82 ((i1 + 3).toNatClampNeg)) >>> (i5 &&& 31)) &&& 1) = 1)) → (¬ ((M 82 ((i1 + 2).toNatClampNeg)) = i5)) → (¬ (i4 < (v_136 i1 i2 i5 M))) → (¬ (i3 = (-9))) → (¬ ((v_136 i1 i2 i5 M) = i4)) → fl_dn fB134 (9, [.ref 81, .int i1, .int i2, .int i3, .int i4, .int (i5 + 1), .int 1, .int (v_136 i1 i2 i5 M), .int 0], [], M, J) r) (q16 : (i5 < (M 81 1)) → (¬ (0 < (M 82 (((i1 + 4) + i5).toNatClampNeg)))) → (i4 < 0) → fl_dn fB134 (9, [.ref 81, .int i1, .int i2, .int i5, .int 0, .int (i5 + 1), .int 0, .int 0, .int 1], [], M, J) r) (q17 : (i5 < (M 81 1)) → (¬ (0 < (M 82 (((i1 + 4) + i5).toNatClampNeg)))) → (¬ (i4 < 0)) → (i3 = (-9)) → fl_dn fB134 (9, [.ref 81, .int i1, .int i2, .int i3, .int i4, .int (i5 + 1), .int 0, .int 0, .int 0], [], M, J) r) (q18 : (i5 < (M 81 1)) → (¬ (0 < (M 82 (((i1 + 4) + i5).toNatClampNeg)))) → (¬ (i4 < 0)) → (¬ (i3 = (-9))) → (0 = i4) → ((v_137 i1 i2 i5 M) < (v_137 i1 i2 i3 M)) → fl_dn fB134 (9, [.ref 81, .int i1, .int i2, .int i5, .int 0, .int (i5 + 1), .int 0, .int 0, .int 1], [], M, J) r) (q19 : (i5 < (M 81 1)) → (¬ (0 < (M 82 (((i1 + 4) + i5).toNatClampNeg)))) → (¬ (i4 < 0)) → (¬ (i3 = (-9))) → (0 = i4) → (¬ ((v_137 i1 i2 i5 M) < (v_137 i1 i2 i3 M))) → fl_dn fB134 (9, [.ref 81, .int i1, .int i2, .int i3, .int i4, .int (i5 + 1), .int 0, .int 0, .int 0], [], M, J) r) (q20 : (i5 < (M 81 1)) → (¬ (0 < (M 82 (((i1 + 4) + i5).toNatClampNeg)))) → (¬ (i4 < 0)) → (¬ (i3 = (-9))) → (¬ (0 = i4)) → fl_dn fB134 (9, [.ref 81, .int i1, .int i2, .int i3, .int i4, .int (i5 + 1), .int 0, .int 0, .int 0], [], M, J) r) (q21 : (¬ (i5 < (M 81 1))) → fl_dn fB134 (164, [.ref 81, .int i1, .int i2, .int i3, .int i4, .int i5, u6, u7, u8], [], M, J) r) : fl_dn fB134 (9, [.ref 81, .int i1, .int i2, .int i3, .int i4, .int i5, u6, u7, u8], [], M, J) r :=
 fl_td (s' := (15, [.ref 81, .int i1, .int i2, .int i3, .int i4, .int i5, u6, u7, u8], [.int (M 81 1), .int i5], M, J)) (fl_n 3 rfl) <|
 fl_dnot (fl_ic (t := 164) rfl rfl) fl_nlt (fun h1 =>
  fl_td (s' := (29, [.ref 81, .int i1, .int i2, .int i3, .int i4, .int i5, u6, u7, u8], [.int (M 82 (((i1 + 4) + i5).toNatClampNeg))], M, J)) (fl_n 8 rfl) <|
  fl_dnot (fl_if (t := 65) rfl rfl) fl_nle (fun h2 =>
   fl_td (s' := (42, [.ref 81, .int i1, .int i2, .int i3, .int i4, .int i5, u6, u7, u8], [.int i5, .int (M 82 ((i1 + 3).toNatClampNeg))], M, J)) (fl_n 7 rfl) <|
   fl_td (s' := (45, [.ref 81, .int i1, .int i2, .int i3, .int i4, .int i5, u6, u7, u8], [.int (if (((M 82 ((i1 + 3).toNatClampNeg)) >>> (i5 &&& 31)) &&& 1) = 1 then 1 else 0)], M, J)) (fl_cs (o := some (.int (if (((M 82 ((i1 + 3).toNatClampNeg)) >>> (i5 &&& 31)) &&& 1) = 1 then 1 else 0))) rfl rfl rfl (cc_135 M J (M 82 ((i1 + 3).toNatClampNeg)) i5) rfl) <|
   fl_dtwo (fl_if (t := 65) rfl rfl) fl_b1 (fun h3 =>
    fl_td (s' := (91, [.ref 81, .int i1, .int i2, .int i3, .int i4, .int i5, .int 0, .int 0, u8], [.int i4, .int 0], M, J)) (fl_n 8 rfl) <|
    fl_dtwo (fl_ic (t := 125) rfl rfl) fl_cT (fun h4 =>
     fl_td (s' := (9, [.ref 81, .int i1, .int i2, .int i5, .int 0, .int (i5 + 1), .int 0, .int 0, .int 1], [], M, J)) (fl_n 15 rfl) <|
     (q1 h1 h2 h3 h4)) (fun h4 =>
     fl_td (s' := (97, [.ref 81, .int i1, .int i2, .int i3, .int i4, .int i5, .int 0, .int 0, u8], [.int (-9), .int i3], M, J)) (fl_n 2 rfl) <|
     fl_dtwo (fl_ic (t := 129) rfl rfl) fl_cT (fun h5 =>
      fl_td (s' := (9, [.ref 81, .int i1, .int i2, .int i3, .int i4, .int (i5 + 1), .int 0, .int 0, .int 0], [], M, J)) (fl_n 12 rfl) <|
      (q2 h1 h2 h3 h4 h5)) (fun h5 =>
      fl_td (s' := (104, [.ref 81, .int i1, .int i2, .int i3, .int i4, .int i5, .int 0, .int 0, u8], [.int i4, .int 0], M, J)) (fl_n 2 rfl) <|
      fl_dnot (fl_ic (t := 129) rfl rfl) fl_cF (fun h6 =>
       fl_td (s' := (112, [.ref 81, .int i1, .int i2, .int i3, .int i4, .int i5, .int 0, .int 0, u8], [.int i5, .int i2, .int i1, .ref 81], M, J)) (fl_n 4 rfl) <|
       fl_td (s' := (115, [.ref 81, .int i1, .int i2, .int i3, .int i4, .int i5, .int 0, .int 0, u8], [.int (v_137 i1 i2 i5 M)], M, J)) (fl_cv (o := some (.int (v_137 i1 i2 i5 M))) rfl rfl rfl rfl (cc_137 M J i1 i2 i5) rfl) <|
       fl_td (s' := (119, [.ref 81, .int i1, .int i2, .int i3, .int i4, .int i5, .int 0, .int 0, u8], [.int i3, .int i2, .int i1, .ref 81, .int (v_137 i1 i2 i5 M)], M, J)) (fl_n 4 rfl) <|
       fl_td (s' := (122, [.ref 81, .int i1, .int i2, .int i3, .int i4, .int i5, .int 0, .int 0, u8], [.int (v_137 i1 i2 i3 M), .int (v_137 i1 i2 i5 M)], M, J)) (fl_cv (o := some (.int (v_137 i1 i2 i3 M))) rfl rfl rfl rfl (cc_137 M J i1 i2 i3) rfl) <|
       fl_dnot (fl_ic (t := 129) rfl rfl) fl_nlt (fun h7 =>
        fl_td (s' := (9, [.ref 81, .int i1, .int i2, .int i5, .int 0, .int (i5 + 1), .int 0, .int 0, .int 1], [], M, J)) (fl_n 15 rfl) <|
        (q3 h1 h2 h3 h4 h5 h6 h7)) (fun h7 =>
        fl_td (s' := (9, [.ref 81, .int i1, .int i2, .int i3, .int i4, .int (i5 + 1), .int 0, .int 0, .int 0], [], M, J)) (fl_n 12 rfl) <|
        (q4 h1 h2 h3 h4 h5 h6 h7))) (fun h6 =>
       fl_td (s' := (9, [.ref 81, .int i1, .int i2, .int i3, .int i4, .int (i5 + 1), .int 0, .int 0, .int 0], [], M, J)) (fl_n 12 rfl) <|
       (q5 h1 h2 h3 h4 h5 h6))))) (fun h3 =>
    fl_td (s' := (58, [.ref 81, .int i1, .int i2, .int i3, .int i4, .int i5, u6, u7, u8], [.int i5, .int (M 82 ((i1 + 2).toNatClampNeg))], M, J)) (fl_n 7 rfl) <|
    fl_dtwo (fl_ic (t := 65) rfl rfl) fl_cT (fun h8 =>
     fl_td (s' := (91, [.ref 81, .int i1, .int i2, .int i3, .int i4, .int i5, .int 0, .int 0, u8], [.int i4, .int 0], M, J)) (fl_n 8 rfl) <|
     fl_dtwo (fl_ic (t := 125) rfl rfl) fl_cT (fun h9 =>
      fl_td (s' := (9, [.ref 81, .int i1, .int i2, .int i5, .int 0, .int (i5 + 1), .int 0, .int 0, .int 1], [], M, J)) (fl_n 15 rfl) <|
      (q6 h1 h2 h3 h8 h9)) (fun h9 =>
      fl_td (s' := (97, [.ref 81, .int i1, .int i2, .int i3, .int i4, .int i5, .int 0, .int 0, u8], [.int (-9), .int i3], M, J)) (fl_n 2 rfl) <|
      fl_dtwo (fl_ic (t := 129) rfl rfl) fl_cT (fun h10 =>
       fl_td (s' := (9, [.ref 81, .int i1, .int i2, .int i3, .int i4, .int (i5 + 1), .int 0, .int 0, .int 0], [], M, J)) (fl_n 12 rfl) <|
       (q7 h1 h2 h3 h8 h9 h10)) (fun h10 =>
       fl_td (s' := (104, [.ref 81, .int i1, .int i2, .int i3, .int i4, .int i5, .int 0, .int 0, u8], [.int i4, .int 0], M, J)) (fl_n 2 rfl) <|
       fl_dnot (fl_ic (t := 129) rfl rfl) fl_cF (fun h11 =>
        fl_td (s' := (112, [.ref 81, .int i1, .int i2, .int i3, .int i4, .int i5, .int 0, .int 0, u8], [.int i5, .int i2, .int i1, .ref 81], M, J)) (fl_n 4 rfl) <|
        fl_td (s' := (115, [.ref 81, .int i1, .int i2, .int i3, .int i4, .int i5, .int 0, .int 0, u8], [.int (v_137 i1 i2 i5 M)], M, J)) (fl_cv (o := some (.int (v_137 i1 i2 i5 M))) rfl rfl rfl rfl (cc_137 M J i1 i2 i5) rfl) <|
        fl_td (s' := (119, [.ref 81, .int i1, .int i2, .int i3, .int i4, .int i5, .int 0, .int 0, u8], [.int i3, .int i2, .int i1, .ref 81, .int (v_137 i1 i2 i5 M)], M, J)) (fl_n 4 rfl) <|
        fl_td (s' := (122, [.ref 81, .int i1, .int i2, .int i3, .int i4, .int i5, .int 0, .int 0, u8], [.int (v_137 i1 i2 i3 M), .int (v_137 i1 i2 i5 M)], M, J)) (fl_cv (o := some (.int (v_137 i1 i2 i3 M))) rfl rfl rfl rfl (cc_137 M J i1 i2 i3) rfl) <|
        fl_dnot (fl_ic (t := 129) rfl rfl) fl_nlt (fun h12 =>
         fl_td (s' := (9, [.ref 81, .int i1, .int i2, .int i5, .int 0, .int (i5 + 1), .int 0, .int 0, .int 1], [], M, J)) (fl_n 15 rfl) <|
         (q8 h1 h2 h3 h8 h9 h10 h11 h12)) (fun h12 =>
         fl_td (s' := (9, [.ref 81, .int i1, .int i2, .int i3, .int i4, .int (i5 + 1), .int 0, .int 0, .int 0], [], M, J)) (fl_n 12 rfl) <|
         (q9 h1 h2 h3 h8 h9 h10 h11 h12))) (fun h11 =>
        fl_td (s' := (9, [.ref 81, .int i1, .int i2, .int i3, .int i4, .int (i5 + 1), .int 0, .int 0, .int 0], [], M, J)) (fl_n 12 rfl) <|
        (q10 h1 h2 h3 h8 h9 h10 h11))))) (fun h8 =>
     fl_td (s' := (78, [.ref 81, .int i1, .int i2, .int i3, .int i4, .int i5, .int 1, u7, u8], [.int i5, .int i2, .int i1, .ref 81], M, J)) (fl_n 9 rfl) <|
     fl_td (s' := (81, [.ref 81, .int i1, .int i2, .int i3, .int i4, .int i5, .int 1, u7, u8], [.int (v_136 i1 i2 i5 M)], M, J)) (fl_cv (o := some (.int (v_136 i1 i2 i5 M))) rfl rfl rfl rfl (cc_136 M J i1 i2 i5) rfl) <|
     fl_td (s' := (91, [.ref 81, .int i1, .int i2, .int i3, .int i4, .int i5, .int 1, .int (v_136 i1 i2 i5 M), u8], [.int i4, .int (v_136 i1 i2 i5 M)], M, J)) (fl_n 4 rfl) <|
     fl_dtwo (fl_ic (t := 125) rfl rfl) fl_cT (fun h13 =>
      fl_td (s' := (9, [.ref 81, .int i1, .int i2, .int i5, .int (v_136 i1 i2 i5 M), .int (i5 + 1), .int 1, .int (v_136 i1 i2 i5 M), .int 1], [], M, J)) (fl_n 15 rfl) <|
      (q11 h1 h2 h3 h8 h13)) (fun h13 =>
      fl_td (s' := (97, [.ref 81, .int i1, .int i2, .int i3, .int i4, .int i5, .int 1, .int (v_136 i1 i2 i5 M), u8], [.int (-9), .int i3], M, J)) (fl_n 2 rfl) <|
      fl_dtwo (fl_ic (t := 129) rfl rfl) fl_cT (fun h14 =>
       fl_td (s' := (9, [.ref 81, .int i1, .int i2, .int i3, .int i4, .int (i5 + 1), .int 1, .int (v_136 i1 i2 i5 M), .int 0], [], M, J)) (fl_n 12 rfl) <|
       (q12 h1 h2 h3 h8 h13 h14)) (fun h14 =>
       fl_td (s' := (104, [.ref 81, .int i1, .int i2, .int i3, .int i4, .int i5, .int 1, .int (v_136 i1 i2 i5 M), u8], [.int i4, .int (v_136 i1 i2 i5 M)], M, J)) (fl_n 2 rfl) <|
       fl_dnot (fl_ic (t := 129) rfl rfl) fl_cF (fun h15 =>
        fl_td (s' := (112, [.ref 81, .int i1, .int i2, .int i3, .int i4, .int i5, .int 1, .int (v_136 i1 i2 i5 M), u8], [.int i5, .int i2, .int i1, .ref 81], M, J)) (fl_n 4 rfl) <|
        fl_td (s' := (115, [.ref 81, .int i1, .int i2, .int i3, .int i4, .int i5, .int 1, .int (v_136 i1 i2 i5 M), u8], [.int (v_137 i1 i2 i5 M)], M, J)) (fl_cv (o := some (.int (v_137 i1 i2 i5 M))) rfl rfl rfl rfl (cc_137 M J i1 i2 i5) rfl) <|
        fl_td (s' := (119, [.ref 81, .int i1, .int i2, .int i3, .int i4, .int i5, .int 1, .int (v_136 i1 i2 i5 M), u8], [.int i3, .int i2, .int i1, .ref 81, .int (v_137 i1 i2 i5 M)], M, J)) (fl_n 4 rfl) <|
        fl_td (s' := (122, [.ref 81, .int i1, .int i2, .int i3, .int i4, .int i5, .int 1, .int (v_136 i1 i2 i5 M), u8], [.int (v_137 i1 i2 i3 M), .int (v_137 i1 i2 i5 M)], M, J)) (fl_cv (o := some (.int (v_137 i1 i2 i3 M))) rfl rfl rfl rfl (cc_137 M J i1 i2 i3) rfl) <|
        fl_dnot (fl_ic (t := 129) rfl rfl) fl_nlt (fun h16 =>
         fl_td (s' := (9, [.ref 81, .int i1, .int i2, .int i5, .int (v_136 i1 i2 i5 M), .int (i5 + 1), .int 1, .int (v_136 i1 i2 i5 M), .int 1], [], M, J)) (fl_n 15 rfl) <|
         (q13 h1 h2 h3 h8 h13 h14 h15 h16)) (fun h16 =>
         fl_td (s' := (9, [.ref 81, .int i1, .int i2, .int i3, .int i4, .int (i5 + 1), .int 1, .int (v_136 i1 i2 i5 M), .int 0], [], M, J)) (fl_n 12 rfl) <|
         (q14 h1 h2 h3 h8 h13 h14 h15 h16))) (fun h15 =>
        fl_td (s' := (9, [.ref 81, .int i1, .int i2, .int i3, .int i4, .int (i5 + 1), .int 1, .int (v_136 i1 i2 i5 M), .int 0], [], M, J)) (fl_n 12 rfl) <|
        (q15 h1 h2 h3 h8 h13 h14 h15))))))) (fun h2 =>
   fl_td (s' := (91, [.ref 81, .int i1, .int i2, .int i3, .int i4, .int i5, .int 0, .int 0, u8], [.int i4, .int 0], M, J)) (fl_n 8 rfl) <|
   fl_dtwo (fl_ic (t := 125) rfl rfl) fl_cT (fun h17 =>
    fl_td (s' := (9, [.ref 81, .int i1, .int i2, .int i5, .int 0, .int (i5 + 1), .int 0, .int 0, .int 1], [], M, J)) (fl_n 15 rfl) <|
    (q16 h1 h2 h17)) (fun h17 =>
    fl_td (s' := (97, [.ref 81, .int i1, .int i2, .int i3, .int i4, .int i5, .int 0, .int 0, u8], [.int (-9), .int i3], M, J)) (fl_n 2 rfl) <|
    fl_dtwo (fl_ic (t := 129) rfl rfl) fl_cT (fun h18 =>
     fl_td (s' := (9, [.ref 81, .int i1, .int i2, .int i3, .int i4, .int (i5 + 1), .int 0, .int 0, .int 0], [], M, J)) (fl_n 12 rfl) <|
     (q17 h1 h2 h17 h18)) (fun h18 =>
     fl_td (s' := (104, [.ref 81, .int i1, .int i2, .int i3, .int i4, .int i5, .int 0, .int 0, u8], [.int i4, .int 0], M, J)) (fl_n 2 rfl) <|
     fl_dnot (fl_ic (t := 129) rfl rfl) fl_cF (fun h19 =>
      fl_td (s' := (112, [.ref 81, .int i1, .int i2, .int i3, .int i4, .int i5, .int 0, .int 0, u8], [.int i5, .int i2, .int i1, .ref 81], M, J)) (fl_n 4 rfl) <|
      fl_td (s' := (115, [.ref 81, .int i1, .int i2, .int i3, .int i4, .int i5, .int 0, .int 0, u8], [.int (v_137 i1 i2 i5 M)], M, J)) (fl_cv (o := some (.int (v_137 i1 i2 i5 M))) rfl rfl rfl rfl (cc_137 M J i1 i2 i5) rfl) <|
      fl_td (s' := (119, [.ref 81, .int i1, .int i2, .int i3, .int i4, .int i5, .int 0, .int 0, u8], [.int i3, .int i2, .int i1, .ref 81, .int (v_137 i1 i2 i5 M)], M, J)) (fl_n 4 rfl) <|
      fl_td (s' := (122, [.ref 81, .int i1, .int i2, .int i3, .int i4, .int i5, .int 0, .int 0, u8], [.int (v_137 i1 i2 i3 M), .int (v_137 i1 i2 i5 M)], M, J)) (fl_cv (o := some (.int (v_137 i1 i2 i3 M))) rfl rfl rfl rfl (cc_137 M J i1 i2 i3) rfl) <|
      fl_dnot (fl_ic (t := 129) rfl rfl) fl_nlt (fun h20 =>
       fl_td (s' := (9, [.ref 81, .int i1, .int i2, .int i5, .int 0, .int (i5 + 1), .int 0, .int 0, .int 1], [], M, J)) (fl_n 15 rfl) <|
       (q18 h1 h2 h17 h18 h19 h20)) (fun h20 =>
       fl_td (s' := (9, [.ref 81, .int i1, .int i2, .int i3, .int i4, .int (i5 + 1), .int 0, .int 0, .int 0], [], M, J)) (fl_n 12 rfl) <|
       (q19 h1 h2 h17 h18 h19 h20))) (fun h19 =>
      fl_td (s' := (9, [.ref 81, .int i1, .int i2, .int i3, .int i4, .int (i5 + 1), .int 0, .int 0, .int 0], [], M, J)) (fl_n 12 rfl) <|
      (q20 h1 h2 h17 h18 h19)))))) (fun h1 =>
  (q21 h1))
