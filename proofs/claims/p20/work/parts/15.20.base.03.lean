def fB111 : sm_P := (fun pc => sm_ch sm_t111 pc, sm_Kn 3 4 none, fun x => sm_lk sm_ca3 x, some .int)
theorem cc_111 (M : fl_M) (J : fl_J) (r i : Int32) : fl_C 111 [.ref 81, .int r, .int i] M J (some (.int (if (¬ (r < 0)) ∧ (¬ (5 < r)) then (if (M 87 r.toNatClampNeg) < 0 then (-3) else (if (¬ (i < 0)) ∧ (¬ ((M 87 r.toNatClampNeg) - 1 < i)) then 1 else (-3))) else (-1))), (if (¬ (r < 0)) ∧ (¬ (5 < r)) then (if (M 87 r.toNatClampNeg) < 0 then (fl_u (fl_u M 81 14 1) 91 1 ((M 91 1) + 1)) else (if (¬ (i < 0)) ∧ (¬ ((M 87 r.toNatClampNeg) - 1 < i)) then (fl_u M 81 11 (M 88 (((40 * r) + i).toNatClampNeg))) else (fl_u (fl_u M 81 14 2) 91 2 ((M 91 2) + 1)))) else M), J) :=
 fl_Co (B := fB111) rfl rfl <|
 fl_td (s' := (3, [.ref 81, .int r, .int i, .null], [.int i, .int r, .ref 81], M, J)) (fl_n 3 rfl) <|
 fl_dc (c := (¬ (r < 0)) ∧ (¬ (5 < r))) (fun h1 =>
  fl_dc (c := (M 87 r.toNatClampNeg) < 0) (fun h2 =>
   fl_td (s' := (6, [.ref 81, .int r, .int i, .null], [.int (-3)], (fl_u (fl_u M 81 14 1) 91 1 ((M 91 1) + 1)), J)) (fl_cv (o := some (.int (-3))) rfl rfl rfl rfl (fl_Ce (cc_109 M J r i) (by first | (simp only [if_pos h1, if_pos h2]; done) | (simp only [if_pos h1, if_pos h2]; rfl))) rfl) <|
   fl_td (s' := (30, [.ref 81, .int r, .int i, .int (-3)], [.int (-3)], (fl_u (fl_u M 81 14 1) 91 1 ((M 91 1) + 1)), J)) (fl_n 5 rfl) <|
   fl_rt rfl (fun _ => rfl) (by first | (simp only [if_pos h1, if_pos h2]; done) | rfl)) (fun h2 =>
   fl_dc (c := (¬ (i < 0)) ∧ (¬ ((M 87 r.toNatClampNeg) - 1 < i))) (fun h3 =>
    fl_td (s' := (6, [.ref 81, .int r, .int i, .null], [.int 0], M, J)) (fl_cv (o := some (.int 0)) rfl rfl rfl rfl (fl_Ce (cc_109 M J r i) (by first | (simp only [if_pos h1, if_neg h2, if_pos h3]; done) | (simp only [if_pos h1, if_neg h2, if_pos h3]; rfl))) rfl) <|
    fl_td (s' := (27, [.ref 81, .int r, .int i, .int 0], [.int (M 88 (((40 * r) + i).toNatClampNeg)), .ref 81], M, J)) (fl_n 12 rfl) <|
    fl_td (s' := (30, [.ref 81, .int r, .int i, .int 0], [.int 1], (fl_u M 81 11 (M 88 (((40 * r) + i).toNatClampNeg))), J)) (fl_cv (o := some (.int 1)) rfl rfl rfl rfl (cc_110 M J (M 88 (((40 * r) + i).toNatClampNeg))) rfl) <|
    fl_rt rfl (fun _ => rfl) (by first | (simp only [if_pos h1, if_neg h2, if_pos h3]; done) | rfl)) (fun h3 =>
    fl_td (s' := (6, [.ref 81, .int r, .int i, .null], [.int (-3)], (fl_u (fl_u M 81 14 2) 91 2 ((M 91 2) + 1)), J)) (fl_cv (o := some (.int (-3))) rfl rfl rfl rfl (fl_Ce (cc_109 M J r i) (by first | (simp only [if_pos h1, if_neg h2, if_neg h3]; done) | (simp only [if_pos h1, if_neg h2, if_neg h3]; rfl))) rfl) <|
    fl_td (s' := (30, [.ref 81, .int r, .int i, .int (-3)], [.int (-3)], (fl_u (fl_u M 81 14 2) 91 2 ((M 91 2) + 1)), J)) (fl_n 5 rfl) <|
    fl_rt rfl (fun _ => rfl) (by first | (simp only [if_pos h1, if_neg h2, if_neg h3]; done) | rfl)))) (fun h1 =>
  fl_td (s' := (6, [.ref 81, .int r, .int i, .null], [.int (-1)], M, J)) (fl_cv (o := some (.int (-1))) rfl rfl rfl rfl (fl_Ce (cc_109 M J r i) (by first | (simp only [if_neg h1]; done) | (simp only [if_neg h1]; rfl))) rfl) <|
  fl_td (s' := (30, [.ref 81, .int r, .int i, .int (-1)], [.int (-1)], M, J)) (fl_n 5 rfl) <|
  fl_rt rfl (fun _ => rfl) (by first | (simp only [if_neg h1]; done) | rfl))
def fB112 : sm_P := (fun pc => sm_ch sm_t112 pc, sm_Kn 3 2 none, fun x => sm_lk sm_ca3 x, some .int)
theorem cc_112 (M : fl_M) (J : fl_J) (r : Int32) : fl_C 112 [.ref 81, .int r] M J (some (.int (if (¬ (r < 0)) ∧ (¬ (5 < r)) then (if (M 87 r.toNatClampNeg) < 0 then (-3) else 1) else (-1))), (if (¬ (r < 0)) ∧ (¬ (5 < r)) then (if (M 87 r.toNatClampNeg) < 0 then (fl_u (fl_u M 81 14 1) 91 1 ((M 91 1) + 1)) else (fl_u M 87 r.toNatClampNeg (-1))) else M), J) :=
 fl_Co (B := fB112) rfl rfl <|
 fl_td (s' := (1, [.ref 81, .int r], [.int r], M, J)) (fl_n 1 rfl) <|
 fl_td (s' := (4, [.ref 81, .int r], [.int (if (¬ (r < 0)) ∧ (¬ (5 < r)) then 1 else 0)], M, J)) (fl_cs (o := some (.int (if (¬ (r < 0)) ∧ (¬ (5 < r)) then 1 else 0))) rfl rfl rfl (cc_104 M J r) rfl) <|
 fl_dtwo (fl_if (t := 9) rfl rfl) fl_b1 (fun h1 =>
  fl_td (s' := (15, [.ref 81, .int r], [.int (M 87 r.toNatClampNeg)], M, J)) (fl_n 4 rfl) <|
  fl_dnot (fl_if (t := 24) rfl rfl) fl_nlt (fun h2 =>
   fl_td (s' := (20, [.ref 81, .int r], [.int 1, .ref 81], M, J)) (fl_n 2 rfl) <|
   fl_td (s' := (23, [.ref 81, .int r], [.int (-3)], (fl_u (fl_u M 81 14 1) 91 1 ((M 91 1) + 1)), J)) (fl_cv (o := some (.int (-3))) rfl rfl rfl rfl (cc_106 M J 1) rfl) <|
   fl_rt rfl (fun _ => rfl) (by first | (simp only [if_pos h1, if_pos h2]; done) | rfl)) (fun h2 =>
   fl_td (s' := (32, [.ref 81, .int r], [.int 1], (fl_u M 87 r.toNatClampNeg (-1)), J)) (fl_n 6 rfl) <|
   fl_rt rfl (fun _ => rfl) (by first | (simp only [if_pos h1, if_neg h2]; done) | rfl))) (fun h1 =>
  fl_td (s' := (8, [.ref 81, .int r], [.int (-1)], M, J)) (fl_n 1 rfl) <|
  fl_rt rfl (fun _ => rfl) (by first | (simp only [if_neg h1]; done) | rfl))
def fB118 : sm_P := (fun pc => sm_ch sm_t118 pc, sm_Kn 3 5 none, fun x => sm_lk sm_ca3 x, some .int)
theorem cc_118 (M : fl_M) (J : fl_J) (t i v : Int32) : fl_C 118 [.ref 81, .int t, .int i, .int v] M J (some (.int (if (¬ (t < 0)) ∧ (¬ (3 < t)) then (if (M 89 t.toNatClampNeg) < 0 then (-3) else (if (¬ (i < 0)) ∧ (¬ ((M 89 t.toNatClampNeg) - 1 < i)) then (M 90 (((60 * t) + i).toNatClampNeg)) + 1000 else (-3))) else (-1))), (if (¬ (t < 0)) ∧ (¬ (3 < t)) then (if (M 89 t.toNatClampNeg) < 0 then (fl_u (fl_u M 81 14 1) 91 1 ((M 91 1) + 1)) else (if (¬ (i < 0)) ∧ (¬ ((M 89 t.toNatClampNeg) - 1 < i)) then (fl_u M 90 (((60 * t) + i).toNatClampNeg) v.toInt8.toInt32) else (fl_u (fl_u M 81 14 2) 91 2 ((M 91 2) + 1)))) else M), J) :=
 fl_Co (B := fB118) rfl rfl <|
 fl_td (s' := (1, [.ref 81, .int t, .int i, .int v, .null], [.int t], M, J)) (fl_n 1 rfl) <|
 fl_td (s' := (4, [.ref 81, .int t, .int i, .int v, .null], [.int (if (¬ (t < 0)) ∧ (¬ (3 < t)) then 1 else 0)], M, J)) (fl_cs (o := some (.int (if (¬ (t < 0)) ∧ (¬ (3 < t)) then 1 else 0))) rfl rfl rfl (cc_117 M J t) rfl) <|
 fl_dtwo (fl_if (t := 9) rfl rfl) fl_b1 (fun h1 =>
  fl_td (s' := (15, [.ref 81, .int t, .int i, .int v, .null], [.int (M 89 t.toNatClampNeg)], M, J)) (fl_n 4 rfl) <|
  fl_dnot (fl_if (t := 24) rfl rfl) fl_nlt (fun h2 =>
   fl_td (s' := (20, [.ref 81, .int t, .int i, .int v, .null], [.int 1, .ref 81], M, J)) (fl_n 2 rfl) <|
   fl_td (s' := (23, [.ref 81, .int t, .int i, .int v, .null], [.int (-3)], (fl_u (fl_u M 81 14 1) 91 1 ((M 91 1) + 1)), J)) (fl_cv (o := some (.int (-3))) rfl rfl rfl rfl (cc_106 M J 1) rfl) <|
   fl_rt rfl (fun _ => rfl) (by first | (simp only [if_pos h1, if_pos h2]; done) | rfl)) (fun h2 =>
   fl_td (s' := (36, [.ref 81, .int t, .int i, .int v, .null], [.long (((M 89 t.toNatClampNeg) - 1).toInt64), .long 0, .long i.toInt64], M, J)) (fl_n 10 rfl) <|
   fl_td (s' := (39, [.ref 81, .int t, .int i, .int v, .null], [.int (if (¬ (i < 0)) ∧ (¬ ((M 89 t.toNatClampNeg) - 1 < i)) then 1 else 0)], M, J)) (fl_cs (o := some (.int (if (¬ (i < 0)) ∧ (¬ ((M 89 t.toNatClampNeg) - 1 < i)) then 1 else 0))) rfl rfl rfl (cc_105i M J i 0 ((M 89 t.toNatClampNeg) - 1)) rfl) <|
   fl_dtwo (fl_if (t := 48) rfl rfl) fl_b1 (fun h3 =>
    fl_td (s' := (80, [.ref 81, .int t, .int i, .int v, .int (M 90 (((60 * t) + i).toNatClampNeg))], [.int ((M 90 (((60 * t) + i).toNatClampNeg)) + 1000)], (fl_u M 90 (((60 * t) + i).toNatClampNeg) v.toInt8.toInt32), J)) (fl_n 22 rfl) <|
    fl_rt rfl (fun _ => rfl) (by first | (simp only [if_pos h1, if_neg h2, if_pos h3]; done) | rfl)) (fun h3 =>
    fl_td (s' := (44, [.ref 81, .int t, .int i, .int v, .null], [.int 2, .ref 81], M, J)) (fl_n 2 rfl) <|
    fl_td (s' := (47, [.ref 81, .int t, .int i, .int v, .null], [.int (-3)], (fl_u (fl_u M 81 14 2) 91 2 ((M 91 2) + 1)), J)) (fl_cv (o := some (.int (-3))) rfl rfl rfl rfl (cc_106 M J 2) rfl) <|
    fl_rt rfl (fun _ => rfl) (by first | (simp only [if_pos h1, if_neg h2, if_neg h3]; done) | rfl)))) (fun h1 =>
  fl_td (s' := (8, [.ref 81, .int t, .int i, .int v, .null], [.int (-1)], M, J)) (fl_n 1 rfl) <|
  fl_rt rfl (fun _ => rfl) (by first | (simp only [if_neg h1]; done) | rfl))
def fB0 : sm_P := (fun pc => sm_ch sm_t0 pc, sm_Kn 2 4 none, fun x => sm_lk sm_ca2 x, some .int)
theorem sg_0 (M : fl_M) (J : fl_J) (r n i : Int32) : fl_go fB0 (27, [.ref 0, .int r, .int n, .int i], [], M, J) (if i < n then (27, [.ref 0, .int r, .int n, .int (i + 1)], [], (fl_u M (fl_ar 2 r.toNatClampNeg) i.toNatClampNeg 0), J) else (55, [.ref 0, .int r, .int n, .int i], [.int n], (fl_u M 1 r.toNatClampNeg n), J)) :=
 fl_tr (s' := (29, [.ref 0, .int r, .int n, .int i], [.int n, .int i], M, J)) (fl_n 2 rfl) <|
 fl_not (fl_ic (t := 47) rfl rfl) fl_nlt (fun h1 =>
  fl_tr (s' := (27, [.ref 0, .int r, .int n, .int (i + 1)], [], (fl_u M (fl_ar 2 r.toNatClampNeg) i.toNatClampNeg 0), J)) (fl_n 9 rfl) <|
  fl_rfl) (fun h1 =>
  fl_tr (s' := (55, [.ref 0, .int r, .int n, .int i], [.int n], (fl_u M 1 r.toNatClampNeg n), J)) (fl_n 6 rfl) <|
  fl_rfl)
