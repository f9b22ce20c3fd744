theorem cc_11 (M : fl_M) (J : fl_J) (t n : Int32) : fl_C 11 [.ref 0, .int t, .int n] M J (some (.int (if (t < 0) ∨ (¬ (t < 4)) then (-1) else (if 60 < n then (-1) else (if n < 0 then (-3) else n)))), (if (t < 0) ∨ (¬ (t < 4)) then M else (if 60 < n then M else (if n < 0 then (fl_u (fl_u M 0 11 5) 80 5 ((M 80 5) + 1)) else (fl_u (fl_f M (fl_ar 10 t.toNatClampNeg) n.toNatClampNeg 32) 9 t.toNatClampNeg n)))), J) :=
 fl_Co (B := fB11) rfl rfl <|
 fl_td (s' := (1, [.ref 0, .int t, .int n, .null], [.int t], M, J)) (fl_n 1 rfl) <|
 fl_td (s' := (4, [.ref 0, .int t, .int n, .null], [.int (if (t < 0) ∨ (¬ (t < 4)) then 1 else 0)], M, J)) (fl_cs (o := some (.int (if (t < 0) ∨ (¬ (t < 4)) then 1 else 0))) rfl rfl rfl (cc_12 M J t) rfl) <|
 fl_dtwo (fl_if (t := 13) rfl rfl) fl_b1 (fun h1 =>
  fl_td (s' := (14, [.ref 0, .int t, .int n, .null], [.int (-1)], M, J)) (fl_n 1 rfl) <|
  fl_rt rfl (fun _ => rfl) (by first | (simp only [if_pos h1]; done) | rfl)) (fun h1 =>
  fl_td (s' := (10, [.ref 0, .int t, .int n, .null], [.int 60, .int n], M, J)) (fl_n 2 rfl) <|
  fl_dnot (fl_ic (t := 15) rfl rfl) fl_nle (fun h2 =>
   fl_td (s' := (14, [.ref 0, .int t, .int n, .null], [.int (-1)], M, J)) (fl_n 1 rfl) <|
   fl_rt rfl (fun _ => rfl) (by first | (simp only [if_neg h1, if_pos h2]; done) | rfl)) (fun h2 =>
   fl_td (s' := (16, [.ref 0, .int t, .int n, .null], [.int n], M, J)) (fl_n 1 rfl) <|
   fl_dnot (fl_if (t := 25) rfl rfl) fl_nlt (fun h3 =>
    fl_td (s' := (21, [.ref 0, .int t, .int n, .null], [.int 5, .ref 0], M, J)) (fl_n 2 rfl) <|
    fl_td (s' := (24, [.ref 0, .int t, .int n, .null], [.int (-3)], (fl_u (fl_u M 0 11 5) 80 5 ((M 80 5) + 1)), J)) (fl_cv (o := some (.int (-3))) rfl rfl rfl rfl (cc_2 M J 5) rfl) <|
    fl_rt rfl (fun _ => rfl) (by first | (simp only [if_neg h1, if_neg h2, if_pos h3]; done) | rfl)) (fun h3 =>
    fl_td (s' := (27, [.ref 0, .int t, .int n, .int 0], [], M, J)) (fl_n 2 rfl) <|
    fl_de (lp_11 M J t n) (by first | (simp only [if_neg h1, if_neg h2, if_neg h3]; done) | rfl))))
def fB105 : sm_P := (fun pc => sm_ch sm_t105 pc, sm_Kn 3 6 none, fun x => sm_lk sm_ca3 x, some .boolean)
theorem cc_105 (M : fl_M) (J : fl_J) (x a b : Int64) : fl_C 105 [.long x, .long a, .long b] M J (some (.int (if (¬ (x < a)) ∧ (¬ (b < x)) then 1 else 0)), M, J) :=
 fl_Co (B := fB105) rfl rfl <|
 fl_td (s' := (3, [.long x, .null, .long a, .null, .long b, .null], [.int (lg_cmp x a)], M, J)) (fl_n 3 rfl) <|
 fl_dtwo (fl_if (t := 17) rfl rfl) fl_llt (fun h1 =>
  fl_td (s' := (18, [.long x, .null, .long a, .null, .long b, .null], [.int 0], M, J)) (fl_n 1 rfl) <|
  fl_rt rfl (fun _ => rfl) (by simp [h1])) (fun h1 =>
  fl_td (s' := (10, [.long x, .null, .long a, .null, .long b, .null], [.int (lg_cmp x b)], M, J)) (fl_n 3 rfl) <|
  fl_dtwo (fl_if (t := 17) rfl rfl) fl_lgt (fun h2 =>
   fl_td (s' := (18, [.long x, .null, .long a, .null, .long b, .null], [.int 0], M, J)) (fl_n 1 rfl) <|
   fl_rt rfl (fun _ => rfl) (by simp [h1, h2])) (fun h2 =>
   fl_td (s' := (18, [.long x, .null, .long a, .null, .long b, .null], [.int 1], M, J)) (fl_n 2 rfl) <|
   fl_rt rfl (fun _ => rfl) (by simp [h1, h2])))
theorem cc_105i (M : fl_M) (J : fl_J) (x a b : Int32) : fl_C 105 [.long x.toInt64, .long a.toInt64, .long b.toInt64] M J (some (.int (if (¬ (x < a)) ∧ (¬ (b < x)) then 1 else 0)), M, J) := by
  have h := cc_105 M J x.toInt64 a.toInt64 b.toInt64
  simp only [fl_64lt] at h
  exact h
def fB104 : sm_P := (fun pc => sm_ch sm_t104 pc, sm_Kn 3 1 none, fun x => sm_lk sm_ca3 x, some .boolean)
theorem cc_104 (M : fl_M) (J : fl_J) (r : Int32) : fl_C 104 [.int r] M J (some (.int (if (¬ (r < 0)) ∧ (¬ (5 < r)) then 1 else 0)), M, J) :=
 fl_Co (B := fB104) rfl rfl <|
 fl_td (s' := (6, [.int r], [.long 5, .long 0, .long r.toInt64], M, J)) (fl_n 4 rfl) <|
 fl_td (s' := (9, [.int r], [.int (if (¬ (r < 0)) ∧ (¬ (5 < r)) then 1 else 0)], M, J)) (fl_cs (o := some (.int (if (¬ (r < 0)) ∧ (¬ (5 < r)) then 1 else 0))) rfl rfl rfl (cc_105i M J r 0 5) rfl) <|
 fl_rt rfl (fun _ => rfl) (rfl)
def fB117 : sm_P := (fun pc => sm_ch sm_t117 pc, sm_Kn 3 1 none, fun x => sm_lk sm_ca3 x, some .boolean)
theorem cc_117 (M : fl_M) (J : fl_J) (t : Int32) : fl_C 117 [.int t] M J (some (.int (if (¬ (t < 0)) ∧ (¬ (3 < t)) then 1 else 0)), M, J) :=
 fl_Co (B := fB117) rfl rfl <|
 fl_td (s' := (6, [.int t], [.long 3, .long 0, .long t.toInt64], M, J)) (fl_n 4 rfl) <|
 fl_td (s' := (9, [.int t], [.int (if (¬ (t < 0)) ∧ (¬ (3 < t)) then 1 else 0)], M, J)) (fl_cs (o := some (.int (if (¬ (t < 0)) ∧ (¬ (3 < t)) then 1 else 0))) rfl rfl rfl (cc_105i M J t 0 3) rfl) <|
 fl_rt rfl (fun _ => rfl) (rfl)
def fB110 : sm_P := (fun pc => sm_ch sm_t110 pc, sm_Kn 3 2 none, fun x => sm_lk sm_ca3 x, some .int)
theorem cc_110 (M : fl_M) (J : fl_J) (v : Int32) : fl_C 110 [.ref 81, .int v] M J (some (.int 1), (fl_u M 81 11 v), J) :=
 fl_Co (B := fB110) rfl rfl <|
 fl_td (s' := (6, [.ref 81, .int v], [.int 1], (fl_u M 81 11 v), J)) (fl_n 4 rfl) <|
 fl_rt rfl (fun _ => rfl) (rfl)
def fB106 : sm_P := (fun pc => sm_ch sm_t106 pc, sm_Kn 3 2 none, fun x => sm_lk sm_ca3 x, some .int)
theorem cc_106 (M : fl_M) (J : fl_J) (v : Int32) : fl_C 106 [.ref 81, .int v] M J (some (.int (-3)), (fl_u (fl_u M 81 14 v) 91 v.toNatClampNeg ((M 91 v.toNatClampNeg) + 1)), J) :=
 fl_Co (B := fB106) rfl rfl <|
 fl_td (s' := (17, [.ref 81, .int v], [.int (-3)], (fl_u (fl_u M 81 14 v) 91 v.toNatClampNeg ((M 91 v.toNatClampNeg) + 1)), J)) (fl_n 12 rfl) <|
 fl_rt rfl (fun _ => rfl) (rfl)
def fB109 : sm_P := (fun pc => sm_ch sm_t109 pc, sm_Kn 3 3 none, fun x => sm_lk sm_ca3 x, some .int)
theorem cc_109 (M : fl_M) (J : fl_J) (r i : Int32) : fl_C 109 [.ref 81, .int r, .int i] M J (some (.int (if (¬ (r < 0)) ∧ (¬ (5 < r)) then (if (M 87 r.toNatClampNeg) < 0 then (-3) else (if (¬ (i < 0)) ∧ (¬ ((M 87 r.toNatClampNeg) - 1 < i)) then 0 else (-3))) else (-1))), (if (¬ (r < 0)) ∧ (¬ (5 < r)) then (if (M 87 r.toNatClampNeg) < 0 then (fl_u (fl_u M 81 14 1) 91 1 ((M 91 1) + 1)) else (if (¬ (i < 0)) ∧ (¬ ((M 87 r.toNatClampNeg) - 1 < i)) then M else (fl_u (fl_u M 81 14 2) 91 2 ((M 91 2) + 1)))) else M), J) :=
 fl_Co (B := fB109) rfl rfl <|
 fl_td (s' := (1, [.ref 81, .int r, .int i], [.int r], M, J)) (fl_n 1 rfl) <|
 fl_td (s' := (4, [.ref 81, .int r, .int i], [.int (if (¬ (r < 0)) ∧ (¬ (5 < r)) then 1 else 0)], M, J)) (fl_cs (o := some (.int (if (¬ (r < 0)) ∧ (¬ (5 < r)) then 1 else 0))) rfl rfl rfl (cc_104 M J r) rfl) <|
 fl_dtwo (fl_if (t := 11) rfl rfl) fl_b1 (fun h1 =>
  fl_td (s' := (17, [.ref 81, .int r, .int i], [.int (M 87 r.toNatClampNeg)], M, J)) (fl_n 4 rfl) <|
  fl_dnot (fl_if (t := 28) rfl rfl) fl_nlt (fun h2 =>
   fl_td (s' := (22, [.ref 81, .int r, .int i], [.int 1, .ref 81], M, J)) (fl_n 2 rfl) <|
   fl_td (s' := (25, [.ref 81, .int r, .int i], [.int (-3)], (fl_u (fl_u M 81 14 1) 91 1 ((M 91 1) + 1)), J)) (fl_cv (o := some (.int (-3))) rfl rfl rfl rfl (cc_106 M J 1) rfl) <|
   fl_td (s' := (55, [.ref 81, .int r, .int i], [.int (-3)], (fl_u (fl_u M 81 14 1) 91 1 ((M 91 1) + 1)), J)) (fl_n 1 rfl) <|
   fl_rt rfl (fun _ => rfl) (by first | (simp only [if_pos h1, if_pos h2]; done) | rfl)) (fun h2 =>
   fl_td (s' := (40, [.ref 81, .int r, .int i], [.long (((M 87 r.toNatClampNeg) - 1).toInt64), .long 0, .long i.toInt64], M, J)) (fl_n 10 rfl) <|
   fl_td (s' := (43, [.ref 81, .int r, .int i], [.int (if (¬ (i < 0)) ∧ (¬ ((M 87 r.toNatClampNeg) - 1 < i)) then 1 else 0)], M, J)) (fl_cs (o := some (.int (if (¬ (i < 0)) ∧ (¬ ((M 87 r.toNatClampNeg) - 1 < i)) then 1 else 0))) rfl rfl rfl (cc_105i M J i 0 ((M 87 r.toNatClampNeg) - 1)) rfl) <|
   fl_dnot (fl_if (t := 50) rfl rfl) fl_b0 (fun h3 =>
    fl_td (s' := (55, [.ref 81, .int r, .int i], [.int 0], M, J)) (fl_n 2 rfl) <|
    fl_rt rfl (fun _ => rfl) (by first | (simp only [if_pos h1, if_neg h2, if_pos h3]; done) | rfl)) (fun h3 =>
    fl_td (s' := (52, [.ref 81, .int r, .int i], [.int 2, .ref 81], M, J)) (fl_n 2 rfl) <|
    fl_td (s' := (55, [.ref 81, .int r, .int i], [.int (-3)], (fl_u (fl_u M 81 14 2) 91 2 ((M 91 2) + 1)), J)) (fl_cv (o := some (.int (-3))) rfl rfl rfl rfl (cc_106 M J 2) rfl) <|
    fl_rt rfl (fun _ => rfl) (by first | (simp only [if_pos h1, if_neg h2, if_neg h3]; done) | rfl)))) (fun h1 =>
  fl_td (s' := (55, [.ref 81, .int r, .int i], [.int (-1)], M, J)) (fl_n 2 rfl) <|
  fl_rt rfl (fun _ => rfl) (by first | (simp only [if_neg h1]; done) | rfl))
def fB108 : sm_P := (fun pc => sm_ch sm_t108 pc, sm_Kn 3 6 none, fun x => sm_lk sm_ca3 x, some .int)
theorem cc_108 (M : fl_M) (J : fl_J) (r i v : Int32) : fl_C 108 [.ref 81, .int r, .int i, .int v] M J (some (.int (if (¬ (r < 0)) ∧ (¬ (5 < r)) then (if (M 87 r.toNatClampNeg) < 0 then (-3) else (if (¬ (i < 0)) ∧ (¬ ((M 87 r.toNatClampNeg) - 1 < i)) then 1 else (-3))) else (-1))), (if (¬ (r < 0)) ∧ (¬ (5 < r)) then (if (M 87 r.toNatClampNeg) < 0 then (fl_u (fl_u M 81 14 1) 91 1 ((M 91 1) + 1)) else (if (¬ (i < 0)) ∧ (¬ ((M 87 r.toNatClampNeg) - 1 < i)) then (fl_u (fl_u M 88 (((40 * r) + i).toNatClampNeg) v) 81 11 (M 88 (((40 * r) + i).toNatClampNeg))) else (fl_u (fl_u M 81 14 2) 91 2 ((M 91 2) + 1)))) else M), J) :=
 fl_Co (B := fB108) rfl rfl <|
 fl_td (s' := (3, [.ref 81, .int r, .int i, .int v, .null, .null], [.int i, .int r, .ref 81], M, J)) (fl_n 3 rfl) <|
 fl_dc (c := (¬ (r < 0)) ∧ (¬ (5 < r))) (fun h1 =>
  fl_dc (c := (M 87 r.toNatClampNeg) < 0) (fun h2 =>
   fl_td (s' := (6, [.ref 81, .int r, .int i, .int v, .null, .null], [.int (-3)], (fl_u (fl_u M 81 14 1) 91 1 ((M 91 1) + 1)), J)) (fl_cv (o := some (.int (-3))) rfl rfl rfl rfl (fl_Ce (cc_109 M J r i) (by first | (simp only [if_pos h1, if_pos h2]; done) | (simp only [if_pos h1, if_pos h2]; rfl))) rfl) <|
   fl_td (s' := (15, [.ref 81, .int r, .int i, .int v, .int (-3), .null], [.int (-3)], (fl_u (fl_u M 81 14 1) 91 1 ((M 91 1) + 1)), J)) (fl_n 4 rfl) <|
   fl_rt rfl (fun _ => rfl) (by first | (simp only [if_pos h1, if_pos h2]; done) | rfl)) (fun h2 =>
   fl_dc (c := (¬ (i < 0)) ∧ (¬ ((M 87 r.toNatClampNeg) - 1 < i))) (fun h3 =>
    fl_td (s' := (6, [.ref 81, .int r, .int i, .int v, .null, .null], [.int 0], M, J)) (fl_cv (o := some (.int 0)) rfl rfl rfl rfl (fl_Ce (cc_109 M J r i) (by first | (simp only [if_pos h1, if_neg h2, if_pos h3]; done) | (simp only [if_pos h1, if_neg h2, if_pos h3]; rfl))) rfl) <|
    fl_td (s' := (44, [.ref 81, .int r, .int i, .int v, .int 0, .int (M 88 (((40 * r) + i).toNatClampNeg))], [.int (M 88 (((40 * r) + i).toNatClampNeg)), .ref 81], (fl_u M 88 (((40 * r) + i).toNatClampNeg) v), J)) (fl_n 23 rfl) <|
    fl_td (s' := (47, [.ref 81, .int r, .int i, .int v, .int 0, .int (M 88 (((40 * r) + i).toNatClampNeg))], [.int 1], (fl_u (fl_u M 88 (((40 * r) + i).toNatClampNeg) v) 81 11 (M 88 (((40 * r) + i).toNatClampNeg))), J)) (fl_cv (o := some (.int 1)) rfl rfl rfl rfl (cc_110 (fl_u M 88 (((40 * r) + i).toNatClampNeg) v) J (M 88 (((40 * r) + i).toNatClampNeg))) rfl) <|
    fl_rt rfl (fun _ => rfl) (by first | (simp only [if_pos h1, if_neg h2, if_pos h3]; done) | rfl)) (fun h3 =>
    fl_td (s' := (6, [.ref 81, .int r, .int i, .int v, .null, .null], [.int (-3)], (fl_u (fl_u M 81 14 2) 91 2 ((M 91 2) + 1)), J)) (fl_cv (o := some (.int (-3))) rfl rfl rfl rfl (fl_Ce (cc_109 M J r i) (by first | (simp only [if_pos h1, if_neg h2, if_neg h3]; done) | (simp only [if_pos h1, if_neg h2, if_neg h3]; rfl))) rfl) <|
    fl_td (s' := (15, [.ref 81, .int r, .int i, .int v, .int (-3), .null], [.int (-3)], (fl_u (fl_u M 81 14 2) 91 2 ((M 91 2) + 1)), J)) (fl_n 4 rfl) <|
    fl_rt rfl (fun _ => rfl) (by first | (simp only [if_pos h1, if_neg h2, if_neg h3]; done) | rfl)))) (fun h1 =>
  fl_td (s' := (6, [.ref 81, .int r, .int i, .int v, .null, .null], [.int (-1)], M, J)) (fl_cv (o := some (.int (-1))) rfl rfl rfl rfl (fl_Ce (cc_109 M J r i) (by first | (simp only [if_neg h1]; done) | (simp only [if_neg h1]; rfl))) rfl) <|
  fl_td (s' := (15, [.ref 81, .int r, .int i, .int v, .int (-1), .null], [.int (-1)], M, J)) (fl_n 4 rfl) <|
  fl_rt rfl (fun _ => rfl) (by first | (simp only [if_neg h1]; done) | rfl))
