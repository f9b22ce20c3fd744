def fB1 : sm_P := (fun pc => sm_ch sm_t1 pc, sm_Kn 2 1 none, fun x => sm_lk sm_ca2 x, some .boolean)
theorem cc_1 (M : fl_M) (J : fl_J) (r : Int32) : fl_C 1 [.int r] M J (some (.int (if (r < 0) ∨ (¬ (r < 6)) then 1 else 0)), M, J) :=
 fl_Co (B := fB1) rfl rfl <|
 fl_td (s' := (1, [.int r], [.int r], M, J)) (fl_n 1 rfl) <|
 fl_dtwo (fl_if (t := 10) rfl rfl) fl_cT (fun h1 =>
  fl_td (s' := (15, [.int r], [.int 1], M, J)) (fl_n 2 rfl) <|
  fl_rt rfl (fun _ => rfl) (by simp [h1])) (fun h1 =>
  fl_td (s' := (7, [.int r], [.int 6, .int r], M, J)) (fl_n 2 rfl) <|
  fl_dtwo (fl_ic (t := 14) rfl rfl) fl_cT (fun h2 =>
   fl_td (s' := (15, [.int r], [.int 0], M, J)) (fl_n 1 rfl) <|
   fl_rt rfl (fun _ => rfl) (by simp [h1, h2])) (fun h2 =>
   fl_td (s' := (15, [.int r], [.int 1], M, J)) (fl_n 2 rfl) <|
   fl_rt rfl (fun _ => rfl) (by simp [h1, h2])))
def fB12 : sm_P := (fun pc => sm_ch sm_t12 pc, sm_Kn 2 1 none, fun x => sm_lk sm_ca2 x, some .boolean)
theorem cc_12 (M : fl_M) (J : fl_J) (t : Int32) : fl_C 12 [.int t] M J (some (.int (if (t < 0) ∨ (¬ (t < 4)) then 1 else 0)), M, J) :=
 fl_Co (B := fB12) rfl rfl <|
 fl_td (s' := (1, [.int t], [.int t], M, J)) (fl_n 1 rfl) <|
 fl_dtwo (fl_if (t := 9) rfl rfl) fl_cT (fun h1 =>
  fl_td (s' := (14, [.int t], [.int 1], M, J)) (fl_n 2 rfl) <|
  fl_rt rfl (fun _ => rfl) (by simp [h1])) (fun h1 =>
  fl_td (s' := (6, [.int t], [.int 4, .int t], M, J)) (fl_n 2 rfl) <|
  fl_dtwo (fl_ic (t := 13) rfl rfl) fl_cT (fun h2 =>
   fl_td (s' := (14, [.int t], [.int 0], M, J)) (fl_n 1 rfl) <|
   fl_rt rfl (fun _ => rfl) (by simp [h1, h2])) (fun h2 =>
   fl_td (s' := (14, [.int t], [.int 1], M, J)) (fl_n 2 rfl) <|
   fl_rt rfl (fun _ => rfl) (by simp [h1, h2])))
def fB5 : sm_P := (fun pc => sm_ch sm_t5 pc, sm_Kn 2 2 none, fun x => sm_lk sm_ca2 x, some .int)
theorem cc_5 (M : fl_M) (J : fl_J) (v : Int32) : fl_C 5 [.ref 0, .int v] M J (some (.int 1), (fl_u M 0 12 v), J) :=
 fl_Co (B := fB5) rfl rfl <|
 fl_td (s' := (6, [.ref 0, .int v], [.int 1], (fl_u M 0 12 v), J)) (fl_n 4 rfl) <|
 fl_rt rfl (fun _ => rfl) (rfl)
def fB2 : sm_P := (fun pc => sm_ch sm_t2 pc, sm_Kn 2 2 none, fun x => sm_lk sm_ca2 x, some .int)
theorem cc_2 (M : fl_M) (J : fl_J) (v : Int32) : fl_C 2 [.ref 0, .int v] M J (some (.int (-3)), (fl_u (fl_u M 0 11 v) 80 v.toNatClampNeg ((M 80 v.toNatClampNeg) + 1)), J) :=
 fl_Co (B := fB2) rfl rfl <|
 fl_td (s' := (17, [.ref 0, .int v], [.int (-3)], (fl_u (fl_u M 0 11 v) 80 v.toNatClampNeg ((M 80 v.toNatClampNeg) + 1)), J)) (fl_n 12 rfl) <|
 fl_rt rfl (fun _ => rfl) (rfl)
def fB9 : sm_P := (fun pc => sm_ch sm_t9 pc, sm_Kn 2 3 none, fun x => sm_lk sm_ca2 x, some .boolean)
theorem cc_9 (M : fl_M) (J : fl_J) (i n v : Int32) : fl_C 9 [.int i, .int n, .int v] M J (some (.int (if (i < 0) ∨ ((v - n) < i) then 1 else 0)), M, J) :=
 fl_Co (B := fB9) rfl rfl <|
 fl_td (s' := (1, [.int i, .int n, .int v], [.int i], M, J)) (fl_n 1 rfl) <|
 fl_dtwo (fl_if (t := 11) rfl rfl) fl_cT (fun h1 =>
  fl_td (s' := (16, [.int i, .int n, .int v], [.int 1], M, J)) (fl_n 2 rfl) <|
  fl_rt rfl (fun _ => rfl) (by simp [h1])) (fun h1 =>
  fl_td (s' := (8, [.int i, .int n, .int v], [.int (v - n), .int i], M, J)) (fl_n 4 rfl) <|
  fl_dnot (fl_ic (t := 15) rfl rfl) fl_nle (fun h2 =>
   fl_td (s' := (16, [.int i, .int n, .int v], [.int 1], M, J)) (fl_n 2 rfl) <|
   fl_rt rfl (fun _ => rfl) (by simp [h1, h2])) (fun h2 =>
   fl_td (s' := (16, [.int i, .int n, .int v], [.int 0], M, J)) (fl_n 1 rfl) <|
   fl_rt rfl (fun _ => rfl) (by simp [h1, h2])))
def fB4 : sm_P := (fun pc => sm_ch sm_t4 pc, sm_Kn 2 3 none, fun x => sm_lk sm_ca2 x, some .int)
theorem cc_4 (M : fl_M) (J : fl_J) (r i : Int32) : fl_C 4 [.ref 0, .int r, .int i] M J (some (.int (if (r < 0) ∨ (¬ (r < 6)) then (-1) else (if (M 1 r.toNatClampNeg) = (-1) then (-3) else (if i < 0 then (-3) else (if i < (M 1 r.toNatClampNeg) then 0 else (-3)))))), (if (r < 0) ∨ (¬ (r < 6)) then M else (if (M 1 r.toNatClampNeg) = (-1) then (fl_u (fl_u M 0 11 1) 80 1 ((M 80 1) + 1)) else (if i < 0 then (fl_u (fl_u M 0 11 2) 80 2 ((M 80 2) + 1)) else (if i < (M 1 r.toNatClampNeg) then M else (fl_u (fl_u M 0 11 2) 80 2 ((M 80 2) + 1)))))), J) :=
 fl_Co (B := fB4) rfl rfl <|
 fl_td (s' := (1, [.ref 0, .int r, .int i], [.int r], M, J)) (fl_n 1 rfl) <|
 fl_td (s' := (4, [.ref 0, .int r, .int i], [.int (if (r < 0) ∨ (¬ (r < 6)) then 1 else 0)], M, J)) (fl_cs (o := some (.int (if (r < 0) ∨ (¬ (r < 6)) then 1 else 0))) rfl rfl rfl (cc_1 M J r) rfl) <|
 fl_dnot (fl_if (t := 9) rfl rfl) fl_b0 (fun h1 =>
  fl_td (s' := (8, [.ref 0, .int r, .int i], [.int (-1)], M, J)) (fl_n 1 rfl) <|
  fl_rt rfl (fun _ => rfl) (by first | (simp only [if_pos h1]; done) | rfl)) (fun h1 =>
  fl_td (s' := (16, [.ref 0, .int r, .int i], [.int (-1), .int (M 1 r.toNatClampNeg)], M, J)) (fl_n 5 rfl) <|
  fl_dnot (fl_ic (t := 25) rfl rfl) fl_cF (fun h2 =>
   fl_td (s' := (21, [.ref 0, .int r, .int i], [.int 1, .ref 0], M, J)) (fl_n 2 rfl) <|
   fl_td (s' := (24, [.ref 0, .int r, .int i], [.int (-3)], (fl_u (fl_u M 0 11 1) 80 1 ((M 80 1) + 1)), J)) (fl_cv (o := some (.int (-3))) rfl rfl rfl rfl (cc_2 M J 1) rfl) <|
   fl_rt rfl (fun _ => rfl) (by first | (simp only [if_neg h1, if_pos h2]; done) | rfl)) (fun h2 =>
   fl_td (s' := (26, [.ref 0, .int r, .int i], [.int i], M, J)) (fl_n 1 rfl) <|
   fl_dtwo (fl_if (t := 39) rfl rfl) fl_cT (fun h3 =>
    fl_td (s' := (41, [.ref 0, .int r, .int i], [.int 2, .ref 0], M, J)) (fl_n 2 rfl) <|
    fl_td (s' := (44, [.ref 0, .int r, .int i], [.int (-3)], (fl_u (fl_u M 0 11 2) 80 2 ((M 80 2) + 1)), J)) (fl_cv (o := some (.int (-3))) rfl rfl rfl rfl (cc_2 M J 2) rfl) <|
    fl_rt rfl (fun _ => rfl) (by first | (simp only [if_neg h1, if_neg h2, if_pos h3]; done) | rfl)) (fun h3 =>
    fl_td (s' := (36, [.ref 0, .int r, .int i], [.int (M 1 r.toNatClampNeg), .int i], M, J)) (fl_n 5 rfl) <|
    fl_dtwo (fl_ic (t := 45) rfl rfl) fl_cT (fun h4 =>
     fl_td (s' := (46, [.ref 0, .int r, .int i], [.int 0], M, J)) (fl_n 1 rfl) <|
     fl_rt rfl (fun _ => rfl) (by first | (simp only [if_neg h1, if_neg h2, if_neg h3, if_pos h4]; done) | rfl)) (fun h4 =>
     fl_td (s' := (41, [.ref 0, .int r, .int i], [.int 2, .ref 0], M, J)) (fl_n 2 rfl) <|
     fl_td (s' := (44, [.ref 0, .int r, .int i], [.int (-3)], (fl_u (fl_u M 0 11 2) 80 2 ((M 80 2) + 1)), J)) (fl_cv (o := some (.int (-3))) rfl rfl rfl rfl (cc_2 M J 2) rfl) <|
     fl_rt rfl (fun _ => rfl) (by first | (simp only [if_neg h1, if_neg h2, if_neg h3, if_neg h4]; done) | rfl)))))
def fB3 : sm_P := (fun pc => sm_ch sm_t3 pc, sm_Kn 2 6 none, fun x => sm_lk sm_ca2 x, some .int)
theorem cc_3 (M : fl_M) (J : fl_J) (r i v : Int32) : fl_C 3 [.ref 0, .int r, .int i, .int v] M J (some (.int (if (r < 0) ∨ (¬ (r < 6)) then (-1) else (if (M 1 r.toNatClampNeg) = (-1) then (-3) else (if i < 0 then (-3) else (if i < (M 1 r.toNatClampNeg) then 1 else (-3)))))), (if (r < 0) ∨ (¬ (r < 6)) then M else (if (M 1 r.toNatClampNeg) = (-1) then (fl_u (fl_u M 0 11 1) 80 1 ((M 80 1) + 1)) else (if i < 0 then (fl_u (fl_u M 0 11 2) 80 2 ((M 80 2) + 1)) else (if i < (M 1 r.toNatClampNeg) then (fl_u (fl_u M (fl_ar 2 r.toNatClampNeg) i.toNatClampNeg v) 0 12 (M (fl_ar 2 r.toNatClampNeg) i.toNatClampNeg)) else (fl_u (fl_u M 0 11 2) 80 2 ((M 80 2) + 1)))))), J) :=
 fl_Co (B := fB3) rfl rfl <|
 fl_td (s' := (3, [.ref 0, .int r, .int i, .int v, .null, .null], [.int i, .int r, .ref 0], M, J)) (fl_n 3 rfl) <|
 fl_dc (c := (r < 0) ∨ (¬ (r < 6))) (fun h1 =>
  fl_td (s' := (6, [.ref 0, .int r, .int i, .int v, .null, .null], [.int (-1)], M, J)) (fl_cv (o := some (.int (-1))) rfl rfl rfl rfl (fl_Ce (cc_4 M J r i) (by first | (simp only [if_pos h1]; done) | (simp only [if_pos h1]; rfl))) rfl) <|
  fl_td (s' := (15, [.ref 0, .int r, .int i, .int v, .int (-1), .null], [.int (-1)], M, J)) (fl_n 4 rfl) <|
  fl_rt rfl (fun _ => rfl) (by first | (simp only [if_pos h1]; done) | rfl)) (fun h1 =>
  fl_dc (c := (M 1 r.toNatClampNeg) = (-1)) (fun h2 =>
   fl_td (s' := (6, [.ref 0, .int r, .int i, .int v, .null, .null], [.int (-3)], (fl_u (fl_u M 0 11 1) 80 1 ((M 80 1) + 1)), J)) (fl_cv (o := some (.int (-3))) rfl rfl rfl rfl (fl_Ce (cc_4 M J r i) (by first | (simp only [if_neg h1, if_pos h2]; done) | (simp only [if_neg h1, if_pos h2]; rfl))) rfl) <|
   fl_td (s' := (15, [.ref 0, .int r, .int i, .int v, .int (-3), .null], [.int (-3)], (fl_u (fl_u M 0 11 1) 80 1 ((M 80 1) + 1)), J)) (fl_n 4 rfl) <|
   fl_rt rfl (fun _ => rfl) (by first | (simp only [if_neg h1, if_pos h2]; done) | rfl)) (fun h2 =>
   fl_dc (c := i < 0) (fun h3 =>
    fl_td (s' := (6, [.ref 0, .int r, .int i, .int v, .null, .null], [.int (-3)], (fl_u (fl_u M 0 11 2) 80 2 ((M 80 2) + 1)), J)) (fl_cv (o := some (.int (-3))) rfl rfl rfl rfl (fl_Ce (cc_4 M J r i) (by first | (simp only [if_neg h1, if_neg h2, if_pos h3]; done) | (simp only [if_neg h1, if_neg h2, if_pos h3]; rfl))) rfl) <|
    fl_td (s' := (15, [.ref 0, .int r, .int i, .int v, .int (-3), .null], [.int (-3)], (fl_u (fl_u M 0 11 2) 80 2 ((M 80 2) + 1)), J)) (fl_n 4 rfl) <|
    fl_rt rfl (fun _ => rfl) (by first | (simp only [if_neg h1, if_neg h2, if_pos h3]; done) | rfl)) (fun h3 =>
    fl_dc (c := i < (M 1 r.toNatClampNeg)) (fun h4 =>
     fl_td (s' := (6, [.ref 0, .int r, .int i, .int v, .null, .null], [.int 0], M, J)) (fl_cv (o := some (.int 0)) rfl rfl rfl rfl (fl_Ce (cc_4 M J r i) (by first | (simp only [if_neg h1, if_neg h2, if_neg h3, if_pos h4]; done) | (simp only [if_neg h1, if_neg h2, if_neg h3, if_pos h4]; rfl))) rfl) <|
     fl_td (s' := (38, [.ref 0, .int r, .int i, .int v, .int 0, .int (M (fl_ar 2 r.toNatClampNeg) i.toNatClampNeg)], [.int (M (fl_ar 2 r.toNatClampNeg) i.toNatClampNeg), .ref 0], (fl_u M (fl_ar 2 r.toNatClampNeg) i.toNatClampNeg v), J)) (fl_n 19 rfl) <|
     fl_td (s' := (41, [.ref 0, .int r, .int i, .int v, .int 0, .int (M (fl_ar 2 r.toNatClampNeg) i.toNatClampNeg)], [.int 1], (fl_u (fl_u M (fl_ar 2 r.toNatClampNeg) i.toNatClampNeg v) 0 12 (M (fl_ar 2 r.toNatClampNeg) i.toNatClampNeg)), J)) (fl_cv (o := some (.int 1)) rfl rfl rfl rfl (cc_5 (fl_u M (fl_ar 2 r.toNatClampNeg) i.toNatClampNeg v) J (M (fl_ar 2 r.toNatClampNeg) i.toNatClampNeg)) rfl) <|
     fl_rt rfl (fun _ => rfl) (by first | (simp only [if_neg h1, if_neg h2, if_neg h3, if_pos h4]; done) | rfl)) (fun h4 =>
     fl_td (s' := (6, [.ref 0, .int r, .int i, .int v, .null, .null], [.int (-3)], (fl_u (fl_u M 0 11 2) 80 2 ((M 80 2) + 1)), J)) (fl_cv (o := some (.int (-3))) rfl rfl rfl rfl (fl_Ce (cc_4 M J r i) (by first | (simp only [if_neg h1, if_neg h2, if_neg h3, if_neg h4]; done) | (simp only [if_neg h1, if_neg h2, if_neg h3, if_neg h4]; rfl))) rfl) <|
     fl_td (s' := (15, [.ref 0, .int r, .int i, .int v, .int (-3), .null], [.int (-3)], (fl_u (fl_u M 0 11 2) 80 2 ((M 80 2) + 1)), J)) (fl_n 4 rfl) <|
     fl_rt rfl (fun _ => rfl) (by first | (simp only [if_neg h1, if_neg h2, if_neg h3, if_neg h4]; done) | rfl)))))
def fB6 : sm_P := (fun pc => sm_ch sm_t6 pc, sm_Kn 2 4 none, fun x => sm_lk sm_ca2 x, some .int)
theorem cc_6 (M : fl_M) (J : fl_J) (r i : Int32) : fl_C 6 [.ref 0, .int r, .int i] M J (some (.int (if (r < 0) ∨ (¬ (r < 6)) then (-1) else (if (M 1 r.toNatClampNeg) = (-1) then (-3) else (if i < 0 then (-3) else (if i < (M 1 r.toNatClampNeg) then 1 else (-3)))))), (if (r < 0) ∨ (¬ (r < 6)) then M else (if (M 1 r.toNatClampNeg) = (-1) then (fl_u (fl_u M 0 11 1) 80 1 ((M 80 1) + 1)) else (if i < 0 then (fl_u (fl_u M 0 11 2) 80 2 ((M 80 2) + 1)) else (if i < (M 1 r.toNatClampNeg) then (fl_u M 0 12 (M (fl_ar 2 r.toNatClampNeg) i.toNatClampNeg)) else (fl_u (fl_u M 0 11 2) 80 2 ((M 80 2) + 1)))))), J) :=
 fl_Co (B := fB6) rfl rfl <|
 fl_td (s' := (3, [.ref 0, .int r, .int i, .null], [.int i, .int r, .ref 0], M, J)) (fl_n 3 rfl) <|
 fl_dc (c := (r < 0) ∨ (¬ (r < 6))) (fun h1 =>
  fl_td (s' := (6, [.ref 0, .int r, .int i, .null], [.int (-1)], M, J)) (fl_cv (o := some (.int (-1))) rfl rfl rfl rfl (fl_Ce (cc_4 M J r i) (by first | (simp only [if_pos h1]; done) | (simp only [if_pos h1]; rfl))) rfl) <|
  fl_td (s' := (12, [.ref 0, .int r, .int i, .int (-1)], [.int (-1)], M, J)) (fl_n 4 rfl) <|
  fl_rt rfl (fun _ => rfl) (by first | (simp only [if_pos h1]; done) | rfl)) (fun h1 =>
  fl_dc (c := (M 1 r.toNatClampNeg) = (-1)) (fun h2 =>
   fl_td (s' := (6, [.ref 0, .int r, .int i, .null], [.int (-3)], (fl_u (fl_u M 0 11 1) 80 1 ((M 80 1) + 1)), J)) (fl_cv (o := some (.int (-3))) rfl rfl rfl rfl (fl_Ce (cc_4 M J r i) (by first | (simp only [if_neg h1, if_pos h2]; done) | (simp only [if_neg h1, if_pos h2]; rfl))) rfl) <|
   fl_td (s' := (12, [.ref 0, .int r, .int i, .int (-3)], [.int (-3)], (fl_u (fl_u M 0 11 1) 80 1 ((M 80 1) + 1)), J)) (fl_n 4 rfl) <|
   fl_rt rfl (fun _ => rfl) (by first | (simp only [if_neg h1, if_pos h2]; done) | rfl)) (fun h2 =>
   fl_dc (c := i < 0) (fun h3 =>
    fl_td (s' := (6, [.ref 0, .int r, .int i, .null], [.int (-3)], (fl_u (fl_u M 0 11 2) 80 2 ((M 80 2) + 1)), J)) (fl_cv (o := some (.int (-3))) rfl rfl rfl rfl (fl_Ce (cc_4 M J r i) (by first | (simp only [if_neg h1, if_neg h2, if_pos h3]; done) | (simp only [if_neg h1, if_neg h2, if_pos h3]; rfl))) rfl) <|
    fl_td (s' := (12, [.ref 0, .int r, .int i, .int (-3)], [.int (-3)], (fl_u (fl_u M 0 11 2) 80 2 ((M 80 2) + 1)), J)) (fl_n 4 rfl) <|
    fl_rt rfl (fun _ => rfl) (by first | (simp only [if_neg h1, if_neg h2, if_pos h3]; done) | rfl)) (fun h3 =>
    fl_dc (c := i < (M 1 r.toNatClampNeg)) (fun h4 =>
     fl_td (s' := (6, [.ref 0, .int r, .int i, .null], [.int 0], M, J)) (fl_cv (o := some (.int 0)) rfl rfl rfl rfl (fl_Ce (cc_4 M J r i) (by first | (simp only [if_neg h1, if_neg h2, if_neg h3, if_pos h4]; done) | (simp only [if_neg h1, if_neg h2, if_neg h3, if_pos h4]; rfl))) rfl) <|
     fl_td (s' := (22, [.ref 0, .int r, .int i, .int 0], [.int (M (fl_ar 2 r.toNatClampNeg) i.toNatClampNeg), .ref 0], M, J)) (fl_n 10 rfl) <|
     fl_td (s' := (25, [.ref 0, .int r, .int i, .int 0], [.int 1], (fl_u M 0 12 (M (fl_ar 2 r.toNatClampNeg) i.toNatClampNeg)), J)) (fl_cv (o := some (.int 1)) rfl rfl rfl rfl (cc_5 M J (M (fl_ar 2 r.toNatClampNeg) i.toNatClampNeg)) rfl) <|
     fl_rt rfl (fun _ => rfl) (by first | (simp only [if_neg h1, if_neg h2, if_neg h3, if_pos h4]; done) | rfl)) (fun h4 =>
     fl_td (s' := (6, [.ref 0, .int r, .int i, .null], [.int (-3)], (fl_u (fl_u M 0 11 2) 80 2 ((M 80 2) + 1)), J)) (fl_cv (o := some (.int (-3))) rfl rfl rfl rfl (fl_Ce (cc_4 M J r i) (by first | (simp only [if_neg h1, if_neg h2, if_neg h3, if_neg h4]; done) | (simp only [if_neg h1, if_neg h2, if_neg h3, if_neg h4]; rfl))) rfl) <|
     fl_td (s' := (12, [.ref 0, .int r, .int i, .int (-3)], [.int (-3)], (fl_u (fl_u M 0 11 2) 80 2 ((M 80 2) + 1)), J)) (fl_n 4 rfl) <|
     fl_rt rfl (fun _ => rfl) (by first | (simp only [if_neg h1, if_neg h2, if_neg h3, if_neg h4]; done) | rfl)))))
def fB7 : sm_P := (fun pc => sm_ch sm_t7 pc, sm_Kn 2 2 none, fun x => sm_lk sm_ca2 x, some .int)
theorem cc_7 (M : fl_M) (J : fl_J) (r : Int32) : fl_C 7 [.ref 0, .int r] M J (some (.int (if (r < 0) ∨ (¬ (r < 6)) then (-1) else (if (M 1 r.toNatClampNeg) = (-1) then (-3) else 1))), (if (r < 0) ∨ (¬ (r < 6)) then M else (if (M 1 r.toNatClampNeg) = (-1) then (fl_u (fl_u M 0 11 1) 80 1 ((M 80 1) + 1)) else (fl_u M 1 r.toNatClampNeg (-1)))), J) :=
 fl_Co (B := fB7) rfl rfl <|
 fl_td (s' := (1, [.ref 0, .int r], [.int r], M, J)) (fl_n 1 rfl) <|
 fl_td (s' := (4, [.ref 0, .int r], [.int (if (r < 0) ∨ (¬ (r < 6)) then 1 else 0)], M, J)) (fl_cs (o := some (.int (if (r < 0) ∨ (¬ (r < 6)) then 1 else 0))) rfl rfl rfl (cc_1 M J r) rfl) <|
 fl_dnot (fl_if (t := 9) rfl rfl) fl_b0 (fun h1 =>
  fl_td (s' := (8, [.ref 0, .int r], [.int (-1)], M, J)) (fl_n 1 rfl) <|
  fl_rt rfl (fun _ => rfl) (by first | (simp only [if_pos h1]; done) | rfl)) (fun h1 =>
  fl_td (s' := (16, [.ref 0, .int r], [.int (-1), .int (M 1 r.toNatClampNeg)], M, J)) (fl_n 5 rfl) <|
  fl_dnot (fl_ic (t := 25) rfl rfl) fl_cF (fun h2 =>
   fl_td (s' := (21, [.ref 0, .int r], [.int 1, .ref 0], M, J)) (fl_n 2 rfl) <|
   fl_td (s' := (24, [.ref 0, .int r], [.int (-3)], (fl_u (fl_u M 0 11 1) 80 1 ((M 80 1) + 1)), J)) (fl_cv (o := some (.int (-3))) rfl rfl rfl rfl (cc_2 M J 1) rfl) <|
   fl_rt rfl (fun _ => rfl) (by first | (simp only [if_neg h1, if_pos h2]; done) | rfl)) (fun h2 =>
   fl_td (s' := (33, [.ref 0, .int r], [.int 1], (fl_u M 1 r.toNatClampNeg (-1)), J)) (fl_n 6 rfl) <|
   fl_rt rfl (fun _ => rfl) (by first | (simp only [if_neg h1, if_neg h2]; done) | rfl)))
def fB13 : sm_P := (fun pc => sm_ch sm_t13 pc, sm_Kn 2 5 none, fun x => sm_lk sm_ca2 x, some .int)
theorem cc_13 (M : fl_M) (J : fl_J) (t i v : Int32) : fl_C 13 [.ref 0, .int t, .int i, .int v] M J (some (.int (if (t < 0) ∨ (¬ (t < 4)) then (-1) else (if (M 9 t.toNatClampNeg) = (-1) then (-3) else (if i < 0 then (-3) else (if i < (M 9 t.toNatClampNeg) then (M (fl_ar 10 t.toNatClampNeg) i.toNatClampNeg) + 1000 else (-3)))))), (if (t < 0) ∨ (¬ (t < 4)) then M else (if (M 9 t.toNatClampNeg) = (-1) then (fl_u (fl_u M 0 11 1) 80 1 ((M 80 1) + 1)) else (if i < 0 then (fl_u (fl_u M 0 11 2) 80 2 ((M 80 2) + 1)) else (if i < (M 9 t.toNatClampNeg) then (fl_u M (fl_ar 10 t.toNatClampNeg) i.toNatClampNeg (vp_nar .byte v.toInt8.toInt32)) else (fl_u (fl_u M 0 11 2) 80 2 ((M 80 2) + 1)))))), J) :=
 fl_Co (B := fB13) rfl rfl <|
 fl_td (s' := (1, [.ref 0, .int t, .int i, .int v, .null], [.int t], M, J)) (fl_n 1 rfl) <|
 fl_td (s' := (4, [.ref 0, .int t, .int i, .int v, .null], [.int (if (t < 0) ∨ (¬ (t < 4)) then 1 else 0)], M, J)) (fl_cs (o := some (.int (if (t < 0) ∨ (¬ (t < 4)) then 1 else 0))) rfl rfl rfl (cc_12 M J t) rfl) <|
 fl_dnot (fl_if (t := 9) rfl rfl) fl_b0 (fun h1 =>
  fl_td (s' := (8, [.ref 0, .int t, .int i, .int v, .null], [.int (-1)], M, J)) (fl_n 1 rfl) <|
  fl_rt rfl (fun _ => rfl) (by first | (simp only [if_pos h1]; done) | rfl)) (fun h1 =>
  fl_td (s' := (16, [.ref 0, .int t, .int i, .int v, .null], [.int (-1), .int (M 9 t.toNatClampNeg)], M, J)) (fl_n 5 rfl) <|
  fl_dnot (fl_ic (t := 25) rfl rfl) fl_cF (fun h2 =>
   fl_td (s' := (21, [.ref 0, .int t, .int i, .int v, .null], [.int 1, .ref 0], M, J)) (fl_n 2 rfl) <|
   fl_td (s' := (24, [.ref 0, .int t, .int i, .int v, .null], [.int (-3)], (fl_u (fl_u M 0 11 1) 80 1 ((M 80 1) + 1)), J)) (fl_cv (o := some (.int (-3))) rfl rfl rfl rfl (cc_2 M J 1) rfl) <|
   fl_rt rfl (fun _ => rfl) (by first | (simp only [if_neg h1, if_pos h2]; done) | rfl)) (fun h2 =>
   fl_td (s' := (26, [.ref 0, .int t, .int i, .int v, .null], [.int i], M, J)) (fl_n 1 rfl) <|
   fl_dtwo (fl_if (t := 39) rfl rfl) fl_cT (fun h3 =>
    fl_td (s' := (41, [.ref 0, .int t, .int i, .int v, .null], [.int 2, .ref 0], M, J)) (fl_n 2 rfl) <|
    fl_td (s' := (44, [.ref 0, .int t, .int i, .int v, .null], [.int (-3)], (fl_u (fl_u M 0 11 2) 80 2 ((M 80 2) + 1)), J)) (fl_cv (o := some (.int (-3))) rfl rfl rfl rfl (cc_2 M J 2) rfl) <|
    fl_rt rfl (fun _ => rfl) (by first | (simp only [if_neg h1, if_neg h2, if_pos h3]; done) | rfl)) (fun h3 =>
    fl_td (s' := (36, [.ref 0, .int t, .int i, .int v, .null], [.int (M 9 t.toNatClampNeg), .int i], M, J)) (fl_n 5 rfl) <|
    fl_dtwo (fl_ic (t := 45) rfl rfl) fl_cT (fun h4 =>
     fl_td (s' := (71, [.ref 0, .int t, .int i, .int v, .int (M (fl_ar 10 t.toNatClampNeg) i.toNatClampNeg)], [.int ((M (fl_ar 10 t.toNatClampNeg) i.toNatClampNeg) + 1000)], (fl_u M (fl_ar 10 t.toNatClampNeg) i.toNatClampNeg (vp_nar .byte v.toInt8.toInt32)), J)) (fl_n 18 rfl) <|
     fl_rt rfl (fun _ => rfl) (by first | (simp only [if_neg h1, if_neg h2, if_neg h3, if_pos h4]; done) | rfl)) (fun h4 =>
     fl_td (s' := (41, [.ref 0, .int t, .int i, .int v, .null], [.int 2, .ref 0], M, J)) (fl_n 2 rfl) <|
     fl_td (s' := (44, [.ref 0, .int t, .int i, .int v, .null], [.int (-3)], (fl_u (fl_u M 0 11 2) 80 2 ((M 80 2) + 1)), J)) (fl_cv (o := some (.int (-3))) rfl rfl rfl rfl (cc_2 M J 2) rfl) <|
     fl_rt rfl (fun _ => rfl) (by first | (simp only [if_neg h1, if_neg h2, if_neg h3, if_neg h4]; done) | rfl)))))
def fB11 : sm_P := (fun pc => sm_ch sm_t11 pc, sm_Kn 2 4 none, fun x => sm_lk sm_ca2 x, some .int)
theorem sg_11 (M : fl_M) (J : fl_J) (t n i : Int32) : fl_go fB11 (27, [.ref 0, .int t, .int n, .int i], [], M, J) (if i < n then (27, [.ref 0, .int t, .int n, .int (i + 1)], [], (fl_u M (fl_ar 10 t.toNatClampNeg) i.toNatClampNeg (vp_nar .byte 32)), J) else (56, [.ref 0, .int t, .int n, .int i], [.int n], (fl_u M 9 t.toNatClampNeg n), J)) :=
 fl_tr (s' := (29, [.ref 0, .int t, .int n, .int i], [.int n, .int i], M, J)) (fl_n 2 rfl) <|
 fl_not (fl_ic (t := 48) rfl rfl) fl_nlt (fun h1 =>
  fl_tr (s' := (27, [.ref 0, .int t, .int n, .int (i + 1)], [], (fl_u M (fl_ar 10 t.toNatClampNeg) i.toNatClampNeg (vp_nar .byte 32)), J)) (fl_n 9 rfl) <|
  fl_rfl) (fun h1 =>
  fl_tr (s' := (56, [.ref 0, .int t, .int n, .int i], [.int n], (fl_u M 9 t.toNatClampNeg n), J)) (fl_n 6 rfl) <|
  fl_rfl)
theorem lp_11 (M : fl_M) (J : fl_J) (t n : Int32) : fl_dn fB11 (27, [.ref 0, .int t, .int n, .int 0], [], M, J) (some (.int n), fl_u (fl_f M (fl_ar 10 t.toNatClampNeg) n.toNatClampNeg 32) 9 t.toNatClampNeg n, J) := by
  have hb := fi_bd n
  refine fl_itd (S := fun m => (27, [.ref 0, .int t, .int n, .int (Int32.ofNat m)], [], fl_f M (fl_ar 10 t.toNatClampNeg) m 32, J)) n.toNatClampNeg (fun m hm => ?_) ?_ ?_
  · refine fl_ge (sg_11 _ J t n (Int32.ofNat m)) ?_
    rw [if_pos ((fi_lt (by omega)).mpr hm), fi_at (by omega), fi_s, show vp_nar .byte 32 = 32 from rfl, fl_fs]
  · rw [fl_f0]
    rfl
  · refine fl_td (sg_11 _ J t n _) ?_
    rw [if_neg (fun z => absurd ((fi_lt (by omega)).mp z) (by omega))]
    exact fl_rt rfl (fun _ => rfl) rfl
theorem cc_11 (M : fl_M) (J : fl_J) (t n : Int32) : fl_C 11 [.ref 0, .int t, .int n] M J (some (.int (if (t < 0) ∨ (¬ (t < 4)) then (-1) else (if 60 < n then (-1) else (if n < 0 then (-3) else n)))), (if (t < 0) ∨ (¬ (t < 4)) then M else (if 60 < n then M else (if n < 0 then (fl_u (fl_u M 0 11 5) 80 5 ((M 80 5) + 1)) else (fl_u (fl_f M (fl_ar 10 t.toNatClampNeg) n.toNatClampNeg 32) 9 t.toNatClampNeg n)))), J) :=
 fl_Co (B := fB11) rfl rfl <|
 fl_td (s' := (1, [.ref 0, .int t, .int n, .null], [.int t], M, J)) (fl_n 1 rfl) <|
 fl_td (s' := (4, [.ref 0, .int t, .int n, .null], [.int (if (t < 0) ∨ (¬ (t < 4)) then 1 else 0)], M, J)) (fl_cs (o := some (.int (if (t < 0) ∨ (¬ (t < 4)) then 1 else 0))) rfl rfl rfl (cc_12 M J t) rfl) <|
 fl_dtwo (fl_if (t := 13) rfl rfl) fl_b1 (fun h1 =>
  fl_td (s' := (14, [.ref 0, .int t, .int n, .null], [.int (-1)], M, J)) (fl_n 1 rfl) <|
  fl_rt rfl (fun _ => rfl) (by first | (simp only [if_pos h1]; done) | rfl)) (fun h1 =>
  fl_td (s' := (10, [.ref 0, .int t, .int n, .null], [.int 60, .int n], M, J)) (fl_n 2 rfl) <|
  fl_dnot (fl_ic (t := 15) rfl rfl) fl_nle (fun h2 =>
   fl_td (s' := (14, [.ref 0, .int t, .int n, .null], [.int (-1)], M, J)) (fl_n 1 rfl) <|
   fl_rt rfl (fun _ => rfl) (by first | (simp only [if_neg h1, if_pos h2]; done) | rfl)) (fun h2 =>
   fl_td (s' := (16, [.ref 0, .int t, .int n, .null], [.int n], M, J)) (fl_n 1 rfl) <|
   fl_dnot (fl_if (t := 25) rfl rfl) fl_nlt (fun h3 =>
    fl_td (s' := (21, [.ref 0, .int t, .int n, .null], [.int 5, .ref 0], M, J)) (fl_n 2 rfl) <|
    fl_td (s' := (24, [.ref 0, .int t, .int n, .null], [.int (-3)], (fl_u (fl_u M 0 11 5) 80 5 ((M 80 5) + 1)), J)) (fl_cv (o := some (.int (-3))) rfl rfl rfl rfl (cc_2 M J 5) rfl) <|
    fl_rt rfl (fun _ => rfl) (by first | (simp only [if_neg h1, if_neg h2, if_pos h3]; done) | rfl)) (fun h3 =>
    fl_td (s' := (27, [.ref 0, .int t, .int n, .int 0], [], M, J)) (fl_n 2 rfl) <|
    fl_de (lp_11 M J t n) (by first | (simp only [if_neg h1, if_neg h2, if_neg h3]; done) | rfl))))
def fB105 : sm_P := (fun pc => sm_ch sm_t105 pc, sm_Kn 3 6 none, fun x => sm_lk sm_ca3 x, some .boolean)
theorem cc_105 (M : fl_M) (J : fl_J) (x a b : Int64) : fl_C 105 [.long x, .long a, .long b] M J (some (.int (if (¬ (x < a)) ∧ (¬ (b < x)) then 1 else 0)), M, J) :=
 fl_Co (B := fB105) rfl rfl <|
 fl_td (s' := (3, [.long x, .null, .long a, .null, .long b, .null], [.int (lg_cmp x a)], M, J)) (fl_n 3 rfl) <|
 fl_dtwo (fl_if (t := 17) rfl rfl) fl_llt (fun h1 =>
  fl_td (s' := (18, [.long x, .null, .long a, .null, .long b, .null], [.int 0], M, J)) (fl_n 1 rfl) <|
  fl_rt rfl (fun _ => rfl) (by simp [h1])) (fun h1 =>
  fl_td (s' := (10, [.long x, .null, .long a, .null, .long b, .null], [.int (lg_cmp x b)], M, J)) (fl_n 3 rfl) <|
  fl_dtwo (fl_if (t := 17) rfl rfl) fl_lgt (fun h2 =>
   fl_td (s' := (18, [.long x, .null, .long a, .null, .long b, .null], [.int 0], M, J)) (fl_n 1 rfl) <|
   fl_rt rfl (fun _ => rfl) (by simp [h1, h2])) (fun h2 =>
   fl_td (s' := (18, [.long x, .null, .long a, .null, .long b, .null], [.int 1], M, J)) (fl_n 2 rfl) <|
   fl_rt rfl (fun _ => rfl) (by simp [h1, h2])))
theorem cc_105i (M : fl_M) (J : fl_J) (x a b : Int32) : fl_C 105 [.long x.toInt64, .long a.toInt64, .long b.toInt64] M J (some (.int (if (¬ (x < a)) ∧ (¬ (b < x)) then 1 else 0)), M, J) := by
  have h := cc_105 M J x.toInt64 a.toInt64 b.toInt64
  simp only [fl_64lt] at h
  exact h
def fB104 : sm_P := (fun pc => sm_ch sm_t104 pc, sm_Kn 3 1 none, fun x => sm_lk sm_ca3 x, some .boolean)
theorem cc_104 (M : fl_M) (J : fl_J) (r : Int32) : fl_C 104 [.int r] M J (some (.int (if (¬ (r < 0)) ∧ (¬ (5 < r)) then 1 else 0)), M, J) :=
 fl_Co (B := fB104) rfl rfl <|
 fl_td (s' := (6, [.int r], [.long 5, .long 0, .long r.toInt64], M, J)) (fl_n 4 rfl) <|
 fl_td (s' := (9, [.int r], [.int (if (¬ (r < 0)) ∧ (¬ (5 < r)) then 1 else 0)], M, J)) (fl_cs (o := some (.int (if (¬ (r < 0)) ∧ (¬ (5 < r)) then 1 else 0))) rfl rfl rfl (cc_105i M J r 0 5) rfl) <|
 fl_rt rfl (fun _ => rfl) (rfl)
def fB117 : sm_P := (fun pc => sm_ch sm_t117 pc, sm_Kn 3 1 none, fun x => sm_lk sm_ca3 x, some .boolean)
theorem cc_117 (M : fl_M) (J : fl_J) (t : Int32) : fl_C 117 [.int t] M J (some (.int (if (¬ (t < 0)) ∧ (¬ (3 < t)) then 1 else 0)), M, J) :=
 fl_Co (B := fB117) rfl rfl <|
 fl_td (s' := (6, [.int t], [.long 3, .long 0, .long t.toInt64], M, J)) (fl_n 4 rfl) <|
 fl_td (s' := (9, [.int t], [.int (if (¬ (t < 0)) ∧ (¬ (3 < t)) then 1 else 0)], M, J)) (fl_cs (o := some (.int (if (¬ (t < 0)) ∧ (¬ (3 < t)) then 1 else 0))) rfl rfl rfl (cc_105i M J t 0 3) rfl) <|
 fl_rt rfl (fun _ => rfl) (rfl)
def fB110 : sm_P := (fun pc => sm_ch sm_t110 pc, sm_Kn 3 2 none, fun x => sm_lk sm_ca3 x, some .int)
theorem cc_110 (M : fl_M) (J : fl_J) (v : Int32) : fl_C 110 [.ref 81, .int v] M J (some (.int 1), (fl_u M 81 11 v), J) :=
 fl_Co (B := fB110) rfl rfl <|
 fl_td (s' := (6, [.ref 81, .int v], [.int 1], (fl_u M 81 11 v), J)) (fl_n 4 rfl) <|
 fl_rt rfl (fun _ => rfl) (rfl)
def fB106 : sm_P := (fun pc => sm_ch sm_t106 pc, sm_Kn 3 2 none, fun x => sm_lk sm_ca3 x, some .int)
theorem cc_106 (M : fl_M) (J : fl_J) (v : Int32) : fl_C 106 [.ref 81, .int v] M J (some (.int (-3)), (fl_u (fl_u M 81 14 v) 91 v.toNatClampNeg ((M 91 v.toNatClampNeg) + 1)), J) :=
 fl_Co (B := fB106) rfl rfl <|
 fl_td (s' := (17, [.ref 81, .int v], [.int (-3)], (fl_u (fl_u M 81 14 v) 91 v.toNatClampNeg ((M 91 v.toNatClampNeg) + 1)), J)) (fl_n 12 rfl) <|
 fl_rt rfl (fun _ => rfl) (rfl)
def fB109 : sm_P := (fun pc => sm_ch sm_t109 pc, sm_Kn 3 3 none, fun x => sm_lk sm_ca3 x, some .int)
theorem cc_109 (M : fl_M) (J : fl_J) (r i : Int32) : fl_C 109 [.ref 81, .int r, .int i] M J (some (.int (if (¬ (r < 0)) ∧ (¬ (5 < r)) then (if (M 87 r.toNatClampNeg) < 0 then (-3) else (if (¬ (i < 0)) ∧ (¬ ((M 87 r.toNatClampNeg) - 1 < i)) then 0 else (-3))) else (-1))), (if (¬ (r < 0)) ∧ (¬ (5 < r)) then (if (M 87 r.toNatClampNeg) < 0 then (fl_u (fl_u M 81 14 1) 91 1 ((M 91 1) + 1)) else (if (¬ (i < 0)) ∧ (¬ ((M 87 r.toNatClampNeg) - 1 < i)) then M else (fl_u (fl_u M 81 14 2) 91 2 ((M 91 2) + 1)))) else M), J) :=
 fl_Co (B := fB109) rfl rfl <|
 fl_td (s' := (1, [.ref 81, .int r, .int i], [.int r], M, J)) (fl_n 1 rfl) <|
 fl_td (s' := (4, [.ref 81, .int r, .int i], [.int (if (¬ (r < 0)) ∧ (¬ (5 < r)) then 1 else 0)], M, J)) (fl_cs (o := some (.int (if (¬ (r < 0)) ∧ (¬ (5 < r)) then 1 else 0))) rfl rfl rfl (cc_104 M J r) rfl) <|
 fl_dtwo (fl_if (t := 11) rfl rfl) fl_b1 (fun h1 =>
  fl_td (s' := (17, [.ref 81, .int r, .int i], [.int (M 87 r.toNatClampNeg)], M, J)) (fl_n 4 rfl) <|
  fl_dnot (fl_if (t := 28) rfl rfl) fl_nlt (fun h2 =>
   fl_td (s' := (22, [.ref 81, .int r, .int i], [.int 1, .ref 81], M, J)) (fl_n 2 rfl) <|
   fl_td (s' := (25, [.ref 81, .int r, .int i], [.int (-3)], (fl_u (fl_u M 81 14 1) 91 1 ((M 91 1) + 1)), J)) (fl_cv (o := some (.int (-3))) rfl rfl rfl rfl (cc_106 M J 1) rfl) <|
   fl_td (s' := (55, [.ref 81, .int r, .int i], [.int (-3)], (fl_u (fl_u M 81 14 1) 91 1 ((M 91 1) + 1)), J)) (fl_n 1 rfl) <|
   fl_rt rfl (fun _ => rfl) (by first | (simp only [if_pos h1, if_pos h2]; done) | rfl)) (fun h2 =>
   fl_td (s' := (40, [.ref 81, .int r, .int i], [.long (((M 87 r.toNatClampNeg) - 1).toInt64), .long 0, .long i.toInt64], M, J)) (fl_n 10 rfl) <|
   fl_td (s' := (43, [.ref 81, .int r, .int i], [.int (if (¬ (i < 0)) ∧ (¬ ((M 87 r.toNatClampNeg) - 1 < i)) then 1 else 0)], M, J)) (fl_cs (o := some (.int (if (¬ (i < 0)) ∧ (¬ ((M 87 r.toNatClampNeg) - 1 < i)) then 1 else 0))) rfl rfl rfl (cc_105i M J i 0 ((M 87 r.toNatClampNeg) - 1)) rfl) <|
   fl_dnot (fl_if (t := 50) rfl rfl) fl_b0 (fun h3 =>
    fl_td (s' := (55, [.ref 81, .int r, .int i], [.int 0], M, J)) (fl_n 2 rfl) <|
    fl_rt rfl (fun _ => rfl) (by first | (simp only [if_pos h1, if_neg h2, if_pos h3]; done) | rfl)) (fun h3 =>
    fl_td (s' := (52, [.ref 81, .int r, .int i], [.int 2, .ref 81], M, J)) (fl_n 2 rfl) <|
    fl_td (s' := (55, [.ref 81, .int r, .int i], [.int (-3)], (fl_u (fl_u M 81 14 2) 91 2 ((M 91 2) + 1)), J)) (fl_cv (o := some (.int (-3))) rfl rfl rfl rfl (cc_106 M J 2) rfl) <|
    fl_rt rfl (fun _ => rfl) (by first | (simp only [if_pos h1, if_neg h2, if_neg h3]; done) | rfl)))) (fun h1 =>
  fl_td (s' := (55, [.ref 81, .int r, .int i], [.int (-1)], M, J)) (fl_n 2 rfl) <|
  fl_rt rfl (fun _ => rfl) (by first | (simp only [if_neg h1]; done) | rfl))
def fB108 : sm_P := (fun pc => sm_ch sm_t108 pc, sm_Kn 3 6 none, fun x => sm_lk sm_ca3 x, some .int)
theorem cc_108 (M : fl_M) (J : fl_J) (r i v : Int32) : fl_C 108 [.ref 81, .int r, .int i, .int v] M J (some (.int (if (¬ (r < 0)) ∧ (¬ (5 < r)) then (if (M 87 r.toNatClampNeg) < 0 then (-3) else (if (¬ (i < 0)) ∧ (¬ ((M 87 r.toNatClampNeg) - 1 < i)) then 1 else (-3))) else (-1))), (if (¬ (r < 0)) ∧ (¬ (5 < r)) then (if (M 87 r.toNatClampNeg) < 0 then (fl_u (fl_u M 81 14 1) 91 1 ((M 91 1) + 1)) else (if (¬ (i < 0)) ∧ (¬ ((M 87 r.toNatClampNeg) - 1 < i)) then (fl_u (fl_u M 88 (((40 * r) + i).toNatClampNeg) v) 81 11 (M 88 (((40 * r) + i).toNatClampNeg))) else (fl_u (fl_u M 81 14 2) 91 2 ((M 91 2) + 1)))) else M), J) :=
 fl_Co (B := fB108) rfl rfl <|
 fl_td (s' := (3, [.ref 81, .int r, .int i, .int v, .null, .null], [.int i, .int r, .ref 81], M, J)) (fl_n 3 rfl) <|
 fl_dc (c := (¬ (r < 0)) ∧ (¬ (5 < r))) (fun h1 =>
  fl_dc (c := (M 87 r.toNatClampNeg) < 0) (fun h2 =>
   fl_td (s' := (6, [.ref 81, .int r, .int i, .int v, .null, .null], [.int (-3)], (fl_u (fl_u M 81 14 1) 91 1 ((M 91 1) + 1)), J)) (fl_cv (o := some (.int (-3))) rfl rfl rfl rfl (fl_Ce (cc_109 M J r i) (by first | (simp only [if_pos h1, if_pos h2]; done) | (simp only [if_pos h1, if_pos h2]; rfl))) rfl) <|
   fl_td (s' := (15, [.ref 81, .int r, .int i, .int v, .int (-3), .null], [.int (-3)], (fl_u (fl_u M 81 14 1) 91 1 ((M 91 1) + 1)), J)) (fl_n 4 rfl) <|
   fl_rt rfl (fun _ => rfl) (by first | (simp only [if_pos h1, if_pos h2]; done) | rfl)) (fun h2 =>
   fl_dc (c := (¬ (i < 0)) ∧ (¬ ((M 87 r.toNatClampNeg) - 1 < i))) (fun h3 =>
    fl_td (s' := (6, [.ref 81, .int r, .int i, .int v, .null, .null], [.int 0], M, J)) (fl_cv (o := some (.int 0)) rfl rfl rfl rfl (fl_Ce (cc_109 M J r i) (by first | (simp only [if_pos h1, if_neg h2, if_pos h3]; done) | (simp only [if_pos h1, if_neg h2, if_pos h3]; rfl))) rfl) <|
    fl_td (s' := (44, [.ref 81, .int r, .int i, .int v, .int 0, .int (M 88 (((40 * r) + i).toNatClampNeg))], [.int (M 88 (((40 * r) + i).toNatClampNeg)), .ref 81], (fl_u M 88 (((40 * r) + i).toNatClampNeg) v), J)) (fl_n 23 rfl) <|
    fl_td (s' := (47, [.ref 81, .int r, .int i, .int v, .int 0, .int (M 88 (((40 * r) + i).toNatClampNeg))], [.int 1], (fl_u (fl_u M 88 (((40 * r) + i).toNatClampNeg) v) 81 11 (M 88 (((40 * r) + i).toNatClampNeg))), J)) (fl_cv (o := some (.int 1)) rfl rfl rfl rfl (cc_110 (fl_u M 88 (((40 * r) + i).toNatClampNeg) v) J (M 88 (((40 * r) + i).toNatClampNeg))) rfl) <|
    fl_rt rfl (fun _ => rfl) (by first | (simp only [if_pos h1, if_neg h2, if_pos h3]; done) | rfl)) (fun h3 =>
    fl_td (s' := (6, [.ref 81, .int r, .int i, .int v, .null, .null], [.int (-3)], (fl_u (fl_u M 81 14 2) 91 2 ((M 91 2) + 1)), J)) (fl_cv (o := some (.int (-3))) rfl rfl rfl rfl (fl_Ce (cc_109 M J r i) (by first | (simp only [if_pos h1, if_neg h2, if_neg h3]; done) | (simp only [if_pos h1, if_neg h2, if_neg h3]; rfl))) rfl) <|
    fl_td (s' := (15, [.ref 81, .int r, .int i, .int v, .int (-3), .null], [.int (-3)], (fl_u (fl_u M 81 14 2) 91 2 ((M 91 2) + 1)), J)) (fl_n 4 rfl) <|
    fl_rt rfl (fun _ => rfl) (by first | (simp only [if_pos h1, if_neg h2, if_neg h3]; done) | rfl)))) (fun h1 =>
  fl_td (s' := (6, [.ref 81, .int r, .int i, .int v, .null, .null], [.int (-1)], M, J)) (fl_cv (o := some (.int (-1))) rfl rfl rfl rfl (fl_Ce (cc_109 M J r i) (by first | (simp only [if_neg h1]; done) | (simp only [if_neg h1]; rfl))) rfl) <|
  fl_td (s' := (15, [.ref 81, .int r, .int i, .int v, .int (-1), .null], [.int (-1)], M, J)) (fl_n 4 rfl) <|
  fl_rt rfl (fun _ => rfl) (by first | (simp only [if_neg h1]; done) | rfl))
def fB111 : sm_P := (fun pc => sm_ch sm_t111 pc, sm_Kn 3 4 none, fun x => sm_lk sm_ca3 x, some .int)
theorem cc_111 (M : fl_M) (J : fl_J) (r i : Int32) : fl_C 111 [.ref 81, .int r, .int i] M J (some (.int (if (¬ (r < 0)) ∧ (¬ (5 < r)) then (if (M 87 r.toNatClampNeg) < 0 then (-3) else (if (¬ (i < 0)) ∧ (¬ ((M 87 r.toNatClampNeg) - 1 < i)) then 1 else (-3))) else (-1))), (if (¬ (r < 0)) ∧ (¬ (5 < r)) then (if (M 87 r.toNatClampNeg) < 0 then (fl_u (fl_u M 81 14 1) 91 1 ((M 91 1) + 1)) else (if (¬ (i < 0)) ∧ (¬ ((M 87 r.toNatClampNeg) - 1 < i)) then (fl_u M 81 11 (M 88 (((40 * r) + i).toNatClampNeg))) else (fl_u (fl_u M 81 14 2) 91 2 ((M 91 2) + 1)))) else M), J) :=
 fl_Co (B := fB111) rfl rfl <|
 fl_td (s' := (3, [.ref 81, .int r, .int i, .null], [.int i, .int r, .ref 81], M, J)) (fl_n 3 rfl) <|
 fl_dc (c := (¬ (r < 0)) ∧ (¬ (5 < r))) (fun h1 =>
  fl_dc (c := (M 87 r.toNatClampNeg) < 0) (fun h2 =>
   fl_td (s' := (6, [.ref 81, .int r, .int i, .null], [.int (-3)], (fl_u (fl_u M 81 14 1) 91 1 ((M 91 1) + 1)), J)) (fl_cv (o := some (.int (-3))) rfl rfl rfl rfl (fl_Ce (cc_109 M J r i) (by first | (simp only [if_pos h1, if_pos h2]; done) | (simp only [if_pos h1, if_pos h2]; rfl))) rfl) <|
   fl_td (s' := (30, [.ref 81, .int r, .int i, .int (-3)], [.int (-3)], (fl_u (fl_u M 81 14 1) 91 1 ((M 91 1) + 1)), J)) (fl_n 5 rfl) <|
   fl_rt rfl (fun _ => rfl) (by first | (simp only [if_pos h1, if_pos h2]; done) | rfl)) (fun h2 =>
   fl_dc (c := (¬ (i < 0)) ∧ (¬ ((M 87 r.toNatClampNeg) - 1 < i))) (fun h3 =>
    fl_td (s' := (6, [.ref 81, .int r, .int i, .null], [.int 0], M, J)) (fl_cv (o := some (.int 0)) rfl rfl rfl rfl (fl_Ce (cc_109 M J r i) (by first | (simp only [if_pos h1, if_neg h2, if_pos h3]; done) | (simp only [if_pos h1, if_neg h2, if_pos h3]; rfl))) rfl) <|
    fl_td (s' := (27, [.ref 81, .int r, .int i, .int 0], [.int (M 88 (((40 * r) + i).toNatClampNeg)), .ref 81], M, J)) (fl_n 12 rfl) <|
    fl_td (s' := (30, [.ref 81, .int r, .int i, .int 0], [.int 1], (fl_u M 81 11 (M 88 (((40 * r) + i).toNatClampNeg))), J)) (fl_cv (o := some (.int 1)) rfl rfl rfl rfl (cc_110 M J (M 88 (((40 * r) + i).toNatClampNeg))) rfl) <|
    fl_rt rfl (fun _ => rfl) (by first | (simp only [if_pos h1, if_neg h2, if_pos h3]; done) | rfl)) (fun h3 =>
    fl_td (s' := (6, [.ref 81, .int r, .int i, .null], [.int (-3)], (fl_u (fl_u M 81 14 2) 91 2 ((M 91 2) + 1)), J)) (fl_cv (o := some (.int (-3))) rfl rfl rfl rfl (fl_Ce (cc_109 M J r i) (by first | (simp only [if_pos h1, if_neg h2, if_neg h3]; done) | (simp only [if_pos h1, if_neg h2, if_neg h3]; rfl))) rfl) <|
    fl_td (s' := (30, [.ref 81, .int r, .int i, .int (-3)], [.int (-3)], (fl_u (fl_u M 81 14 2) 91 2 ((M 91 2) + 1)), J)) (fl_n 5 rfl) <|
    fl_rt rfl (fun _ => rfl) (by first | (simp only [if_pos h1, if_neg h2, if_neg h3]; done) | rfl)))) (fun h1 =>
  fl_td (s' := (6, [.ref 81, .int r, .int i, .null], [.int (-1)], M, J)) (fl_cv (o := some (.int (-1))) rfl rfl rfl rfl (fl_Ce (cc_109 M J r i) (by first | (simp only [if_neg h1]; done) | (simp only [if_neg h1]; rfl))) rfl) <|
  fl_td (s' := (30, [.ref 81, .int r, .int i, .int (-1)], [.int (-1)], M, J)) (fl_n 5 rfl) <|
  fl_rt rfl (fun _ => rfl) (by first | (simp only [if_neg h1]; done) | rfl))
def fB112 : sm_P := (fun pc => sm_ch sm_t112 pc, sm_Kn 3 2 none, fun x => sm_lk sm_ca3 x, some .int)
theorem cc_112 (M : fl_M) (J : fl_J) (r : Int32) : fl_C 112 [.ref 81, .int r] M J (some (.int (if (¬ (r < 0)) ∧ (¬ (5 < r)) then (if (M 87 r.toNatClampNeg) < 0 then (-3) else 1) else (-1))), (if (¬ (r < 0)) ∧ (¬ (5 < r)) then (if (M 87 r.toNatClampNeg) < 0 then (fl_u (fl_u M 81 14 1) 91 1 ((M 91 1) + 1)) else (fl_u M 87 r.toNatClampNeg (-1))) else M), J) :=
 fl_Co (B := fB112) rfl rfl <|
 fl_td (s' := (1, [.ref 81, .int r], [.int r], M, J)) (fl_n 1 rfl) <|
 fl_td (s' := (4, [.ref 81, .int r], [.int (if (¬ (r < 0)) ∧ (¬ (5 < r)) then 1 else 0)], M, J)) (fl_cs (o := some (.int (if (¬ (r < 0)) ∧ (¬ (5 < r)) then 1 else 0))) rfl rfl rfl (cc_104 M J r) rfl) <|
 fl_dtwo (fl_if (t := 9) rfl rfl) fl_b1 (fun h1 =>
  fl_td (s' := (15, [.ref 81, .int r], [.int (M 87 r.toNatClampNeg)], M, J)) (fl_n 4 rfl) <|
  fl_dnot (fl_if (t := 24) rfl rfl) fl_nlt (fun h2 =>
   fl_td (s' := (20, [.ref 81, .int r], [.int 1, .ref 81], M, J)) (fl_n 2 rfl) <|
   fl_td (s' := (23, [.ref 81, .int r], [.int (-3)], (fl_u (fl_u M 81 14 1) 91 1 ((M 91 1) + 1)), J)) (fl_cv (o := some (.int (-3))) rfl rfl rfl rfl (cc_106 M J 1) rfl) <|
   fl_rt rfl (fun _ => rfl) (by first | (simp only [if_pos h1, if_pos h2]; done) | rfl)) (fun h2 =>
   fl_td (s' := (32, [.ref 81, .int r], [.int 1], (fl_u M 87 r.toNatClampNeg (-1)), J)) (fl_n 6 rfl) <|
   fl_rt rfl (fun _ => rfl) (by first | (simp only [if_pos h1, if_neg h2]; done) | rfl))) (fun h1 =>
  fl_td (s' := (8, [.ref 81, .int r], [.int (-1)], M, J)) (fl_n 1 rfl) <|
  fl_rt rfl (fun _ => rfl) (by first | (simp only [if_neg h1]; done) | rfl))
def fB118 : sm_P := (fun pc => sm_ch sm_t118 pc, sm_Kn 3 5 none, fun x => sm_lk sm_ca3 x, some .int)
theorem cc_118 (M : fl_M) (J : fl_J) (t i v : Int32) : fl_C 118 [.ref 81, .int t, .int i, .int v] M J (some (.int (if (¬ (t < 0)) ∧ (¬ (3 < t)) then (if (M 89 t.toNatClampNeg) < 0 then (-3) else (if (¬ (i < 0)) ∧ (¬ ((M 89 t.toNatClampNeg) - 1 < i)) then (M 90 (((60 * t) + i).toNatClampNeg)) + 1000 else (-3))) else (-1))), (if (¬ (t < 0)) ∧ (¬ (3 < t)) then (if (M 89 t.toNatClampNeg) < 0 then (fl_u (fl_u M 81 14 1) 91 1 ((M 91 1) + 1)) else (if (¬ (i < 0)) ∧ (¬ ((M 89 t.toNatClampNeg) - 1 < i)) then (fl_u M 90 (((60 * t) + i).toNatClampNeg) v.toInt8.toInt32) else (fl_u (fl_u M 81 14 2) 91 2 ((M 91 2) + 1)))) else M), J) :=
 fl_Co (B := fB118) rfl rfl <|
 fl_td (s' := (1, [.ref 81, .int t, .int i, .int v, .null], [.int t], M, J)) (fl_n 1 rfl) <|
 fl_td (s' := (4, [.ref 81, .int t, .int i, .int v, .null], [.int (if (¬ (t < 0)) ∧ (¬ (3 < t)) then 1 else 0)], M, J)) (fl_cs (o := some (.int (if (¬ (t < 0)) ∧ (¬ (3 < t)) then 1 else 0))) rfl rfl rfl (cc_117 M J t) rfl) <|
 fl_dtwo (fl_if (t := 9) rfl rfl) fl_b1 (fun h1 =>
  fl_td (s' := (15, [.ref 81, .int t, .int i, .int v, .null], [.int (M 89 t.toNatClampNeg)], M, J)) (fl_n 4 rfl) <|
  fl_dnot (fl_if (t := 24) rfl rfl) fl_nlt (fun h2 =>
   fl_td (s' := (20, [.ref 81, .int t, .int i, .int v, .null], [.int 1, .ref 81], M, J)) (fl_n 2 rfl) <|
   fl_td (s' := (23, [.ref 81, .int t, .int i, .int v, .null], [.int (-3)], (fl_u (fl_u M 81 14 1) 91 1 ((M 91 1) + 1)), J)) (fl_cv (o := some (.int (-3))) rfl rfl rfl rfl (cc_106 M J 1) rfl) <|
   fl_rt rfl (fun _ => rfl) (by first | (simp only [if_pos h1, if_pos h2]; done) | rfl)) (fun h2 =>
   fl_td (s' := (36, [.ref 81, .int t, .int i, .int v, .null], [.long (((M 89 t.toNatClampNeg) - 1).toInt64), .long 0, .long i.toInt64], M, J)) (fl_n 10 rfl) <|
   fl_td (s' := (39, [.ref 81, .int t, .int i, .int v, .null], [.int (if (¬ (i < 0)) ∧ (¬ ((M 89 t.toNatClampNeg) - 1 < i)) then 1 else 0)], M, J)) (fl_cs (o := some (.int (if (¬ (i < 0)) ∧ (¬ ((M 89 t.toNatClampNeg) - 1 < i)) then 1 else 0))) rfl rfl rfl (cc_105i M J i 0 ((M 89 t.toNatClampNeg) - 1)) rfl) <|
   fl_dtwo (fl_if (t := 48) rfl rfl) fl_b1 (fun h3 =>
    fl_td (s' := (80, [.ref 81, .int t, .int i, .int v, .int (M 90 (((60 * t) + i).toNatClampNeg))], [.int ((M 90 (((60 * t) + i).toNatClampNeg)) + 1000)], (fl_u M 90 (((60 * t) + i).toNatClampNeg) v.toInt8.toInt32), J)) (fl_n 22 rfl) <|
    fl_rt rfl (fun _ => rfl) (by first | (simp only [if_pos h1, if_neg h2, if_pos h3]; done) | rfl)) (fun h3 =>
    fl_td (s' := (44, [.ref 81, .int t, .int i, .int v, .null], [.int 2, .ref 81], M, J)) (fl_n 2 rfl) <|
    fl_td (s' := (47, [.ref 81, .int t, .int i, .int v, .null], [.int (-3)], (fl_u (fl_u M 81 14 2) 91 2 ((M 91 2) + 1)), J)) (fl_cv (o := some (.int (-3))) rfl rfl rfl rfl (cc_106 M J 2) rfl) <|
    fl_rt rfl (fun _ => rfl) (by first | (simp only [if_pos h1, if_neg h2, if_neg h3]; done) | rfl)))) (fun h1 =>
  fl_td (s' := (8, [.ref 81, .int t, .int i, .int v, .null], [.int (-1)], M, J)) (fl_n 1 rfl) <|
  fl_rt rfl (fun _ => rfl) (by first | (simp only [if_neg h1]; done) | rfl))
def fB0 : sm_P := (fun pc => sm_ch sm_t0 pc, sm_Kn 2 4 none, fun x => sm_lk sm_ca2 x, some .int)
theorem sg_0 (M : fl_M) (J : fl_J) (r n i : Int32) : fl_go fB0 (27, [.ref 0, .int r, .int n, .int i], [], M, J) (if i < n then (27, [.ref 0, .int r, .int n, .int (i + 1)], [], (fl_u M (fl_ar 2 r.toNatClampNeg) i.toNatClampNeg 0), J) else (55, [.ref 0, .int r, .int n, .int i], [.int n], (fl_u M 1 r.toNatClampNeg n), J)) :=
 fl_tr (s' := (29, [.ref 0, .int r, .int n, .int i], [.int n, .int i], M, J)) (fl_n 2 rfl) <|
 fl_not (fl_ic (t := 47) rfl rfl) fl_nlt (fun h1 =>
  fl_tr (s' := (27, [.ref 0, .int r, .int n, .int (i + 1)], [], (fl_u M (fl_ar 2 r.toNatClampNeg) i.toNatClampNeg 0), J)) (fl_n 9 rfl) <|
  fl_rfl) (fun h1 =>
  fl_tr (s' := (55, [.ref 0, .int r, .int n, .int i], [.int n], (fl_u M 1 r.toNatClampNeg n), J)) (fl_n 6 rfl) <|
  fl_rfl)
theorem lp_0 (M : fl_M) (J : fl_J) (r n : Int32) : fl_dn fB0 (27, [.ref 0, .int r, .int n, .int 0], [], M, J) (some (.int n), fl_u (fl_f M (fl_ar 2 r.toNatClampNeg) n.toNatClampNeg 0) 1 r.toNatClampNeg n, J) := by
  have hb := fi_bd n
  refine fl_itd (S := fun m => (27, [.ref 0, .int r, .int n, .int (Int32.ofNat m)], [], fl_f M (fl_ar 2 r.toNatClampNeg) m 0, J)) n.toNatClampNeg (fun m hm => ?_) ?_ ?_
  · refine fl_ge (sg_0 _ J r n (Int32.ofNat m)) ?_
    rw [if_pos ((fi_lt (by omega)).mpr hm), fi_at (by omega), fi_s, fl_fs]
  · rw [fl_f0]
    rfl
  · refine fl_td (sg_0 _ J r n _) ?_
    rw [if_neg (fun z => absurd ((fi_lt (by omega)).mp z) (by omega))]
    exact fl_rt rfl (fun _ => rfl) rfl
theorem cc_0 (M : fl_M) (J : fl_J) (r n : Int32) : fl_C 0 [.ref 0, .int r, .int n] M J (some (.int (if (r < 0) ∨ (¬ (r < 6)) then (-1) else (if 40 < n then (-1) else (if n < 0 then (-3) else n)))), (if (r < 0) ∨ (¬ (r < 6)) then M else (if 40 < n then M else (if n < 0 then (fl_u (fl_u M 0 11 5) 80 5 ((M 80 5) + 1)) else (fl_u (fl_f M (fl_ar 2 r.toNatClampNeg) n.toNatClampNeg 0) 1 r.toNatClampNeg n)))), J) :=
 fl_Co (B := fB0) rfl rfl <|
 fl_td (s' := (1, [.ref 0, .int r, .int n, .null], [.int r], M, J)) (fl_n 1 rfl) <|
 fl_td (s' := (4, [.ref 0, .int r, .int n, .null], [.int (if (r < 0) ∨ (¬ (r < 6)) then 1 else 0)], M, J)) (fl_cs (o := some (.int (if (r < 0) ∨ (¬ (r < 6)) then 1 else 0))) rfl rfl rfl (cc_1 M J r) rfl) <|
 fl_dtwo (fl_if (t := 13) rfl rfl) fl_b1 (fun h1 =>
  fl_td (s' := (14, [.ref 0, .int r, .int n, .null], [.int (-1)], M, J)) (fl_n 1 rfl) <|
  fl_rt rfl (fun _ => rfl) (by first | (simp only [if_pos h1]; done) | rfl)) (fun h1 =>
  fl_td (s' := (10, [.ref 0, .int r, .int n, .null], [.int 40, .int n], M, J)) (fl_n 2 rfl) <|
  fl_dnot (fl_ic (t := 15) rfl rfl) fl_nle (fun h2 =>
   fl_td (s' := (14, [.ref 0, .int r, .int n, .null], [.int (-1)], M, J)) (fl_n 1 rfl) <|
   fl_rt rfl (fun _ => rfl) (by first | (simp only [if_neg h1, if_pos h2]; done) | rfl)) (fun h2 =>
   fl_td (s' := (16, [.ref 0, .int r, .int n, .null], [.int n], M, J)) (fl_n 1 rfl) <|
   fl_dnot (fl_if (t := 25) rfl rfl) fl_nlt (fun h3 =>
    fl_td (s' := (21, [.ref 0, .int r, .int n, .null], [.int 5, .ref 0], M, J)) (fl_n 2 rfl) <|
    fl_td (s' := (24, [.ref 0, .int r, .int n, .null], [.int (-3)], (fl_u (fl_u M 0 11 5) 80 5 ((M 80 5) + 1)), J)) (fl_cv (o := some (.int (-3))) rfl rfl rfl rfl (cc_2 M J 5) rfl) <|
    fl_rt rfl (fun _ => rfl) (by first | (simp only [if_neg h1, if_neg h2, if_pos h3]; done) | rfl)) (fun h3 =>
    fl_td (s' := (27, [.ref 0, .int r, .int n, .int 0], [], M, J)) (fl_n 2 rfl) <|
    fl_de (lp_0 M J r n) (by first | (simp only [if_neg h1, if_neg h2, if_neg h3]; done) | rfl))))
def fB107 : sm_P := (fun pc => sm_ch sm_t107 pc, sm_Kn 3 4 none, fun x => sm_lk sm_ca3 x, none)
theorem sg_107 (M : fl_M) (J : fl_J) (r n i : Int32) : fl_go fB107 (9, [.ref 81, .int r, .int n, .int i], [], M, J) (if i < 40 then (9, [.ref 81, .int r, .int n, .int (i + 1)], [], (fl_u M 88 (((40 * r) + i).toNatClampNeg) 0), J) else (33, [.ref 81, .int r, .int n, .int i], [], M, J)) :=
 fl_tr (s' := (12, [.ref 81, .int r, .int n, .int i], [.int 40, .int i], M, J)) (fl_n 2 rfl) <|
 fl_not (fl_ic (t := 33) rfl rfl) fl_nlt (fun h1 =>
  fl_tr (s' := (9, [.ref 81, .int r, .int n, .int (i + 1)], [], (fl_u M 88 (((40 * r) + i).toNatClampNeg) 0), J)) (fl_n 11 rfl) <|
  fl_rfl) (fun h1 =>
  fl_rfl)
theorem lp_107 (M : fl_M) (J : fl_J) (r n : Int32) (hr : (¬ (r < 0)) ∧ (¬ (5 < r))) : fl_dn fB107 (9, [.ref 81, .int r, .int n, .int 0], [], M, J) (none, fl_g M 88 (40 * r.toNatClampNeg) 40 0, J) := by
  have h1 := fi_ge.mp hr.1
  have h2 := fi_ge.mp hr.2
  rw [fi_i0] at h1
  rw [fi_i5] at h2
  refine fl_itd (S := fun m => (9, [.ref 81, .int r, .int n, .int (Int32.ofNat m)], [], fl_g M 88 (40 * r.toNatClampNeg) m 0, J)) 40 (fun m hm => ?_) ?_ ?_
  · refine fl_ge (sg_107 _ J r n (Int32.ofNat m)) ?_
    have e := fi_ti (m := m) (by omega)
    rw [if_pos ((fi_lt (by omega)).mpr hm), fi_40 h1 h2 (by omega) (by omega), fi_at (by omega), fi_s, fl_gs]
  · rw [fl_g0]
    rfl
  · refine fl_td (sg_107 _ J r n _) ?_
    rw [if_neg (by decide)]
    exact fl_rt rfl (fun _ => rfl) rfl
theorem cc_107 (M : fl_M) (J : fl_J) (r n : Int32) (hr : (¬ (r < 0)) ∧ (¬ (5 < r))) : fl_C 107 [.ref 81, .int r, .int n] M J (none, fl_g (fl_u M 87 r.toNatClampNeg n) 88 (40 * r.toNatClampNeg) 40 0, J) :=
 fl_Co (B := fB107) rfl rfl <|
 fl_td (s' := (9, [.ref 81, .int r, .int n, .int 0], [], fl_u M 87 r.toNatClampNeg n, J)) (fl_n 7 rfl) (lp_107 _ J r n hr)
def fB103 : sm_P := (fun pc => sm_ch sm_t103 pc, sm_Kn 3 3 none, fun x => sm_lk sm_ca3 x, some .int)
theorem cc_103 (M : fl_M) (J : fl_J) (r n : Int32) : fl_C 103 [.ref 81, .int r, .int n] M J (some (.int (if (¬ (r < 0)) ∧ (¬ (5 < r)) then (if 40 < n then (-1) else (if n < 0 then (-3) else n)) else (-1))), (if (¬ (r < 0)) ∧ (¬ (5 < r)) then (if 40 < n then M else (if n < 0 then (fl_u (fl_u M 81 14 5) 91 5 ((M 91 5) + 1)) else (fl_g (fl_u M 87 r.toNatClampNeg n) 88 (40 * r.toNatClampNeg) 40 0))) else M), J) :=
 fl_Co (B := fB103) rfl rfl <|
 fl_td (s' := (1, [.ref 81, .int r, .int n], [.int r], M, J)) (fl_n 1 rfl) <|
 fl_td (s' := (4, [.ref 81, .int r, .int n], [.int (if (¬ (r < 0)) ∧ (¬ (5 < r)) then 1 else 0)], M, J)) (fl_cs (o := some (.int (if (¬ (r < 0)) ∧ (¬ (5 < r)) then 1 else 0))) rfl rfl rfl (cc_104 M J r) rfl) <|
 fl_dnot (fl_if (t := 13) rfl rfl) fl_b0 (fun h1 =>
  fl_td (s' := (10, [.ref 81, .int r, .int n], [.int 40, .int n], M, J)) (fl_n 2 rfl) <|
  fl_dnot (fl_ic (t := 15) rfl rfl) fl_nle (fun h2 =>
   fl_td (s' := (14, [.ref 81, .int r, .int n], [.int (-1)], M, J)) (fl_n 1 rfl) <|
   fl_rt rfl (fun _ => rfl) (by first | (simp only [if_pos h1, if_pos h2]; done) | rfl)) (fun h2 =>
   fl_td (s' := (16, [.ref 81, .int r, .int n], [.int n], M, J)) (fl_n 1 rfl) <|
   fl_dnot (fl_if (t := 25) rfl rfl) fl_nlt (fun h3 =>
    fl_td (s' := (21, [.ref 81, .int r, .int n], [.int 5, .ref 81], M, J)) (fl_n 2 rfl) <|
    fl_td (s' := (24, [.ref 81, .int r, .int n], [.int (-3)], (fl_u (fl_u M 81 14 5) 91 5 ((M 91 5) + 1)), J)) (fl_cv (o := some (.int (-3))) rfl rfl rfl rfl (cc_106 M J 5) rfl) <|
    fl_rt rfl (fun _ => rfl) (by first | (simp only [if_pos h1, if_neg h2, if_pos h3]; done) | rfl)) (fun h3 =>
    fl_td (s' := (28, [.ref 81, .int r, .int n], [.int n, .int r, .ref 81], M, J)) (fl_n 3 rfl) <|
    fl_td (s' := (31, [.ref 81, .int r, .int n], [], (fl_g (fl_u M 87 r.toNatClampNeg n) 88 (40 * r.toNatClampNeg) 40 0), J)) (fl_cv (o := none) rfl rfl rfl rfl (cc_107 M J r n (by assumption)) rfl) <|
    fl_td (s' := (32, [.ref 81, .int r, .int n], [.int n], (fl_g (fl_u M 87 r.toNatClampNeg n) 88 (40 * r.toNatClampNeg) 40 0), J)) (fl_n 1 rfl) <|
    fl_rt rfl (fun _ => rfl) (by first | (simp only [if_pos h1, if_neg h2, if_neg h3]; done) | rfl)))) (fun h1 =>
  fl_td (s' := (14, [.ref 81, .int r, .int n], [.int (-1)], M, J)) (fl_n 1 rfl) <|
  fl_rt rfl (fun _ => rfl) (by first | (simp only [if_neg h1]; done) | rfl))
def fB116 : sm_P := (fun pc => sm_ch sm_t116 pc, sm_Kn 3 4 none, fun x => sm_lk sm_ca3 x, some .int)
theorem sg_116 (M : fl_M) (J : fl_J) (t n i : Int32) : fl_go fB116 (34, [.ref 81, .int t, .int n, .int i], [], M, J) (if i < 60 then (34, [.ref 81, .int t, .int n, .int (i + 1)], [], (fl_u M 90 (((60 * t) + i).toNatClampNeg) 32), J) else (60, [.ref 81, .int t, .int n, .int i], [.int n], M, J)) :=
 fl_tr (s' := (37, [.ref 81, .int t, .int n, .int i], [.int 60, .int i], M, J)) (fl_n 2 rfl) <|
 fl_not (fl_ic (t := 59) rfl rfl) fl_nlt (fun h1 =>
  fl_tr (s' := (34, [.ref 81, .int t, .int n, .int (i + 1)], [], (fl_u M 90 (((60 * t) + i).toNatClampNeg) 32), J)) (fl_n 11 rfl) <|
  fl_rfl) (fun h1 =>
  fl_tr (s' := (60, [.ref 81, .int t, .int n, .int i], [.int n], M, J)) (fl_n 1 rfl) <|
  fl_rfl)
theorem lp_116 (M : fl_M) (J : fl_J) (t n : Int32) (hr : (¬ (t < 0)) ∧ (¬ (3 < t))) : fl_dn fB116 (34, [.ref 81, .int t, .int n, .int 0], [], M, J) (some (.int n), fl_g M 90 (60 * t.toNatClampNeg) 60 32, J) := by
  have h1 := fi_ge.mp hr.1
  have h2 := fi_ge.mp hr.2
  rw [fi_i0] at h1
  rw [fi_i3] at h2
  refine fl_itd (S := fun m => (34, [.ref 81, .int t, .int n, .int (Int32.ofNat m)], [], fl_g M 90 (60 * t.toNatClampNeg) m 32, J)) 60 (fun m hm => ?_) ?_ ?_
  · refine fl_ge (sg_116 _ J t n (Int32.ofNat m)) ?_
    have e := fi_ti (m := m) (by omega)
    rw [if_pos ((fi_lt (by omega)).mpr hm), fi_60 h1 h2 (by omega) (by omega), fi_at (by omega), fi_s, fl_gs]
  · rw [fl_g0]
    rfl
  · refine fl_td (sg_116 _ J t n _) ?_
    rw [if_neg (by decide)]
    exact fl_rt rfl (fun _ => rfl) rfl
theorem cc_116 (M : fl_M) (J : fl_J) (t n : Int32) : fl_C 116 [.ref 81, .int t, .int n] M J (some (.int (if (¬ (t < 0)) ∧ (¬ (3 < t)) then (if 60 < n then (-1) else (if n < 0 then (-3) else n)) else (-1))), (if (¬ (t < 0)) ∧ (¬ (3 < t)) then (if 60 < n then M else (if n < 0 then (fl_u (fl_u M 81 14 5) 91 5 ((M 91 5) + 1)) else (fl_g (fl_u M 89 t.toNatClampNeg n) 90 (60 * t.toNatClampNeg) 60 32))) else M), J) :=
 fl_Co (B := fB116) rfl rfl <|
 fl_td (s' := (1, [.ref 81, .int t, .int n, .null], [.int t], M, J)) (fl_n 1 rfl) <|
 fl_td (s' := (4, [.ref 81, .int t, .int n, .null], [.int (if (¬ (t < 0)) ∧ (¬ (3 < t)) then 1 else 0)], M, J)) (fl_cs (o := some (.int (if (¬ (t < 0)) ∧ (¬ (3 < t)) then 1 else 0))) rfl rfl rfl (cc_117 M J t) rfl) <|
 fl_dnot (fl_if (t := 13) rfl rfl) fl_b0 (fun h1 =>
  fl_td (s' := (10, [.ref 81, .int t, .int n, .null], [.int 60, .int n], M, J)) (fl_n 2 rfl) <|
  fl_dnot (fl_ic (t := 15) rfl rfl) fl_nle (fun h2 =>
   fl_td (s' := (14, [.ref 81, .int t, .int n, .null], [.int (-1)], M, J)) (fl_n 1 rfl) <|
   fl_rt rfl (fun _ => rfl) (by first | (simp only [if_pos h1, if_pos h2]; done) | rfl)) (fun h2 =>
   fl_td (s' := (16, [.ref 81, .int t, .int n, .null], [.int n], M, J)) (fl_n 1 rfl) <|
   fl_dnot (fl_if (t := 25) rfl rfl) fl_nlt (fun h3 =>
    fl_td (s' := (21, [.ref 81, .int t, .int n, .null], [.int 5, .ref 81], M, J)) (fl_n 2 rfl) <|
    fl_td (s' := (24, [.ref 81, .int t, .int n, .null], [.int (-3)], (fl_u (fl_u M 81 14 5) 91 5 ((M 91 5) + 1)), J)) (fl_cv (o := some (.int (-3))) rfl rfl rfl rfl (cc_106 M J 5) rfl) <|
    fl_rt rfl (fun _ => rfl) (by first | (simp only [if_pos h1, if_neg h2, if_pos h3]; done) | rfl)) (fun h3 =>
    fl_td (s' := (34, [.ref 81, .int t, .int n, .int 0], [], (fl_u M 89 t.toNatClampNeg n), J)) (fl_n 7 rfl) <|
    fl_de (lp_116 (fl_u M 89 t.toNatClampNeg n) J t n (by assumption)) (by first | (simp only [if_pos h1, if_neg h2, if_neg h3]; done) | rfl)))) (fun h1 =>
  fl_td (s' := (14, [.ref 81, .int t, .int n, .null], [.int (-1)], M, J)) (fl_n 1 rfl) <|
  fl_rt rfl (fun _ => rfl) (by first | (simp only [if_neg h1]; done) | rfl))
def fB10 : sm_P := (fun pc => sm_ch sm_t10 pc, sm_Kn 2 6 none, fun x => sm_lk sm_ca2 x, some .int)
theorem sg_10 (M : fl_M) (J : fl_J) (r n i : Int32) (s : Int64) : fl_go fB10 (42, [.ref 0, .int r, .int n, .long s, .null, .int i], [], M, J) (if i < n then (42, [.ref 0, .int r, .int n, .long (s + ((M (fl_ar 2 r.toNatClampNeg) i.toNatClampNeg).toInt64)), .null, .int (i + 1)], [], M, J) else (76, [.ref 0, .int r, .int n, .long s, .null, .int i], [.int 1], (fl_u M 0 12 ((s / n.toInt64).toInt32)), J)) :=
 fl_tr (s' := (45, [.ref 0, .int r, .int n, .long s, .null, .int i], [.int n, .int i], M, J)) (fl_n 2 rfl) <|
 fl_not (fl_ic (t := 67) rfl rfl) fl_nlt (fun h1 =>
  fl_tr (s' := (42, [.ref 0, .int r, .int n, .long (s + ((M (fl_ar 2 r.toNatClampNeg) i.toNatClampNeg).toInt64)), .null, .int (i + 1)], [], M, J)) (fl_n 12 rfl) <|
  fl_rfl) (fun h1 =>
  fl_tr (s' := (73, [.ref 0, .int r, .int n, .long s, .null, .int i], [.int ((s / n.toInt64).toInt32), .ref 0], M, J)) (fl_n 6 rfl) <|
  fl_tr (s' := (76, [.ref 0, .int r, .int n, .long s, .null, .int i], [.int 1], (fl_u M 0 12 ((s / n.toInt64).toInt32)), J)) (fl_cv (o := some (.int 1)) rfl rfl rfl rfl (cc_5 M J ((s / n.toInt64).toInt32)) rfl) <|
  fl_rfl)
theorem lp_10 (M : fl_M) (J : fl_J) (r n : Int32) : fl_dn fB10 (42, [.ref 0, .int r, .int n, .long 0, .null, .int 0], [], M, J) (some (.int 1), fl_u M 0 12 (fl_sm (M (fl_ar 2 r.toNatClampNeg)) n.toNatClampNeg / n.toInt64).toInt32, J) := by
  have hb := fi_bd n
  refine fl_itd (S := fun m => (42, [.ref 0, .int r, .int n, .long (fl_sm (M (fl_ar 2 r.toNatClampNeg)) m), .null, .int (Int32.ofNat m)], [], M, J)) n.toNatClampNeg (fun m hm => ?_) ?_ ?_
  · refine fl_ge (sg_10 _ J r n (Int32.ofNat m) _) ?_
    rw [if_pos ((fi_lt (by omega)).mpr hm), fi_at (by omega), fi_s]
    rfl
  · rfl
  · refine fl_td (sg_10 _ J r n _ _) ?_
    rw [if_neg (fun z => absurd ((fi_lt (by omega)).mp z) (by omega))]
    exact fl_rt rfl (fun _ => rfl) rfl
theorem cc_10 (M : fl_M) (J : fl_J) (r : Int32) : fl_C 10 [.ref 0, .int r] M J (some (.int (if (r < 0) ∨ (¬ (r < 6)) then (-1) else (if (M 1 r.toNatClampNeg) = (-1) then (-3) else (if 0 < (M 1 r.toNatClampNeg) then 1 else (-3))))), (if (r < 0) ∨ (¬ (r < 6)) then M else (if (M 1 r.toNatClampNeg) = (-1) then (fl_u (fl_u M 0 11 1) 80 1 ((M 80 1) + 1)) else (if 0 < (M 1 r.toNatClampNeg) then (fl_u M 0 12 (fl_sm (M (fl_ar 2 r.toNatClampNeg)) (M 1 r.toNatClampNeg).toNatClampNeg / (M 1 r.toNatClampNeg).toInt64).toInt32) else (fl_u (fl_u M 0 11 4) 80 4 ((M 80 4) + 1))))), J) :=
 fl_Co (B := fB10) rfl rfl <|
 fl_td (s' := (1, [.ref 0, .int r, .null, .null, .null, .null], [.int r], M, J)) (fl_n 1 rfl) <|
 fl_td (s' := (4, [.ref 0, .int r, .null, .null, .null, .null], [.int (if (r < 0) ∨ (¬ (r < 6)) then 1 else 0)], M, J)) (fl_cs (o := some (.int (if (r < 0) ∨ (¬ (r < 6)) then 1 else 0))) rfl rfl rfl (cc_1 M J r) rfl) <|
 fl_dnot (fl_if (t := 9) rfl rfl) fl_b0 (fun h1 =>
  fl_td (s' := (8, [.ref 0, .int r, .null, .null, .null, .null], [.int (-1)], M, J)) (fl_n 1 rfl) <|
  fl_rt rfl (fun _ => rfl) (by first | (simp only [if_pos h1]; done) | rfl)) (fun h1 =>
  fl_td (s' := (18, [.ref 0, .int r, .int (M 1 r.toNatClampNeg), .null, .null, .null], [.int (-1), .int (M 1 r.toNatClampNeg)], M, J)) (fl_n 7 rfl) <|
  fl_dnot (fl_ic (t := 27) rfl rfl) fl_cF (fun h2 =>
   fl_td (s' := (23, [.ref 0, .int r, .int (M 1 r.toNatClampNeg), .null, .null, .null], [.int 1, .ref 0], M, J)) (fl_n 2 rfl) <|
   fl_td (s' := (26, [.ref 0, .int r, .int (M 1 r.toNatClampNeg), .null, .null, .null], [.int (-3)], (fl_u (fl_u M 0 11 1) 80 1 ((M 80 1) + 1)), J)) (fl_cv (o := some (.int (-3))) rfl rfl rfl rfl (cc_2 M J 1) rfl) <|
   fl_rt rfl (fun _ => rfl) (by first | (simp only [if_neg h1, if_pos h2]; done) | rfl)) (fun h2 =>
   fl_td (s' := (28, [.ref 0, .int r, .int (M 1 r.toNatClampNeg), .null, .null, .null], [.int (M 1 r.toNatClampNeg)], M, J)) (fl_n 1 rfl) <|
   fl_dtwo (fl_if (t := 37) rfl rfl) fl_cT (fun h3 =>
    fl_td (s' := (42, [.ref 0, .int r, .int (M 1 r.toNatClampNeg), .long 0, .null, .int 0], [], M, J)) (fl_n 4 rfl) <|
    fl_de (lp_10 M J r (M 1 r.toNatClampNeg)) (by first | (simp only [if_neg h1, if_neg h2, if_pos h3]; done) | rfl)) (fun h3 =>
    fl_td (s' := (33, [.ref 0, .int r, .int (M 1 r.toNatClampNeg), .null, .null, .null], [.int 4, .ref 0], M, J)) (fl_n 2 rfl) <|
    fl_td (s' := (36, [.ref 0, .int r, .int (M 1 r.toNatClampNeg), .null, .null, .null], [.int (-3)], (fl_u (fl_u M 0 11 4) 80 4 ((M 80 4) + 1)), J)) (fl_cv (o := some (.int (-3))) rfl rfl rfl rfl (cc_2 M J 4) rfl) <|
    fl_rt rfl (fun _ => rfl) (by first | (simp only [if_neg h1, if_neg h2, if_neg h3]; done) | rfl))))
def fB115 : sm_P := (fun pc => sm_ch sm_t115 pc, sm_Kn 3 5 none, fun x => sm_lk sm_ca3 x, some .int)
theorem sg_115 (M : fl_M) (J : fl_J) (r i : Int32) (s : Int64) : fl_go fB115 (44, [.ref 81, .int r, .long s, .null, .int i], [], M, J) (if i < (M 87 r.toNatClampNeg) then (44, [.ref 81, .int r, .long (s + ((M 88 (((40 * r) + i).toNatClampNeg)).toInt64)), .null, .int (i + 1)], [], M, J) else (91, [.ref 81, .int r, .long s, .null, .int i], [.int 1], (fl_u M 81 11 ((s / ((M 87 r.toNatClampNeg).toInt64)).toInt32)), J)) :=
 fl_tr (s' := (52, [.ref 81, .int r, .long s, .null, .int i], [.int (M 87 r.toNatClampNeg), .int i], M, J)) (fl_n 5 rfl) <|
 fl_not (fl_ic (t := 77) rfl rfl) fl_nlt (fun h1 =>
  fl_tr (s' := (44, [.ref 81, .int r, .long (s + ((M 88 (((40 * r) + i).toNatClampNeg)).toInt64)), .null, .int (i + 1)], [], M, J)) (fl_n 14 rfl) <|
  fl_rfl) (fun h1 =>
  fl_tr (s' := (88, [.ref 81, .int r, .long s, .null, .int i], [.int ((s / ((M 87 r.toNatClampNeg).toInt64)).toInt32), .ref 81], M, J)) (fl_n 9 rfl) <|
  fl_tr (s' := (91, [.ref 81, .int r, .long s, .null, .int i], [.int 1], (fl_u M 81 11 ((s / ((M 87 r.toNatClampNeg).toInt64)).toInt32)), J)) (fl_cv (o := some (.int 1)) rfl rfl rfl rfl (cc_110 M J ((s / ((M 87 r.toNatClampNeg).toInt64)).toInt32)) rfl) <|
  fl_rfl)
theorem lp_115 (M : fl_M) (J : fl_J) (r : Int32) (hr : (¬ (r < 0)) ∧ (¬ (5 < r))) (hn : (M 87 r.toNatClampNeg).toInt ≤ 40) : fl_dn fB115 (44, [.ref 81, .int r, .long 0, .null, .int 0], [], M, J) (some (.int 1), fl_u M 81 11 (fl_sm (fun k => M 88 (40 * r.toNatClampNeg + k)) (M 87 r.toNatClampNeg).toNatClampNeg / (M 87 r.toNatClampNeg).toInt64).toInt32, J) := by
  have h1 := fi_ge.mp hr.1
  have h2 := fi_ge.mp hr.2
  rw [fi_i0] at h1
  rw [fi_i5] at h2
  have hb := fi_bd (M 87 r.toNatClampNeg)
  have hc := fi_cl (M 87 r.toNatClampNeg)
  refine fl_itd (S := fun m => (44, [.ref 81, .int r, .long (fl_sm (fun k => M 88 (40 * r.toNatClampNeg + k)) m), .null, .int (Int32.ofNat m)], [], M, J)) (M 87 r.toNatClampNeg).toNatClampNeg (fun m hm => ?_) ?_ ?_
  · refine fl_ge (sg_115 _ J r (Int32.ofNat m) _) ?_
    have e := fi_ti (m := m) (by omega)
    rw [if_pos ((fi_lt (by omega)).mpr hm), fi_40 h1 h2 (by omega) (by omega), fi_at (by omega), fi_s]
    rfl
  · rfl
  · refine fl_td (sg_115 _ J r _ _) ?_
    rw [if_neg (fun z => absurd ((fi_lt (by omega)).mp z) (by omega))]
    exact fl_rt rfl (fun _ => rfl) rfl
theorem cc_115 (M : fl_M) (J : fl_J) (r : Int32) (hn : ∀ q, q < 6 → (M 87 q).toInt ≤ 40) : fl_C 115 [.ref 81, .int r] M J (some (.int (if (¬ (r < 0)) ∧ (¬ (5 < r)) then (if (M 87 r.toNatClampNeg) < 0 then (-3) else (if (M 87 r.toNatClampNeg) = 0 then (-3) else 1)) else (-1))), (if (¬ (r < 0)) ∧ (¬ (5 < r)) then (if (M 87 r.toNatClampNeg) < 0 then (fl_u (fl_u M 81 14 1) 91 1 ((M 91 1) + 1)) else (if (M 87 r.toNatClampNeg) = 0 then (fl_u (fl_u M 81 14 4) 91 4 ((M 91 4) + 1)) else (fl_u M 81 11 (fl_sm (fun k => M 88 (40 * r.toNatClampNeg + k)) (M 87 r.toNatClampNeg).toNatClampNeg / (M 87 r.toNatClampNeg).toInt64).toInt32))) else M), J) :=
 fl_Co (B := fB115) rfl rfl <|
 fl_td (s' := (1, [.ref 81, .int r, .null, .null, .null], [.int r], M, J)) (fl_n 1 rfl) <|
 fl_td (s' := (4, [.ref 81, .int r, .null, .null, .null], [.int (if (¬ (r < 0)) ∧ (¬ (5 < r)) then 1 else 0)], M, J)) (fl_cs (o := some (.int (if (¬ (r < 0)) ∧ (¬ (5 < r)) then 1 else 0))) rfl rfl rfl (cc_104 M J r) rfl) <|
 fl_dtwo (fl_if (t := 9) rfl rfl) fl_b1 (fun h1 =>
  fl_td (s' := (15, [.ref 81, .int r, .null, .null, .null], [.int (M 87 r.toNatClampNeg)], M, J)) (fl_n 4 rfl) <|
  fl_dnot (fl_if (t := 24) rfl rfl) fl_nlt (fun h2 =>
   fl_td (s' := (20, [.ref 81, .int r, .null, .null, .null], [.int 1, .ref 81], M, J)) (fl_n 2 rfl) <|
   fl_td (s' := (23, [.ref 81, .int r, .null, .null, .null], [.int (-3)], (fl_u (fl_u M 81 14 1) 91 1 ((M 91 1) + 1)), J)) (fl_cv (o := some (.int (-3))) rfl rfl rfl rfl (cc_106 M J 1) rfl) <|
   fl_rt rfl (fun _ => rfl) (by first | (simp only [if_pos h1, if_pos h2]; done) | rfl)) (fun h2 =>
   fl_td (s' := (30, [.ref 81, .int r, .null, .null, .null], [.int (M 87 r.toNatClampNeg)], M, J)) (fl_n 4 rfl) <|
   fl_dnot (fl_if (t := 39) rfl rfl) fl_cF (fun h3 =>
    fl_td (s' := (35, [.ref 81, .int r, .null, .null, .null], [.int 4, .ref 81], M, J)) (fl_n 2 rfl) <|
    fl_td (s' := (38, [.ref 81, .int r, .null, .null, .null], [.int (-3)], (fl_u (fl_u M 81 14 4) 91 4 ((M 91 4) + 1)), J)) (fl_cv (o := some (.int (-3))) rfl rfl rfl rfl (cc_106 M J 4) rfl) <|
    fl_rt rfl (fun _ => rfl) (by first | (simp only [if_pos h1, if_neg h2, if_pos h3]; done) | rfl)) (fun h3 =>
    fl_td (s' := (44, [.ref 81, .int r, .long 0, .null, .int 0], [], M, J)) (fl_n 4 rfl) <|
    fl_de (lp_115 M J r (by assumption) (hn _ (fi_r6 (by assumption)))) (by first | (simp only [if_pos h1, if_neg h2, if_neg h3]; done) | rfl)))) (fun h1 =>
  fl_td (s' := (8, [.ref 81, .int r, .null, .null, .null], [.int (-1)], M, J)) (fl_n 1 rfl) <|
  fl_rt rfl (fun _ => rfl) (by first | (simp only [if_neg h1]; done) | rfl))
def fB8 : sm_P := (fun pc => sm_ch sm_t8 pc, sm_Kn 2 6 none, fun x => sm_lk sm_ca2 x, some .int)
theorem cc_8 (M : fl_M) (J : fl_J) (r i to j n : Int32) : fl_C 8 [.ref 0, .int r, .int i, .int to, .int j, .int n] M J (some (.int (if (r < 0) ∨ (¬ (r < 6)) then (-1) else (if (to < 0) ∨ (¬ (to < 6)) then (-1) else (if n < 0 then (-3) else (if (M 1 r.toNatClampNeg) = (-1) then (-3) else (if (M 1 to.toNatClampNeg) = (-1) then (-3) else (if (i < 0) ∨ (((M 1 r.toNatClampNeg) - n) < i) then (-3) else (if (j < 0) ∨ (((M 1 to.toNatClampNeg) - n) < j) then (-3) else 1)))))))), (if (r < 0) ∨ (¬ (r < 6)) then M else (if (to < 0) ∨ (¬ (to < 6)) then M else (if n < 0 then (fl_u (fl_u M 0 11 5) 80 5 ((M 80 5) + 1)) else (if (M 1 r.toNatClampNeg) = (-1) then (fl_u (fl_u M 0 11 1) 80 1 ((M 80 1) + 1)) else (if (M 1 to.toNatClampNeg) = (-1) then (fl_u (fl_u M 0 11 1) 80 1 ((M 80 1) + 1)) else (if (i < 0) ∨ (((M 1 r.toNatClampNeg) - n) < i) then (fl_u (fl_u M 0 11 2) 80 2 ((M 80 2) + 1)) else (if (j < 0) ∨ (((M 1 to.toNatClampNeg) - n) < j) then (fl_u (fl_u M 0 11 2) 80 2 ((M 80 2) + 1)) else (fl_y M (fl_ar 2 r.toNatClampNeg) i.toNatClampNeg (fl_ar 2 to.toNatClampNeg) j.toNatClampNeg n.toNatClampNeg)))))))), J) :=
 fl_Co (B := fB8) rfl rfl <|
 fl_td (s' := (1, [.ref 0, .int r, .int i, .int to, .int j, .int n], [.int r], M, J)) (fl_n 1 rfl) <|
 fl_td (s' := (4, [.ref 0, .int r, .int i, .int to, .int j, .int n], [.int (if (r < 0) ∨ (¬ (r < 6)) then 1 else 0)], M, J)) (fl_cs (o := some (.int (if (r < 0) ∨ (¬ (r < 6)) then 1 else 0))) rfl rfl rfl (cc_1 M J r) rfl) <|
 fl_dtwo (fl_if (t := 14) rfl rfl) fl_b1 (fun h1 =>
  fl_td (s' := (15, [.ref 0, .int r, .int i, .int to, .int j, .int n], [.int (-1)], M, J)) (fl_n 1 rfl) <|
  fl_rt rfl (fun _ => rfl) (by first | (simp only [if_pos h1]; done) | rfl)) (fun h1 =>
  fl_td (s' := (8, [.ref 0, .int r, .int i, .int to, .int j, .int n], [.int to], M, J)) (fl_n 1 rfl) <|
  fl_td (s' := (11, [.ref 0, .int r, .int i, .int to, .int j, .int n], [.int (if (to < 0) ∨ (¬ (to < 6)) then 1 else 0)], M, J)) (fl_cs (o := some (.int (if (to < 0) ∨ (¬ (to < 6)) then 1 else 0))) rfl rfl rfl (cc_1 M J to) rfl) <|
  fl_dnot (fl_if (t := 16) rfl rfl) fl_b0 (fun h2 =>
   fl_td (s' := (15, [.ref 0, .int r, .int i, .int to, .int j, .int n], [.int (-1)], M, J)) (fl_n 1 rfl) <|
   fl_rt rfl (fun _ => rfl) (by first | (simp only [if_neg h1, if_pos h2]; done) | rfl)) (fun h2 =>
   fl_td (s' := (18, [.ref 0, .int r, .int i, .int to, .int j, .int n], [.int n], M, J)) (fl_n 1 rfl) <|
   fl_dnot (fl_if (t := 27) rfl rfl) fl_nlt (fun h3 =>
    fl_td (s' := (23, [.ref 0, .int r, .int i, .int to, .int j, .int n], [.int 5, .ref 0], M, J)) (fl_n 2 rfl) <|
    fl_td (s' := (26, [.ref 0, .int r, .int i, .int to, .int j, .int n], [.int (-3)], (fl_u (fl_u M 0 11 5) 80 5 ((M 80 5) + 1)), J)) (fl_cv (o := some (.int (-3))) rfl rfl rfl rfl (cc_2 M J 5) rfl) <|
    fl_rt rfl (fun _ => rfl) (by first | (simp only [if_neg h1, if_neg h2, if_pos h3]; done) | rfl)) (fun h3 =>
    fl_td (s' := (34, [.ref 0, .int r, .int i, .int to, .int j, .int n], [.int (-1), .int (M 1 r.toNatClampNeg)], M, J)) (fl_n 5 rfl) <|
    fl_dtwo (fl_ic (t := 47) rfl rfl) fl_cT (fun h4 =>
     fl_td (s' := (49, [.ref 0, .int r, .int i, .int to, .int j, .int n], [.int 1, .ref 0], M, J)) (fl_n 2 rfl) <|
     fl_td (s' := (52, [.ref 0, .int r, .int i, .int to, .int j, .int n], [.int (-3)], (fl_u (fl_u M 0 11 1) 80 1 ((M 80 1) + 1)), J)) (fl_cv (o := some (.int (-3))) rfl rfl rfl rfl (cc_2 M J 1) rfl) <|
     fl_rt rfl (fun _ => rfl) (by first | (simp only [if_neg h1, if_neg h2, if_neg h3, if_pos h4]; done) | rfl)) (fun h4 =>
     fl_td (s' := (44, [.ref 0, .int r, .int i, .int to, .int j, .int n], [.int (-1), .int (M 1 to.toNatClampNeg)], M, J)) (fl_n 5 rfl) <|
     fl_dnot (fl_ic (t := 53) rfl rfl) fl_cF (fun h5 =>
      fl_td (s' := (49, [.ref 0, .int r, .int i, .int to, .int j, .int n], [.int 1, .ref 0], M, J)) (fl_n 2 rfl) <|
      fl_td (s' := (52, [.ref 0, .int r, .int i, .int to, .int j, .int n], [.int (-3)], (fl_u (fl_u M 0 11 1) 80 1 ((M 80 1) + 1)), J)) (fl_cv (o := some (.int (-3))) rfl rfl rfl rfl (cc_2 M J 1) rfl) <|
      fl_rt rfl (fun _ => rfl) (by first | (simp only [if_neg h1, if_neg h2, if_neg h3, if_neg h4, if_pos h5]; done) | rfl)) (fun h5 =>
      fl_td (s' := (62, [.ref 0, .int r, .int i, .int to, .int j, .int n], [.int (M 1 r.toNatClampNeg), .int n, .int i], M, J)) (fl_n 6 rfl) <|
      fl_td (s' := (65, [.ref 0, .int r, .int i, .int to, .int j, .int n], [.int (if (i < 0) ∨ (((M 1 r.toNatClampNeg) - n) < i) then 1 else 0)], M, J)) (fl_cs (o := some (.int (if (i < 0) ∨ (((M 1 r.toNatClampNeg) - n) < i) then 1 else 0))) rfl rfl rfl (cc_9 M J i n (M 1 r.toNatClampNeg)) rfl) <|
      fl_dtwo (fl_if (t := 84) rfl rfl) fl_b1 (fun h6 =>
       fl_td (s' := (86, [.ref 0, .int r, .int i, .int to, .int j, .int n], [.int 2, .ref 0], M, J)) (fl_n 2 rfl) <|
       fl_td (s' := (89, [.ref 0, .int r, .int i, .int to, .int j, .int n], [.int (-3)], (fl_u (fl_u M 0 11 2) 80 2 ((M 80 2) + 1)), J)) (fl_cv (o := some (.int (-3))) rfl rfl rfl rfl (cc_2 M J 2) rfl) <|
       fl_rt rfl (fun _ => rfl) (by first | (simp only [if_neg h1, if_neg h2, if_neg h3, if_neg h4, if_neg h5, if_pos h6]; done) | rfl)) (fun h6 =>
       fl_td (s' := (78, [.ref 0, .int r, .int i, .int to, .int j, .int n], [.int (M 1 to.toNatClampNeg), .int n, .int j], M, J)) (fl_n 6 rfl) <|
       fl_td (s' := (81, [.ref 0, .int r, .int i, .int to, .int j, .int n], [.int (if (j < 0) ∨ (((M 1 to.toNatClampNeg) - n) < j) then 1 else 0)], M, J)) (fl_cs (o := some (.int (if (j < 0) ∨ (((M 1 to.toNatClampNeg) - n) < j) then 1 else 0))) rfl rfl rfl (cc_9 M J j n (M 1 to.toNatClampNeg)) rfl) <|
       fl_dnot (fl_if (t := 90) rfl rfl) fl_b0 (fun h7 =>
        fl_td (s' := (86, [.ref 0, .int r, .int i, .int to, .int j, .int n], [.int 2, .ref 0], M, J)) (fl_n 2 rfl) <|
        fl_td (s' := (89, [.ref 0, .int r, .int i, .int to, .int j, .int n], [.int (-3)], (fl_u (fl_u M 0 11 2) 80 2 ((M 80 2) + 1)), J)) (fl_cv (o := some (.int (-3))) rfl rfl rfl rfl (cc_2 M J 2) rfl) <|
        fl_rt rfl (fun _ => rfl) (by first | (simp only [if_neg h1, if_neg h2, if_neg h3, if_neg h4, if_neg h5, if_neg h6, if_pos h7]; done) | rfl)) (fun h7 =>
        fl_td (s' := (111, [.ref 0, .int r, .int i, .int to, .int j, .int n], [.int 1], (fl_y M (fl_ar 2 r.toNatClampNeg) i.toNatClampNeg (fl_ar 2 to.toNatClampNeg) j.toNatClampNeg n.toNatClampNeg), J)) (fl_n 13 rfl) <|
        fl_rt rfl (fun _ => rfl) (by first | (simp only [if_neg h1, if_neg h2, if_neg h3, if_neg h4, if_neg h5, if_neg h6, if_neg h7]; done) | rfl))))))))
def fB114 : sm_P := (fun pc => sm_ch sm_t114 pc, sm_Kn 3 4 none, fun x => sm_lk sm_ca3 x, some .boolean)
theorem cc_114 (M : fl_M) (J : fl_J) (r i n : Int32) : fl_C 114 [.ref 81, .int r, .int i, .int n] M J (some (.int (if (¬ (i < 0)) ∧ (¬ (((M 87 r.toNatClampNeg).toInt64) < (i.toInt64 + n.toInt64))) then 1 else 0)), M, J) :=
 fl_Co (B := fB114) rfl rfl <|
 fl_td (s' := (1, [.ref 81, .int r, .int i, .int n], [.int i], M, J)) (fl_n 1 rfl) <|
 fl_dtwo (fl_if (t := 24) rfl rfl) fl_cT (fun h1 =>
  fl_td (s' := (25, [.ref 81, .int r, .int i, .int n], [.int 0], M, J)) (fl_n 1 rfl) <|
  fl_rt rfl (fun _ => rfl) (by simp [h1])) (fun h1 =>
  fl_td (s' := (17, [.ref 81, .int r, .int i, .int n], [.int (lg_cmp (i.toInt64 + n.toInt64) ((M 87 r.toNatClampNeg).toInt64))], M, J)) (fl_n 11 rfl) <|
  fl_dtwo (fl_if (t := 24) rfl rfl) fl_lgt (fun h2 =>
   fl_td (s' := (25, [.ref 81, .int r, .int i, .int n], [.int 0], M, J)) (fl_n 1 rfl) <|
   fl_rt rfl (fun _ => rfl) (by simp [h1, h2])) (fun h2 =>
   fl_td (s' := (25, [.ref 81, .int r, .int i, .int n], [.int 1], M, J)) (fl_n 2 rfl) <|
   fl_rt rfl (fun _ => rfl) (by simp [h1, h2])))
def fB113 : sm_P := (fun pc => sm_ch sm_t113 pc, sm_Kn 3 9 none, fun x => sm_lk sm_ca3 x, some .int)
theorem sg_113f (M : fl_M) (J : fl_J) (r i to j n k : Int32) (v8 : Value) : fl_go fB113 (96, [.ref 81, .int r, .int i, .int to, .int j, .int n, .int 0, .int k, v8], [], M, J) (if k < n then (96, [.ref 81, .int r, .int i, .int to, .int j, .int n, .int 0, .int (k + 1), .int k], [], (fl_u M 88 ((((40 * to) + j) + k).toNatClampNeg) (M 88 ((((40 * r) + i) + k).toNatClampNeg))), J) else (158, [.ref 81, .int r, .int i, .int to, .int j, .int n, .int 0, .int k, v8], [.int 1], M, J)) :=
 fl_tr (s' := (100, [.ref 81, .int r, .int i, .int to, .int j, .int n, .int 0, .int k, v8], [.int n, .int k], M, J)) (fl_n 2 rfl) <|
 fl_not (fl_ic (t := 157) rfl rfl) fl_nlt (fun h1 =>
  fl_tr (s' := (96, [.ref 81, .int r, .int i, .int to, .int j, .int n, .int 0, .int (k + 1), .int k], [], (fl_u M 88 ((((40 * to) + j) + k).toNatClampNeg) (M 88 ((((40 * r) + i) + k).toNatClampNeg))), J)) (fl_n 26 rfl) <|
  fl_rfl) (fun h1 =>
  fl_tr (s' := (158, [.ref 81, .int r, .int i, .int to, .int j, .int n, .int 0, .int k, v8], [.int 1], M, J)) (fl_n 1 rfl) <|
  fl_rfl)
theorem sg_113b (M : fl_M) (J : fl_J) (r i to j n k : Int32) (v8 : Value) : fl_go fB113 (96, [.ref 81, .int r, .int i, .int to, .int j, .int n, .int 1, .int k, v8], [], M, J) (if k < n then (96, [.ref 81, .int r, .int i, .int to, .int j, .int n, .int 1, .int (k + 1), .int ((n - 1) - k)], [], (fl_u M 88 ((((40 * to) + j) + ((n - 1) - k)).toNatClampNeg) (M 88 ((((40 * r) + i) + ((n - 1) - k)).toNatClampNeg))), J) else (158, [.ref 81, .int r, .int i, .int to, .int j, .int n, .int 1, .int k, v8], [.int 1], M, J)) :=
 fl_tr (s' := (100, [.ref 81, .int r, .int i, .int to, .int j, .int n, .int 1, .int k, v8], [.int n, .int k], M, J)) (fl_n 2 rfl) <|
 fl_not (fl_ic (t := 157) rfl rfl) fl_nlt (fun h1 =>
  fl_tr (s' := (96, [.ref 81, .int r, .int i, .int to, .int j, .int n, .int 1, .int (k + 1), .int ((n - 1) - k)], [], (fl_u M 88 ((((40 * to) + j) + ((n - 1) - k)).toNatClampNeg) (M 88 ((((40 * r) + i) + ((n - 1) - k)).toNatClampNeg))), J)) (fl_n 31 rfl) <|
  fl_rfl) (fun h1 =>
  fl_tr (s' := (158, [.ref 81, .int r, .int i, .int to, .int j, .int n, .int 1, .int k, v8], [.int 1], M, J)) (fl_n 1 rfl) <|
  fl_rfl)
theorem lp_113f (M : fl_M) (J : fl_J) (r i to j n : Int32) (h1 : (¬ (r < 0)) ∧ (¬ (5 < r))) (h2 : (¬ (to < 0)) ∧ (¬ (5 < to))) (h3 : ¬ n < 0) (h4 : (¬ (i < 0)) ∧ (¬ ((M 87 r.toNatClampNeg).toInt64 < (i.toInt64 + n.toInt64)))) (h5 : (¬ (j < 0)) ∧ (¬ ((M 87 to.toNatClampNeg).toInt64 < (j.toInt64 + n.toInt64)))) (hc : ∀ q, q < 6 → (M 87 q).toInt ≤ 40) (h6 : ¬ i < j) : fl_dn fB113 (96, [.ref 81, .int r, .int i, .int to, .int j, .int n, .int 0, .int 0, .null], [], M, J) (some (.int 1), fl_k M 88 (40 * r.toNatClampNeg + i.toNatClampNeg) (40 * to.toNatClampNeg + j.toNatClampNeg) 0 n.toNatClampNeg, J) := by
  have r1 := fi_ge.mp h1.1
  have r2 := fi_ge.mp h1.2
  have t1 := fi_ge.mp h2.1
  have t2 := fi_ge.mp h2.2
  have n1 := fi_ge.mp h3
  have i1 := fi_ge.mp h4.1
  have j1 := fi_ge.mp h5.1
  have i2 := h4.2
  have j2 := h5.2
  rw [fi_span] at i2 j2
  rw [fi_i0] at r1 t1 n1 i1 j1
  rw [fi_i5] at r2 t2
  have cr := fi_cl r
  have ct := fi_cl to
  have ci := fi_cl i
  have cj := fi_cl j
  have cn := fi_cl n
  have s1 := hc r.toNatClampNeg (by omega)
  have s2 := hc to.toNatClampNeg (by omega)
  have hb := fi_bd n
  have g1 := fi_ge.mp h6
  refine fl_itd (S := fun m => (96, [.ref 81, .int r, .int i, .int to, .int j, .int n, .int 0, .int (Int32.ofNat m), (match m with | 0 => .null | m + 1 => .int (Int32.ofNat m))], [], fl_k M 88 (40 * r.toNatClampNeg + i.toNatClampNeg) (40 * to.toNatClampNeg + j.toNatClampNeg) 0 m, J)) n.toNatClampNeg (fun m hm => ?_) ?_ ?_
  · refine fl_ge (sg_113f _ J r i to j n (Int32.ofNat m) _) ?_
    have e := fi_ti (m := m) (by omega)
    have ea := fi_at (m := m) (by omega)
    rw [if_pos ((fi_lt (by omega)).mpr hm), fi_40b r1 r2 i1 (by omega) (by omega) (by omega), fi_40b t1 t2 j1 (by omega) (by omega) (by omega), ea, fi_s, fl_kf _ _ _ _ _ (by omega)]
  · rw [fl_k0]
    rfl
  · refine fl_td (sg_113f _ J r i to j n _ _) ?_
    rw [if_neg (fun z => absurd ((fi_lt (by omega)).mp z) (by omega))]
    exact fl_rt rfl (fun _ => rfl) rfl
theorem lp_113b (M : fl_M) (J : fl_J) (r i to j n : Int32) (h1 : (¬ (r < 0)) ∧ (¬ (5 < r))) (h2 : (¬ (to < 0)) ∧ (¬ (5 < to))) (h3 : ¬ n < 0) (h4 : (¬ (i < 0)) ∧ (¬ ((M 87 r.toNatClampNeg).toInt64 < (i.toInt64 + n.toInt64)))) (h5 : (¬ (j < 0)) ∧ (¬ ((M 87 to.toNatClampNeg).toInt64 < (j.toInt64 + n.toInt64)))) (hc : ∀ q, q < 6 → (M 87 q).toInt ≤ 40) (h6 : i < j) : fl_dn fB113 (96, [.ref 81, .int r, .int i, .int to, .int j, .int n, .int 1, .int 0, .null], [], M, J) (some (.int 1), fl_k M 88 (40 * r.toNatClampNeg + i.toNatClampNeg) (40 * to.toNatClampNeg + j.toNatClampNeg) 0 n.toNatClampNeg, J) := by
  have r1 := fi_ge.mp h1.1
  have r2 := fi_ge.mp h1.2
  have t1 := fi_ge.mp h2.1
  have t2 := fi_ge.mp h2.2
  have n1 := fi_ge.mp h3
  have i1 := fi_ge.mp h4.1
  have j1 := fi_ge.mp h5.1
  have i2 := h4.2
  have j2 := h5.2
  rw [fi_span] at i2 j2
  rw [fi_i0] at r1 t1 n1 i1 j1
  rw [fi_i5] at r2 t2
  have cr := fi_cl r
  have ct := fi_cl to
  have ci := fi_cl i
  have cj := fi_cl j
  have cn := fi_cl n
  have s1 := hc r.toNatClampNeg (by omega)
  have s2 := hc to.toNatClampNeg (by omega)
  have hb := fi_bd n
  have g1 := fi_l.mp h6
  refine fl_itd (S := fun m => (96, [.ref 81, .int r, .int i, .int to, .int j, .int n, .int 1, .int (Int32.ofNat m), (match m with | 0 => .null | m + 1 => .int (n - 1 - Int32.ofNat m))], [], fl_k M 88 (40 * r.toNatClampNeg + i.toNatClampNeg) (40 * to.toNatClampNeg + j.toNatClampNeg) (n.toNatClampNeg - m) n.toNatClampNeg, J)) n.toNatClampNeg (fun m hm => ?_) ?_ ?_
  · refine fl_ge (sg_113b _ J r i to j n (Int32.ofNat m) _) ?_
    have e := fi_ti (m := m) (by omega)
    have ea := fi_at (m := m) (by omega)
    have e1 : (n - 1).toInt = n.toInt - 1 := by
      rw [fi_sub (by rw [fi_i1]; omega) (by rw [fi_i1]; omega), fi_i1]
    have e2 : (n - 1 - Int32.ofNat m).toInt = n.toInt - 1 - m := by
      rw [fi_sub (by omega) (by omega), e1, e]
    have e3 : (n - 1 - Int32.ofNat m).toNatClampNeg = n.toNatClampNeg - (m + 1) := by
      rw [fi_cl, e2]
      omega
    have e4 : n.toNatClampNeg - m = n.toNatClampNeg - (m + 1) + 1 := by omega
    rw [if_pos ((fi_lt (by omega)).mpr hm), fi_40b r1 r2 i1 (by omega) (by omega) (by omega), fi_40b t1 t2 j1 (by omega) (by omega) (by omega), e3, e4, fi_s, fl_kb _ _ _ _ _ _ (by omega) (by omega)]
  · rw [show n.toNatClampNeg - 0 = n.toNatClampNeg from rfl, fl_k0]
    rfl
  · refine fl_td (sg_113b _ J r i to j n _ _) ?_
    rw [if_neg (fun z => absurd ((fi_lt (by omega)).mp z) (by omega)), Nat.sub_self]
    exact fl_rt rfl (fun _ => rfl) rfl
theorem cc_113 (M : fl_M) (J : fl_J) (r i to j n : Int32) (hc : ∀ q, q < 6 → (M 87 q).toInt ≤ 40) : fl_C 113 [.ref 81, .int r, .int i, .int to, .int j, .int n] M J (some (.int (if (¬ (r < 0)) ∧ (¬ (5 < r)) then (if (¬ (to < 0)) ∧ (¬ (5 < to)) then (if n < 0 then (-3) else (if (M 87 r.toNatClampNeg) < 0 then (-3) else (if (M 87 to.toNatClampNeg) < 0 then (-3) else (if (¬ (i < 0)) ∧ (¬ (((M 87 r.toNatClampNeg).toInt64) < (i.toInt64 + n.toInt64))) then (if (¬ (j < 0)) ∧ (¬ (((M 87 to.toNatClampNeg).toInt64) < (j.toInt64 + n.toInt64))) then (if i < j then 1 else 1) else (-3)) else (-3))))) else (-1)) else (-1))), (if (¬ (r < 0)) ∧ (¬ (5 < r)) then (if (¬ (to < 0)) ∧ (¬ (5 < to)) then (if n < 0 then (fl_u (fl_u M 81 14 5) 91 5 ((M 91 5) + 1)) else (if (M 87 r.toNatClampNeg) < 0 then (fl_u (fl_u M 81 14 1) 91 1 ((M 91 1) + 1)) else (if (M 87 to.toNatClampNeg) < 0 then (fl_u (fl_u M 81 14 1) 91 1 ((M 91 1) + 1)) else (if (¬ (i < 0)) ∧ (¬ (((M 87 r.toNatClampNeg).toInt64) < (i.toInt64 + n.toInt64))) then (if (¬ (j < 0)) ∧ (¬ (((M 87 to.toNatClampNeg).toInt64) < (j.toInt64 + n.toInt64))) then (fl_k M 88 (40 * r.toNatClampNeg + i.toNatClampNeg) (40 * to.toNatClampNeg + j.toNatClampNeg) 0 n.toNatClampNeg) else (fl_u (fl_u M 81 14 2) 91 2 ((M 91 2) + 1))) else (fl_u (fl_u M 81 14 2) 91 2 ((M 91 2) + 1)))))) else M) else M), J) :=
 fl_Co (B := fB113) rfl rfl <|
 fl_td (s' := (1, [.ref 81, .int r, .int i, .int to, .int j, .int n, .null, .null, .null], [.int r], M, J)) (fl_n 1 rfl) <|
 fl_td (s' := (4, [.ref 81, .int r, .int i, .int to, .int j, .int n, .null, .null, .null], [.int (if (¬ (r < 0)) ∧ (¬ (5 < r)) then 1 else 0)], M, J)) (fl_cs (o := some (.int (if (¬ (r < 0)) ∧ (¬ (5 < r)) then 1 else 0))) rfl rfl rfl (cc_104 M J r) rfl) <|
 fl_dnot (fl_if (t := 14) rfl rfl) fl_b0 (fun h1 =>
  fl_td (s' := (8, [.ref 81, .int r, .int i, .int to, .int j, .int n, .null, .null, .null], [.int to], M, J)) (fl_n 1 rfl) <|
  fl_td (s' := (11, [.ref 81, .int r, .int i, .int to, .int j, .int n, .null, .null, .null], [.int (if (¬ (to < 0)) ∧ (¬ (5 < to)) then 1 else 0)], M, J)) (fl_cs (o := some (.int (if (¬ (to < 0)) ∧ (¬ (5 < to)) then 1 else 0))) rfl rfl rfl (cc_104 M J to) rfl) <|
  fl_dtwo (fl_if (t := 16) rfl rfl) fl_b1 (fun h2 =>
   fl_td (s' := (18, [.ref 81, .int r, .int i, .int to, .int j, .int n, .null, .null, .null], [.int n], M, J)) (fl_n 1 rfl) <|
   fl_dnot (fl_if (t := 27) rfl rfl) fl_nlt (fun h3 =>
    fl_td (s' := (23, [.ref 81, .int r, .int i, .int to, .int j, .int n, .null, .null, .null], [.int 5, .ref 81], M, J)) (fl_n 2 rfl) <|
    fl_td (s' := (26, [.ref 81, .int r, .int i, .int to, .int j, .int n, .null, .null, .null], [.int (-3)], (fl_u (fl_u M 81 14 5) 91 5 ((M 91 5) + 1)), J)) (fl_cv (o := some (.int (-3))) rfl rfl rfl rfl (cc_106 M J 5) rfl) <|
    fl_rt rfl (fun _ => rfl) (by first | (simp only [if_pos h1, if_pos h2, if_pos h3]; done) | rfl)) (fun h3 =>
    fl_td (s' := (33, [.ref 81, .int r, .int i, .int to, .int j, .int n, .null, .null, .null], [.int (M 87 r.toNatClampNeg)], M, J)) (fl_n 4 rfl) <|
    fl_dtwo (fl_if (t := 45) rfl rfl) fl_cT (fun h4 =>
     fl_td (s' := (47, [.ref 81, .int r, .int i, .int to, .int j, .int n, .null, .null, .null], [.int 1, .ref 81], M, J)) (fl_n 2 rfl) <|
     fl_td (s' := (50, [.ref 81, .int r, .int i, .int to, .int j, .int n, .null, .null, .null], [.int (-3)], (fl_u (fl_u M 81 14 1) 91 1 ((M 91 1) + 1)), J)) (fl_cv (o := some (.int (-3))) rfl rfl rfl rfl (cc_106 M J 1) rfl) <|
     fl_rt rfl (fun _ => rfl) (by first | (simp only [if_pos h1, if_pos h2, if_neg h3, if_pos h4]; done) | rfl)) (fun h4 =>
     fl_td (s' := (42, [.ref 81, .int r, .int i, .int to, .int j, .int n, .null, .null, .null], [.int (M 87 to.toNatClampNeg)], M, J)) (fl_n 4 rfl) <|
     fl_dnot (fl_if (t := 51) rfl rfl) fl_nlt (fun h5 =>
      fl_td (s' := (47, [.ref 81, .int r, .int i, .int to, .int j, .int n, .null, .null, .null], [.int 1, .ref 81], M, J)) (fl_n 2 rfl) <|
      fl_td (s' := (50, [.ref 81, .int r, .int i, .int to, .int j, .int n, .null, .null, .null], [.int (-3)], (fl_u (fl_u M 81 14 1) 91 1 ((M 91 1) + 1)), J)) (fl_cv (o := some (.int (-3))) rfl rfl rfl rfl (cc_106 M J 1) rfl) <|
      fl_rt rfl (fun _ => rfl) (by first | (simp only [if_pos h1, if_pos h2, if_neg h3, if_neg h4, if_pos h5]; done) | rfl)) (fun h5 =>
      fl_td (s' := (56, [.ref 81, .int r, .int i, .int to, .int j, .int n, .null, .null, .null], [.int n, .int i, .int r, .ref 81], M, J)) (fl_n 4 rfl) <|
      fl_td (s' := (59, [.ref 81, .int r, .int i, .int to, .int j, .int n, .null, .null, .null], [.int (if (¬ (i < 0)) ∧ (¬ (((M 87 r.toNatClampNeg).toInt64) < (i.toInt64 + n.toInt64))) then 1 else 0)], M, J)) (fl_cv (o := some (.int (if (¬ (i < 0)) ∧ (¬ (((M 87 r.toNatClampNeg).toInt64) < (i.toInt64 + n.toInt64))) then 1 else 0))) rfl rfl rfl rfl (cc_114 M J r i n) rfl) <|
      fl_dnot (fl_if (t := 74) rfl rfl) fl_b0 (fun h6 =>
       fl_td (s' := (68, [.ref 81, .int r, .int i, .int to, .int j, .int n, .null, .null, .null], [.int n, .int j, .int to, .ref 81], M, J)) (fl_n 4 rfl) <|
       fl_td (s' := (71, [.ref 81, .int r, .int i, .int to, .int j, .int n, .null, .null, .null], [.int (if (¬ (j < 0)) ∧ (¬ (((M 87 to.toNatClampNeg).toInt64) < (j.toInt64 + n.toInt64))) then 1 else 0)], M, J)) (fl_cv (o := some (.int (if (¬ (j < 0)) ∧ (¬ (((M 87 to.toNatClampNeg).toInt64) < (j.toInt64 + n.toInt64))) then 1 else 0))) rfl rfl rfl rfl (cc_114 M J to j n) rfl) <|
       fl_dtwo (fl_if (t := 80) rfl rfl) fl_b1 (fun h7 =>
        fl_td (s' := (83, [.ref 81, .int r, .int i, .int to, .int j, .int n, .null, .null, .null], [.int j, .int i], M, J)) (fl_n 2 rfl) <|
        fl_dnot (fl_ic (t := 90) rfl rfl) fl_nlt (fun h8 =>
         fl_td (s' := (96, [.ref 81, .int r, .int i, .int to, .int j, .int n, .int 1, .int 0, .null], [], M, J)) (fl_n 5 rfl) <|
         fl_de (lp_113b M J r i to j n (by assumption) (by assumption) (by assumption) (by assumption) (by assumption) hc (by assumption)) (by first | (simp only [if_pos h1, if_pos h2, if_neg h3, if_neg h4, if_neg h5, if_pos h6, if_pos h7, if_pos h8]; done) | rfl)) (fun h8 =>
         fl_td (s' := (96, [.ref 81, .int r, .int i, .int to, .int j, .int n, .int 0, .int 0, .null], [], M, J)) (fl_n 4 rfl) <|
         fl_de (lp_113f M J r i to j n (by assumption) (by assumption) (by assumption) (by assumption) (by assumption) hc (by assumption)) (by first | (simp only [if_pos h1, if_pos h2, if_neg h3, if_neg h4, if_neg h5, if_pos h6, if_pos h7, if_neg h8]; done) | rfl))) (fun h7 =>
        fl_td (s' := (76, [.ref 81, .int r, .int i, .int to, .int j, .int n, .null, .null, .null], [.int 2, .ref 81], M, J)) (fl_n 2 rfl) <|
        fl_td (s' := (79, [.ref 81, .int r, .int i, .int to, .int j, .int n, .null, .null, .null], [.int (-3)], (fl_u (fl_u M 81 14 2) 91 2 ((M 91 2) + 1)), J)) (fl_cv (o := some (.int (-3))) rfl rfl rfl rfl (cc_106 M J 2) rfl) <|
        fl_rt rfl (fun _ => rfl) (by first | (simp only [if_pos h1, if_pos h2, if_neg h3, if_neg h4, if_neg h5, if_pos h6, if_neg h7]; done) | rfl))) (fun h6 =>
       fl_td (s' := (76, [.ref 81, .int r, .int i, .int to, .int j, .int n, .null, .null, .null], [.int 2, .ref 81], M, J)) (fl_n 2 rfl) <|
       fl_td (s' := (79, [.ref 81, .int r, .int i, .int to, .int j, .int n, .null, .null, .null], [.int (-3)], (fl_u (fl_u M 81 14 2) 91 2 ((M 91 2) + 1)), J)) (fl_cv (o := some (.int (-3))) rfl rfl rfl rfl (cc_106 M J 2) rfl) <|
       fl_rt rfl (fun _ => rfl) (by first | (simp only [if_pos h1, if_pos h2, if_neg h3, if_neg h4, if_neg h5, if_neg h6]; done) | rfl)))))) (fun h2 =>
   fl_td (s' := (15, [.ref 81, .int r, .int i, .int to, .int j, .int n, .null, .null, .null], [.int (-1)], M, J)) (fl_n 1 rfl) <|
   fl_rt rfl (fun _ => rfl) (by first | (simp only [if_pos h1, if_neg h2]; done) | rfl))) (fun h1 =>
  fl_td (s' := (15, [.ref 81, .int r, .int i, .int to, .int j, .int n, .null, .null, .null], [.int (-1)], M, J)) (fl_n 1 rfl) <|
  fl_rt rfl (fun _ => rfl) (by first | (simp only [if_neg h1]; done) | rfl))
