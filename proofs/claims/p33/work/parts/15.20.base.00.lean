def fB1 : sm_P := (fun pc => sm_ch sm_t1 pc, sm_Kn 2 1 none, fun x => sm_lk sm_ca2 x, some .boolean)
theorem cc_1 (M : fl_M) (J : fl_J) (r : Int32) : fl_C 1 [.int r] M J (some (.int (if (r < 0) ∨ (¬ (r < 6)) then 1 else 0)), M, J) :=
 fl_Co (B := fB1) rfl rfl <|
 fl_td (s' := (1, [.int r], [.int r], M, J)) (fl_n 1 rfl) <|
 fl_dtwo (fl_if (t := 10) rfl rfl) fl_cT (fun h1 =>
  fl_td (s' := (15, [.int r], [.int 1], M, J)) (fl_n 2 rfl) <|
  fl_rt rfl (fun _ => rfl) (by simp [h1])) (fun h1 =>
  fl_td (s' := (7, [.int r], [.int 6, .int r], M, J)) (fl_n 2 rfl) <|
  fl_dtwo (fl_ic (t := 14) rfl rfl) fl_cT (fun h2 =>
   fl_td (s' := (15, [.int r], [.int 0], M, J)) (fl_n 1 rfl) <|
   fl_rt rfl (fun _ => rfl) (by simp [h1, h2])) (fun h2 =>
   fl_td (s' := (15, [.int r], [.int 1], M, J)) (fl_n 2 rfl) <|
   fl_rt rfl (fun _ => rfl) (by simp [h1, h2])))
def fB12 : sm_P := (fun pc => sm_ch sm_t12 pc, sm_Kn 2 1 none, fun x => sm_lk sm_ca2 x, some .boolean)
theorem cc_12 (M : fl_M) (J : fl_J) (t : Int32) : fl_C 12 [.int t] M J (some (.int (if (t < 0) ∨ (¬ (t < 4)) then 1 else 0)), M, J) :=
 fl_Co (B := fB12) rfl rfl <|
 fl_td (s' := (1, [.int t], [.int t], M, J)) (fl_n 1 rfl) <|
 fl_dtwo (fl_if (t := 9) rfl rfl) fl_cT (fun h1 =>
  fl_td (s' := (14, [.int t], [.int 1], M, J)) (fl_n 2 rfl) <|
  fl_rt rfl (fun _ => rfl) (by simp [h1])) (fun h1 =>
  fl_td (s' := (6, [.int t], [.int 4, .int t], M, J)) (fl_n 2 rfl) <|
  fl_dtwo (fl_ic (t := 13) rfl rfl) fl_cT (fun h2 =>
   fl_td (s' := (14, [.int t], [.int 0], M, J)) (fl_n 1 rfl) <|
   fl_rt rfl (fun _ => rfl) (by simp [h1, h2])) (fun h2 =>
   fl_td (s' := (14, [.int t], [.int 1], M, J)) (fl_n 2 rfl) <|
   fl_rt rfl (fun _ => rfl) (by simp [h1, h2])))
def fB5 : sm_P := (fun pc => sm_ch sm_t5 pc, sm_Kn 2 2 none, fun x => sm_lk sm_ca2 x, some .int)
theorem cc_5 (M : fl_M) (J : fl_J) (v : Int32) : fl_C 5 [.ref 0, .int v] M J (some (.int 1), (fl_u M 0 12 v), J) :=
 fl_Co (B := fB5) rfl rfl <|
 fl_td (s' := (6, [.ref 0, .int v], [.int 1], (fl_u M 0 12 v), J)) (fl_n 4 rfl) <|
 fl_rt rfl (fun _ => rfl) (rfl)
def fB2 : sm_P := (fun pc => sm_ch sm_t2 pc, sm_Kn 2 2 none, fun x => sm_lk sm_ca2 x, some .int)
theorem cc_2 (M : fl_M) (J : fl_J) (v : Int32) : fl_C 2 [.ref 0, .int v] M J (some (.int (-3)), (fl_u (fl_u M 0 11 v) 80 v.toNatClampNeg ((M 80 v.toNatClampNeg) + 1)), J) :=
 fl_Co (B := fB2) rfl rfl <|
 fl_td (s' := (17, [.ref 0, .int v], [.int (-3)], (fl_u (fl_u M 0 11 v) 80 v.toNatClampNeg ((M 80 v.toNatClampNeg) + 1)), J)) (fl_n 12 rfl) <|
 fl_rt rfl (fun _ => rfl) (rfl)
def fB9 : sm_P := (fun pc => sm_ch sm_t9 pc, sm_Kn 2 3 none, fun x => sm_lk sm_ca2 x, some .boolean)
theorem cc_9 (M : fl_M) (J : fl_J) (i n v : Int32) : fl_C 9 [.int i, .int n, .int v] M J (some (.int (if (i < 0) ∨ ((v - n) < i) then 1 else 0)), M, J) :=
 fl_Co (B := fB9) rfl rfl <|
 fl_td (s' := (1, [.int i, .int n, .int v], [.int i], M, J)) (fl_n 1 rfl) <|
 fl_dtwo (fl_if (t := 11) rfl rfl) fl_cT (fun h1 =>
  fl_td (s' := (16, [.int i, .int n, .int v], [.int 1], M, J)) (fl_n 2 rfl) <|
  fl_rt rfl (fun _ => rfl) (by simp [h1])) (fun h1 =>
  fl_td (s' := (8, [.int i, .int n, .int v], [.int (v - n), .int i], M, J)) (fl_n 4 rfl) <|
  fl_dnot (fl_ic (t := 15) rfl rfl) fl_nle (fun h2 =>
   fl_td (s' := (16, [.int i, .int n, .int v], [.int 1], M, J)) (fl_n 2 rfl) <|
   fl_rt rfl (fun _ => rfl) (by simp [h1, h2])) (fun h2 =>
   fl_td (s' := (16, [.int i, .int n, .int v], [.int 0], M, J)) (fl_n 1 rfl) <|
   fl_rt rfl (fun _ => rfl) (by simp [h1, h2])))
def fB4 : sm_P := (fun pc => sm_ch sm_t4 pc, sm_Kn 2 3 none, fun x => sm_lk sm_ca2 x, some .int)
theorem cc_4 (M : fl_M) (J : fl_J) (r i : Int32) : fl_C 4 [.ref 0, .int r, .int i] M J (some (.int (if (r < 0) ∨ (¬ (r < 6)) then (-1) else (if (M 1 r.toNatClampNeg) = (-1) then (-3) else (if i < 0 then (-3) else (if i < (M 1 r.toNatClampNeg) then 0 else (-3)))))), (if (r < 0) ∨ (¬ (r < 6)) then M else (if (M 1 r.toNatClampNeg) = (-1) then (fl_u (fl_u M 0 11 1) 80 1 ((M 80 1) + 1)) else (if i < 0 then (fl_u (fl_u M 0 11 2) 80 2 ((M 80 2) + 1)) else (if i < (M 1 r.toNatClampNeg) then M else (fl_u (fl_u M 0 11 2) 80 2 ((M 80 2) + 1)))))), J) :=
 fl_Co (B := fB4) rfl rfl <|
 fl_td (s' := (1, [.ref 0, .int r, .int i], [.int r], M, J)) (fl_n 1 rfl) <|
 fl_td (s' := (4, [.ref 0, .int r, .int i], [.int (if (r < 0) ∨ (¬ (r < 6)) then 1 else 0)], M, J)) (fl_cs (o := some (.int (if (r < 0) ∨ (¬ (r < 6)) then 1 else 0))) rfl rfl rfl (cc_1 M J r) rfl) <|
 fl_dnot (fl_if (t := 9) rfl rfl) fl_b0 (fun h1 =>
  fl_td (s' := (8, [.ref 0, .int r, .int i], [.int (-1)], M, J)) (fl_n 1 rfl) <|
  fl_rt rfl (fun _ => rfl) (by first | (simp only [if_pos h1]; done) | rfl)) (fun h1 =>
  fl_td (s' := (16, [.ref 0, .int r, .int i], [.int (-1), .int (M 1 r.toNatClampNeg)], M, J)) (fl_n 5 rfl) <|
  fl_dnot (fl_ic (t := 25) rfl rfl) fl_cF (fun h2 =>
   fl_td (s' := (21, [.ref 0, .int r, .int i], [.int 1, .ref 0], M, J)) (fl_n 2 rfl) <|
   fl_td (s' := (24, [.ref 0, .int r, .int i], [.int (-3)], (fl_u (fl_u M 0 11 1) 80 1 ((M 80 1) + 1)), J)) (fl_cv (o := some (.int (-3))) rfl rfl rfl rfl (cc_2 M J 1) rfl) <|
   fl_rt rfl (fun _ => rfl) (by first | (simp only [if_neg h1, if_pos h2]; done) | rfl)) (fun h2 =>
   fl_td (s' := (26, [.ref 0, .int r, .int i], [.int i], M, J)) (fl_n 1 rfl) <|
   fl_dtwo (fl_if (t := 39) rfl rfl) fl_cT (fun h3 =>
    fl_td (s' := (41, [.ref 0, .int r, .int i], [.int 2, .ref 0], M, J)) (fl_n 2 rfl) <|
    fl_td (s' := (44, [.ref 0, .int r, .int i], [.int (-3)], (fl_u (fl_u M 0 11 2) 80 2 ((M 80 2) + 1)), J)) (fl_cv (o := some (.int (-3))) rfl rfl rfl rfl (cc_2 M J 2) rfl) <|
    fl_rt rfl (fun _ => rfl) (by first | (simp only [if_neg h1, if_neg h2, if_pos h3]; done) | rfl)) (fun h3 =>
    fl_td (s' := (36, [.ref 0, .int r, .int i], [.int (M 1 r.toNatClampNeg), .int i], M, J)) (fl_n 5 rfl) <|
    fl_dtwo (fl_ic (t := 45) rfl rfl) fl_cT (fun h4 =>
     fl_td (s' := (46, [.ref 0, .int r, .int i], [.int 0], M, J)) (fl_n 1 rfl) <|
     fl_rt rfl (fun _ => rfl) (by first | (simp only [if_neg h1, if_neg h2, if_neg h3, if_pos h4]; done) | rfl)) (fun h4 =>
     fl_td (s' := (41, [.ref 0, .int r, .int i], [.int 2, .ref 0], M, J)) (fl_n 2 rfl) <|
     fl_td (s' := (44, [.ref 0, .int r, .int i], [.int (-3)], (fl_u (fl_u M 0 11 2) 80 2 ((M 80 2) + 1)), J)) (fl_cv (o := some (.int (-3))) rfl rfl rfl rfl (cc_2 M J 2) rfl) <|
     fl_rt rfl (fun _ => rfl) (by first | (simp only [if_neg h1, if_neg h2, if_neg h3, if_neg h4]; done) | rfl)))))
def fB3 : sm_P := (fun pc => sm_ch sm_t3 pc, sm_Kn 2 6 none, fun x => sm_lk sm_ca2 x, some .int)
theorem cc_3 (M : fl_M) (J : fl_J) (r i v : Int32) : fl_C 3 [.ref 0, .int r, .int i, .int v] M J (some (.int (if (r < 0) ∨ (¬ (r < 6)) then (-1) else (if (M 1 r.toNatClampNeg) = (-1) then (-3) else (if i < 0 then (-3) else (if i < (M 1 r.toNatClampNeg) then 1 else (-3)))))), (if (r < 0) ∨ (¬ (r < 6)) then M else (if (M 1 r.toNatClampNeg) = (-1) then (fl_u (fl_u M 0 11 1) 80 1 ((M 80 1) + 1)) else (if i < 0 then (fl_u (fl_u M 0 11 2) 80 2 ((M 80 2) + 1)) else (if i < (M 1 r.toNatClampNeg) then (fl_u (fl_u M (fl_ar 2 r.toNatClampNeg) i.toNatClampNeg v) 0 12 (M (fl_ar 2 r.toNatClampNeg) i.toNatClampNeg)) else (fl_u (fl_u M 0 11 2) 80 2 ((M 80 2) + 1)))))), J) :=
 fl_Co (B := fB3) rfl rfl <|
 fl_td (s' := (3, [.ref 0, .int r, .int i, .int v, .null, .null], [.int i, .int r, .ref 0], M, J)) (fl_n 3 rfl) <|
 fl_dc (c := (r < 0) ∨ (¬ (r < 6))) (fun h1 =>
  fl_td (s' := (6, [.ref 0, .int r, .int i, .int v, .null, .null], [.int (-1)], M, J)) (fl_cv (o := some (.int (-1))) rfl rfl rfl rfl (fl_Ce (cc_4 M J r i) (by first | (simp only [if_pos h1]; done) | (simp only [if_pos h1]; rfl))) rfl) <|
  fl_td (s' := (15, [.ref 0, .int r, .int i, .int v, .int (-1), .null], [.int (-1)], M, J)) (fl_n 4 rfl) <|
  fl_rt rfl (fun _ => rfl) (by first | (simp only [if_pos h1]; done) | rfl)) (fun h1 =>
  fl_dc (c := (M 1 r.toNatClampNeg) = (-1)) (fun h2 =>
   fl_td (s' := (6, [.ref 0, .int r, .int i, .int v, .null, .null], [.int (-3)], (fl_u (fl_u M 0 11 1) 80 1 ((M 80 1) + 1)), J)) (fl_cv (o := some (.int (-3))) rfl rfl rfl rfl (fl_Ce (cc_4 M J r i) (by first | (simp only [if_neg h1, if_pos h2]; done) | (simp only [if_neg h1, if_pos h2]; rfl))) rfl) <|
   fl_td (s' := (15, [.ref 0, .int r, .int i, .int v, .int (-3), .null], [.int (-3)], (fl_u (fl_u M 0 11 1) 80 1 ((M 80 1) + 1)), J)) (fl_n 4 rfl) <|
   fl_rt rfl (fun _ => rfl) (by first | (simp only [if_neg h1, if_pos h2]; done) | rfl)) (fun h2 =>
   fl_dc (c := i < 0) (fun h3 =>
    fl_td (s' := (6, [.ref 0, .int r, .int i, .int v, .null, .null], [.int (-3)], (fl_u (fl_u M 0 11 2) 80 2 ((M 80 2) + 1)), J)) (fl_cv (o := some (.int (-3))) rfl rfl rfl rfl (fl_Ce (cc_4 M J r i) (by first | (simp only [if_neg h1, if_neg h2, if_pos h3]; done) | (simp only [if_neg h1, if_neg h2, if_pos h3]; rfl))) rfl) <|
    fl_td (s' := (15, [.ref 0, .int r, .int i, .int v, .int (-3), .null], [.int (-3)], (fl_u (fl_u M 0 11 2) 80 2 ((M 80 2) + 1)), J)) (fl_n 4 rfl) <|
    fl_rt rfl (fun _ => rfl) (by first | (simp only [if_neg h1, if_neg h2, if_pos h3]; done) | rfl)) (fun h3 =>
    fl_dc (c := i < (M 1 r.toNatClampNeg)) (fun h4 =>
     fl_td (s' := (6, [.ref 0, .int r, .int i, .int v, .null, .null], [.int 0], M, J)) (fl_cv (o := some (.int 0)) rfl rfl rfl rfl (fl_Ce (cc_4 M J r i) (by first | (simp only [if_neg h1, if_neg h2, if_neg h3, if_pos h4]; done) | (simp only [if_neg h1, if_neg h2, if_neg h3, if_pos h4]; rfl))) rfl) <|
     fl_td (s' := (38, [.ref 0, .int r, .int i, .int v, .int 0, .int (M (fl_ar 2 r.toNatClampNeg) i.toNatClampNeg)], [.int (M (fl_ar 2 r.toNatClampNeg) i.toNatClampNeg), .ref 0], (fl_u M (fl_ar 2 r.toNatClampNeg) i.toNatClampNeg v), J)) (fl_n 19 rfl) <|
     fl_td (s' := (41, [.ref 0, .int r, .int i, .int v, .int 0, .int (M (fl_ar 2 r.toNatClampNeg) i.toNatClampNeg)], [.int 1], (fl_u (fl_u M (fl_ar 2 r.toNatClampNeg) i.toNatClampNeg v) 0 12 (M (fl_ar 2 r.toNatClampNeg) i.toNatClampNeg)), J)) (fl_cv (o := some (.int 1)) rfl rfl rfl rfl (cc_5 (fl_u M (fl_ar 2 r.toNatClampNeg) i.toNatClampNeg v) J (M (fl_ar 2 r.toNatClampNeg) i.toNatClampNeg)) rfl) <|
     fl_rt rfl (fun _ => rfl) (by first | (simp only [if_neg h1, if_neg h2, if_neg h3, if_pos h4]; done) | rfl)) (fun h4 =>
     fl_td (s' := (6, [.ref 0, .int r, .int i, .int v, .null, .null], [.int (-3)], (fl_u (fl_u M 0 11 2) 80 2 ((M 80 2) + 1)), J)) (fl_cv (o := some (.int (-3))) rfl rfl rfl rfl (fl_Ce (cc_4 M J r i) (by first | (simp only [if_neg h1, if_neg h2, if_neg h3, if_neg h4]; done) | (simp only [if_neg h1, if_neg h2, if_neg h3, if_neg h4]; rfl))) rfl) <|
     fl_td (s' := (15, [.ref 0, .int r, .int i, .int v, .int (-3), .null], [.int (-3)], (fl_u (fl_u M 0 11 2) 80 2 ((M 80 2) + 1)), J)) (fl_n 4 rfl) <|
     fl_rt rfl (fun _ => rfl) (by first | (simp only [if_neg h1, if_neg h2, if_neg h3, if_neg h4]; done) | rfl)))))
def fB6 : sm_P := (fun pc => sm_ch sm_t6 pc, sm_Kn 2 4 none, fun x => sm_lk sm_ca2 x, some .int)
theorem cc_6 (M : fl_M) (J : fl_J) (r i : Int32) : fl_C 6 [.ref 0, .int r, .int i] M J (some (.int (if (r < 0) ∨ (¬ (r < 6)) then (-1) else (if (M 1 r.toNatClampNeg) = (-1) then (-3) else (if i < 0 then (-3) else (if i < (M 1 r.toNatClampNeg) then 1 else (-3)))))), (if (r < 0) ∨ (¬ (r < 6)) then M else (if (M 1 r.toNatClampNeg) = (-1) then (fl_u (fl_u M 0 11 1) 80 1 ((M 80 1) + 1)) else (if i < 0 then (fl_u (fl_u M 0 11 2) 80 2 ((M 80 2) + 1)) else (if i < (M 1 r.toNatClampNeg) then (fl_u M 0 12 (M (fl_ar 2 r.toNatClampNeg) i.toNatClampNeg)) else (fl_u (fl_u M 0 11 2) 80 2 ((M 80 2) + 1)))))), J) :=
 fl_Co (B := fB6) rfl rfl <|
 fl_td (s' := (3, [.ref 0, .int r, .int i, .null], [.int i, .int r, .ref 0], M, J)) (fl_n 3 rfl) <|
 fl_dc (c := (r < 0) ∨ (¬ (r < 6))) (fun h1 =>
  fl_td (s' := (6, [.ref 0, .int r, .int i, .null], [.int (-1)], M, J)) (fl_cv (o := some (.int (-1))) rfl rfl rfl rfl (fl_Ce (cc_4 M J r i) (by first | (simp only [if_pos h1]; done) | (simp only [if_pos h1]; rfl))) rfl) <|
  fl_td (s' := (12, [.ref 0, .int r, .int i, .int (-1)], [.int (-1)], M, J)) (fl_n 4 rfl) <|
  fl_rt rfl (fun _ => rfl) (by first | (simp only [if_pos h1]; done) | rfl)) (fun h1 =>
  fl_dc (c := (M 1 r.toNatClampNeg) = (-1)) (fun h2 =>
   fl_td (s' := (6, [.ref 0, .int r, .int i, .null], [.int (-3)], (fl_u (fl_u M 0 11 1) 80 1 ((M 80 1) + 1)), J)) (fl_cv (o := some (.int (-3))) rfl rfl rfl rfl (fl_Ce (cc_4 M J r i) (by first | (simp only [if_neg h1, if_pos h2]; done) | (simp only [if_neg h1, if_pos h2]; rfl))) rfl) <|
   fl_td (s' := (12, [.ref 0, .int r, .int i, .int (-3)], [.int (-3)], (fl_u (fl_u M 0 11 1) 80 1 ((M 80 1) + 1)), J)) (fl_n 4 rfl) <|
   fl_rt rfl (fun _ => rfl) (by first | (simp only [if_neg h1, if_pos h2]; done) | rfl)) (fun h2 =>
   fl_dc (c := i < 0) (fun h3 =>
    fl_td (s' := (6, [.ref 0, .int r, .int i, .null], [.int (-3)], (fl_u (fl_u M 0 11 2) 80 2 ((M 80 2) + 1)), J)) (fl_cv (o := some (.int (-3))) rfl rfl rfl rfl (fl_Ce (cc_4 M J r i) (by first | (simp only [if_neg h1, if_neg h2, if_pos h3]; done) | (simp only [if_neg h1, if_neg h2, if_pos h3]; rfl))) rfl) <|
    fl_td (s' := (12, [.ref 0, .int r, .int i, .int (-3)], [.int (-3)], (fl_u (fl_u M 0 11 2) 80 2 ((M 80 2) + 1)), J)) (fl_n 4 rfl) <|
    fl_rt rfl (fun _ => rfl) (by first | (simp only [if_neg h1, if_neg h2, if_pos h3]; done) | rfl)) (fun h3 =>
    fl_dc (c := i < (M 1 r.toNatClampNeg)) (fun h4 =>
     fl_td (s' := (6, [.ref 0, .int r, .int i, .null], [.int 0], M, J)) (fl_cv (o := some (.int 0)) rfl rfl rfl rfl (fl_Ce (cc_4 M J r i) (by first | (simp only [if_neg h1, if_neg h2, if_neg h3, if_pos h4]; done) | (simp only [if_neg h1, if_neg h2, if_neg h3, if_pos h4]; rfl))) rfl) <|
     fl_td (s' := (22, [.ref 0, .int r, .int i, .int 0], [.int (M (fl_ar 2 r.toNatClampNeg) i.toNatClampNeg), .ref 0], M, J)) (fl_n 10 rfl) <|
     fl_td (s' := (25, [.ref 0, .int r, .int i, .int 0], [.int 1], (fl_u M 0 12 (M (fl_ar 2 r.toNatClampNeg) i.toNatClampNeg)), J)) (fl_cv (o := some (.int 1)) rfl rfl rfl rfl (cc_5 M J (M (fl_ar 2 r.toNatClampNeg) i.toNatClampNeg)) rfl) <|
     fl_rt rfl (fun _ => rfl) (by first | (simp only [if_neg h1, if_neg h2, if_neg h3, if_pos h4]; done) | rfl)) (fun h4 =>
     fl_td (s' := (6, [.ref 0, .int r, .int i, .null], [.int (-3)], (fl_u (fl_u M 0 11 2) 80 2 ((M 80 2) + 1)), J)) (fl_cv (o := some (.int (-3))) rfl rfl rfl rfl (fl_Ce (cc_4 M J r i) (by first | (simp only [if_neg h1, if_neg h2, if_neg h3, if_neg h4]; done) | (simp only [if_neg h1, if_neg h2, if_neg h3, if_neg h4]; rfl))) rfl) <|
     fl_td (s' := (12, [.ref 0, .int r, .int i, .int (-3)], [.int (-3)], (fl_u (fl_u M 0 11 2) 80 2 ((M 80 2) + 1)), J)) (fl_n 4 rfl) <|
     fl_rt rfl (fun _ => rfl) (by first | (simp only [if_neg h1, if_neg h2, if_neg h3, if_neg h4]; done) | rfl)))))
def fB7 : sm_P := (fun pc => sm_ch sm_t7 pc, sm_Kn 2 2 none, fun x => sm_lk sm_ca2 x, some .int)
theorem cc_7 (M : fl_M) (J : fl_J) (r : Int32) : fl_C 7 [.ref 0, .int r] M J (some (.int (if (r < 0) ∨ (¬ (r < 6)) then (-1) else (if (M 1 r.toNatClampNeg) = (-1) then (-3) else 1))), (if (r < 0) ∨ (¬ (r < 6)) then M else (if (M 1 r.toNatClampNeg) = (-1) then (fl_u (fl_u M 0 11 1) 80 1 ((M 80 1) + 1)) else (fl_u M 1 r.toNatClampNeg (-1)))), J) :=
 fl_Co (B := fB7) rfl rfl <|
 fl_td (s' := (1, [.ref 0, .int r], [.int r], M, J)) (fl_n 1 rfl) <|
 fl_td (s' := (4, [.ref 0, .int r], [.int (if (r < 0) ∨ (¬ (r < 6)) then 1 else 0)], M, J)) (fl_cs (o := some (.int (if (r < 0) ∨ (¬ (r < 6)) then 1 else 0))) rfl rfl rfl (cc_1 M J r) rfl) <|
 fl_dnot (fl_if (t := 9) rfl rfl) fl_b0 (fun h1 =>
  fl_td (s' := (8, [.ref 0, .int r], [.int (-1)], M, J)) (fl_n 1 rfl) <|
  fl_rt rfl (fun _ => rfl) (by first | (simp only [if_pos h1]; done) | rfl)) (fun h1 =>
  fl_td (s' := (16, [.ref 0, .int r], [.int (-1), .int (M 1 r.toNatClampNeg)], M, J)) (fl_n 5 rfl) <|
  fl_dnot (fl_ic (t := 25) rfl rfl) fl_cF (fun h2 =>
   fl_td (s' := (21, [.ref 0, .int r], [.int 1, .ref 0], M, J)) (fl_n 2 rfl) <|
   fl_td (s' := (24, [.ref 0, .int r], [.int (-3)], (fl_u (fl_u M 0 11 1) 80 1 ((M 80 1) + 1)), J)) (fl_cv (o := some (.int (-3))) rfl rfl rfl rfl (cc_2 M J 1) rfl) <|
   fl_rt rfl (fun _ => rfl) (by first | (simp only [if_neg h1, if_pos h2]; done) | rfl)) (fun h2 =>
   fl_td (s' := (33, [.ref 0, .int r], [.int 1], (fl_u M 1 r.toNatClampNeg (-1)), J)) (fl_n 6 rfl) <|
   fl_rt rfl (fun _ => rfl) (by first | (simp only [if_neg h1, if_neg h2]; done) | rfl)))
def fB13 : sm_P := (fun pc => sm_ch sm_t13 pc, sm_Kn 2 5 none, fun x => sm_lk sm_ca2 x, some .int)
theorem cc_13 (M : fl_M) (J : fl_J) (t i v : Int32) : fl_C 13 [.ref 0, .int t, .int i, .int v] M J (some (.int (if (t < 0) ∨ (¬ (t < 4)) then (-1) else (if (M 9 t.toNatClampNeg) = (-1) then (-3) else (if i < 0 then (-3) else (if i < (M 9 t.toNatClampNeg) then (M (fl_ar 10 t.toNatClampNeg) i.toNatClampNeg) + 1000 else (-3)))))), (if (t < 0) ∨ (¬ (t < 4)) then M else (if (M 9 t.toNatClampNeg) = (-1) then (fl_u (fl_u M 0 11 1) 80 1 ((M 80 1) + 1)) else (if i < 0 then (fl_u (fl_u M 0 11 2) 80 2 ((M 80 2) + 1)) else (if i < (M 9 t.toNatClampNeg) then (fl_u M (fl_ar 10 t.toNatClampNeg) i.toNatClampNeg (vp_nar .byte v.toInt8.toInt32)) else (fl_u (fl_u M 0 11 2) 80 2 ((M 80 2) + 1)))))), J) :=
 fl_Co (B := fB13) rfl rfl <|
 fl_td (s' := (1, [.ref 0, .int t, .int i, .int v, .null], [.int t], M, J)) (fl_n 1 rfl) <|
 fl_td (s' := (4, [.ref 0, .int t, .int i, .int v, .null], [.int (if (t < 0) ∨ (¬ (t < 4)) then 1 else 0)], M, J)) (fl_cs (o := some (.int (if (t < 0) ∨ (¬ (t < 4)) then 1 else 0))) rfl rfl rfl (cc_12 M J t) rfl) <|
 fl_dnot (fl_if (t := 9) rfl rfl) fl_b0 (fun h1 =>
  fl_td (s' := (8, [.ref 0, .int t, .int i, .int v, .null], [.int (-1)], M, J)) (fl_n 1 rfl) <|
  fl_rt rfl (fun _ => rfl) (by first | (simp only [if_pos h1]; done) | rfl)) (fun h1 =>
  fl_td (s' := (16, [.ref 0, .int t, .int i, .int v, .null], [.int (-1), .int (M 9 t.toNatClampNeg)], M, J)) (fl_n 5 rfl) <|
  fl_dnot (fl_ic (t := 25) rfl rfl) fl_cF (fun h2 =>
   fl_td (s' := (21, [.ref 0, .int t, .int i, .int v, .null], [.int 1, .ref 0], M, J)) (fl_n 2 rfl) <|
   fl_td (s' := (24, [.ref 0, .int t, .int i, .int v, .null], [.int (-3)], (fl_u (fl_u M 0 11 1) 80 1 ((M 80 1) + 1)), J)) (fl_cv (o := some (.int (-3))) rfl rfl rfl rfl (cc_2 M J 1) rfl) <|
   fl_rt rfl (fun _ => rfl) (by first | (simp only [if_neg h1, if_pos h2]; done) | rfl)) (fun h2 =>
   fl_td (s' := (26, [.ref 0, .int t, .int i, .int v, .null], [.int i], M, J)) (fl_n 1 rfl) <|
   fl_dtwo (fl_if (t := 39) rfl rfl) fl_cT (fun h3 =>
    fl_td (s' := (41, [.ref 0, .int t, .int i, .int v, .null], [.int 2, .ref 0], M, J)) (fl_n 2 rfl) <|
    fl_td (s' := (44, [.ref 0, .int t, .int i, .int v, .null], [.int (-3)], (fl_u (fl_u M 0 11 2) 80 2 ((M 80 2) + 1)), J)) (fl_cv (o := some (.int (-3))) rfl rfl rfl rfl (cc_2 M J 2) rfl) <|
    fl_rt rfl (fun _ => rfl) (by first | (simp only [if_neg h1, if_neg h2, if_pos h3]; done) | rfl)) (fun h3 =>
    fl_td (s' := (36, [.ref 0, .int t, .int i, .int v, .null], [.int (M 9 t.toNatClampNeg), .int i], M, J)) (fl_n 5 rfl) <|
    fl_dtwo (fl_ic (t := 45) rfl rfl) fl_cT (fun h4 =>
     fl_td (s' := (71, [.ref 0, .int t, .int i, .int v, .int (M (fl_ar 10 t.toNatClampNeg) i.toNatClampNeg)], [.int ((M (fl_ar 10 t.toNatClampNeg) i.toNatClampNeg) + 1000)], (fl_u M (fl_ar 10 t.toNatClampNeg) i.toNatClampNeg (vp_nar .byte v.toInt8.toInt32)), J)) (fl_n 18 rfl) <|
     fl_rt rfl (fun _ => rfl) (by first | (simp only [if_neg h1, if_neg h2, if_neg h3, if_pos h4]; done) | rfl)) (fun h4 =>
     fl_td (s' := (41, [.ref 0, .int t, .int i, .int v, .null], [.int 2, .ref 0], M, J)) (fl_n 2 rfl) <|
     fl_td (s' := (44, [.ref 0, .int t, .int i, .int v, .null], [.int (-3)], (fl_u (fl_u M 0 11 2) 80 2 ((M 80 2) + 1)), J)) (fl_cv (o := some (.int (-3))) rfl rfl rfl rfl (cc_2 M J 2) rfl) <|
     fl_rt rfl (fun _ => rfl) (by first | (simp only [if_neg h1, if_neg h2, if_neg h3, if_neg h4]; done) | rfl)))))
def fB11 : sm_P := (fun pc => sm_ch sm_t11 pc, sm_Kn 2 4 none, fun x => sm_lk sm_ca2 x, some .int)
theorem sg_11 (M : fl_M) (J : fl_J) (t n i : Int32) : fl_go fB11 (27, [.ref 0, .int t, .int n, .int i], [], M, J) (if i < n then (27, [.ref 0, .int t, .int n, .int (i + 1)], [], (fl_u M (fl_ar 10 t.toNatClampNeg) i.toNatClampNeg (vp_nar .byte 32)), J) else (56, [.ref 0, .int t, .int n, .int i], [.int n], (fl_u M 9 t.toNatClampNeg n), J)) :=
 fl_tr (s' := (29, [.ref 0, .int t, .int n, .int i], [.int n, .int i], M, J)) (fl_n 2 rfl) <|
 fl_not (fl_ic (t := 48) rfl rfl) fl_nlt (fun h1 =>
  fl_tr (s' := (27, [.ref 0, .int t, .int n, .int (i + 1)], [], (fl_u M (fl_ar 10 t.toNatClampNeg) i.toNatClampNeg (vp_nar .byte 32)), J)) (fl_n 9 rfl) <|
  fl_rfl) (fun h1 =>
  fl_tr (s' := (56, [.ref 0, .int t, .int n, .int i], [.int n], (fl_u M 9 t.toNatClampNeg n), J)) (fl_n 6 rfl) <|
  fl_rfl)
theorem lp_11 (M : fl_M) (J : fl_J) (t n : Int32) : fl_dn fB11 (27, [.ref 0, .int t, .int n, .int 0], [], M, J) (some (.int n), fl_u (fl_f M (fl_ar 10 t.toNatClampNeg) n.toNatClampNeg 32) 9 t.toNatClampNeg n, J) := by
  have hb := fi_bd n
  refine fl_itd (S := fun m => (27, [.ref 0, .int t, .int n, .int (Int32.ofNat m)], [], fl_f M (fl_ar 10 t.toNatClampNeg) m 32, J)) n.toNatClampNeg (fun m hm => ?_) ?_ ?_
  · refine fl_ge (sg_11 _ J t n (Int32.ofNat m)) ?_
    rw [if_pos ((fi_lt (by omega)).mpr hm), fi_at (by omega), fi_s, show vp_nar .byte 32 = 32 from rfl, fl_fs]
  · rw [fl_f0]
    rfl
  · refine fl_td (sg_11 _ J t n _) ?_
    rw [if_neg (fun z => absurd ((fi_lt (by omega)).mp z) (by omega))]
    exact fl_rt rfl (fun _ => rfl) rfl
theorem cc_11 (M : fl_M) (J : fl_J) (t n : Int32) : fl_C 11 [.ref 0, .int t, .int n] M J (some (.int (if (t < 0) ∨ (¬ (t < 4)) then (-1) else (if 60 < n then (-1) else (if n < 0 then (-3) else n)))), (if (t < 0) ∨ (¬ (t < 4)) then M else (if 60 < n then M else (if n < 0 then (fl_u (fl_u M 0 11 5) 80 5 ((M 80 5) + 1)) else (fl_u (fl_f M (fl_ar 10 t.toNatClampNeg) n.toNatClampNeg 32) 9 t.toNatClampNeg n)))), J) :=
 fl_Co (B := fB11) rfl rfl <|
 fl_td (s' := (1, [.ref 0, .int t, .int n, .null], [.int t], M, J)) (fl_n 1 rfl) <|
 fl_td (s' := (4, [.ref 0, .int t, .int n, .null], [.int (if (t < 0) ∨ (¬ (t < 4)) then 1 else 0)], M, J)) (fl_cs (o := some (.int (if (t < 0) ∨ (¬ (t < 4)) then 1 else 0))) rfl rfl rfl (cc_12 M J t) rfl) <|
 fl_dtwo (fl_if (t := 13) rfl rfl) fl_b1 (fun h1 =>
  fl_td (s' := (14, [.ref 0, .int t, .int n, .null], [.int (-1)], M, J)) (fl_n 1 rfl) <|
  fl_rt rfl (fun _ => rfl) (by first | (simp only [if_pos h1]; done) | rfl)) (fun h1 =>
  fl_td (s' := (10, [.ref 0, .int t, .int n, .null], [.int 60, .int n], M, J)) (fl_n 2 rfl) <|
  fl_dnot (fl_ic (t := 15) rfl rfl) fl_nle (fun h2 =>
   fl_td (s' := (14, [.ref 0, .int t, .int n, .null], [.int (-1)], M, J)) (fl_n 1 rfl) <|
   fl_rt rfl (fun _ => rfl) (by first | (simp only [if_neg h1, if_pos h2]; done) | rfl)) (fun h2 =>
   fl_td (s' := (16, [.ref 0, .int t, .int n, .null], [.int n], M, J)) (fl_n 1 rfl) <|
   fl_dnot (fl_if (t := 25) rfl rfl) fl_nlt (fun h3 =>
    fl_td (s' := (21, [.ref 0, .int t, .int n, .null], [.int 5, .ref 0], M, J)) (fl_n 2 rfl) <|
    fl_td (s' := (24, [.ref 0, .int t, .int n, .null], [.int (-3)], (fl_u (fl_u M 0 11 5) 80 5 ((M 80 5) + 1)), J)) (fl_cv (o := some (.int (-3))) rfl rfl rfl rfl (cc_2 M J 5) rfl) <|
    fl_rt rfl (fun _ => rfl) (by first | (simp only [if_neg h1, if_neg h2, if_pos h3]; done) | rfl)) (fun h3 =>
    fl_td (s' := (27, [.ref 0, .int t, .int n, .int 0], [], M, J)) (fl_n 2 rfl) <|
    fl_de (lp_11 M J t n) (by first | (simp only [if_neg h1, if_neg h2, if_neg h3]; done) | rfl))))
def fB105 : sm_P := (fun pc => sm_ch sm_t105 pc, sm_Kn 3 6 none, fun x => sm_lk sm_ca3 x, some .boolean)
theorem cc_105 (M : fl_M) (J : fl_J) (x a b : Int64) : fl_C 105 [.long x, .long a, .long b] M J (some (.int (if (¬ (x < a)) ∧ (¬ (b < x)) then 1 else 0)), M, J) :=
 fl_Co (B := fB105) rfl rfl <|
 fl_td (s' := (3, [.long x, .null, .long a, .null, .long b, .null], [.int (lg_cmp x a)], M, J)) (fl_n 3 rfl) <|
 fl_dtwo (fl_if (t := 17) rfl rfl) fl_llt (fun h1 =>
  fl_td (s' := (18, [.long x, .null, .long a, .null, .long b, .null], [.int 0], M, J)) (fl_n 1 rfl) <|
  fl_rt rfl (fun _ => rfl) (by simp [h1])) (fun h1 =>
  fl_td (s' := (10, [.long x, .null, .long a, .null, .long b, .null], [.int (lg_cmp x b)], M, J)) (fl_n 3 rfl) <|
  fl_dtwo (fl_if (t := 17) rfl rfl) fl_lgt (fun h2 =>
   fl_td (s' := (18, [.long x, .null, .long a, .null, .long b, .null], [.int 0], M, J)) (fl_n 1 rfl) <|
   fl_rt rfl (fun _ => rfl) (by simp [h1, h2])) (fun h2 =>
   fl_td (s' := (18, [.long x, .null, .long a, .null, .long b, .null], [.int 1], M, J)) (fl_n 2 rfl) <|
   fl_rt rfl (fun _ => rfl) (by simp [h1, h2])))
theorem cc_105i (M : fl_M) (J : fl_J) (x a b : Int32) : fl_C 105 [.long x.toInt64, .long a.toInt64, .long b.toInt64] M J (some (.int (if (¬ (x < a)) ∧ (¬ (b < x)) then 1 else 0)), M, J) := by
  have h := cc_105 M J x.toInt64 a.toInt64 b.toInt64
  simp only [fl_64lt] at h
  exact h
def fB104 : sm_P := (fun pc => sm_ch sm_t104 pc, sm_Kn 3 1 none, fun x => sm_lk sm_ca3 x, some .boolean)
theorem cc_104 (M : fl_M) (J : fl_J) (r : Int32) : fl_C 104 [.int r] M J (some (.int (if (¬ (r < 0)) ∧ (¬ (5 < r)) then 1 else 0)), M, J) :=
 fl_Co (B := fB104) rfl rfl <|
 fl_td (s' := (6, [.int r], [.long 5, .long 0, .long r.toInt64], M, J)) (fl_n 4 rfl) <|
 fl_td (s' := (9, [.int r], [.int (if (¬ (r < 0)) ∧ (¬ (5 < r)) then 1 else 0)], M, J)) (fl_cs (o := some (.int (if (¬ (r < 0)) ∧ (¬ (5 < r)) then 1 else 0))) rfl rfl rfl (cc_105i M J r 0 5) rfl) <|
 fl_rt rfl (fun _ => rfl) (rfl)
def fB117 : sm_P := (fun pc => sm_ch sm_t117 pc, sm_Kn 3 1 none, fun x => sm_lk sm_ca3 x, some .boolean)
theorem cc_117 (M : fl_M) (J : fl_J) (t : Int32) : fl_C 117 [.int t] M J (some (.int (if (¬ (t < 0)) ∧ (¬ (3 < t)) then 1 else 0)), M, J) :=
 fl_Co (B := fB117) rfl rfl <|
 fl_td (s' := (6, [.int t], [.long 3, .long 0, .long t.toInt64], M, J)) (fl_n 4 rfl) <|
 fl_td (s' := (9, [.int t], [.int (if (¬ (t < 0)) ∧ (¬ (3 < t)) then 1 else 0)], M, J)) (fl_cs (o := some (.int (if (¬ (t < 0)) ∧ (¬ (3 < t)) then 1 else 0))) rfl rfl rfl (cc_105i M J t 0 3) rfl) <|
 fl_rt rfl (fun _ => rfl) (rfl)
def fB110 : sm_P := (fun pc => sm_ch sm_t110 pc, sm_Kn 3 2 none, fun x => sm_lk sm_ca3 x, some .int)
theorem cc_110 (M : fl_M) (J : fl_J) (v : Int32) : fl_C 110 [.ref 81, .int v] M J (some (.int 1), (fl_u M 81 11 v), J) :=
 fl_Co (B := fB110) rfl rfl <|
 fl_td (s' := (6, [.ref 81, .int v], [.int 1], (fl_u M 81 11 v), J)) (fl_n 4 rfl) <|
 fl_rt rfl (fun _ => rfl) (rfl)
def fB106 : sm_P := (fun pc => sm_ch sm_t106 pc, sm_Kn 3 2 none, fun x => sm_lk sm_ca3 x, some .int)
theorem cc_106 (M : fl_M) (J : fl_J) (v : Int32) : fl_C 106 [.ref 81, .int v] M J (some (.int (-3)), (fl_u (fl_u M 81 14 v) 91 v.toNatClampNeg ((M 91 v.toNatClampNeg) + 1)), J) :=
 fl_Co (B := fB106) rfl rfl <|
 fl_td (s' := (17, [.ref 81, .int v], [.int (-3)], (fl_u (fl_u M 81 14 v) 91 v.toNatClampNeg ((M 91 v.toNatClampNeg) + 1)), J)) (fl_n 12 rfl) <|
 fl_rt rfl (fun _ => rfl) (rfl)
def fB109 : sm_P := (fun pc => sm_ch sm_t109 pc, sm_Kn 3 3 none, fun x => sm_lk sm_ca3 x, some .int)
