def fB1 : sm_P := (fun pc => sm_ch sm_t1 pc, sm_Kn 2 1 none, fun x => sm_lk sm_ca2 x, some .boolean)
theorem cc_1 (M : fl_M) (J : fl_J) (r : Int32) : fl_C 1 [.int r] M J (some (.int (if (r < 0) ∨ (¬ (r < 6)) then 1 else 0)), M, J) :=
 fl_Co (B := fB1) rfl rfl <|
 fl_td (s' := (1, [.int r], [.int r], M, J)) (fl_n 1 rfl) <|
 fl_dtwo (fl_if (t := 10) rfl rfl) fl_cT (fun h1 =>
  fl_td (s' := (15, [.int r], [.int 1], M, J)) (fl_n 2 rfl) <|
  fl_rt rfl (fun _ => rfl) (by simp [h1])) (fun h1 =>
  fl_td (s' := (7, [.int r], [.int 6, .int r], M, J)) (fl_n 2 rfl) <|
  fl_dtwo (fl_ic (t := 14) rfl rfl) fl_cT (fun h2 =>
   fl_td (s' := (15, [.int r], [.int 0], M, J)) (fl_n 1 rfl) <|
   fl_rt rfl (fun _ => rfl) (by simp [h1, h2])) (fun h2 =>
   fl_td (s' := (15, [.int r], [.int 1], M, J)) (fl_n 2 rfl) <|
   fl_rt rfl (fun _ => rfl) (by simp [h1, h2])))
def fB12 : sm_P := (fun pc => sm_ch sm_t12 pc, sm_Kn 2 1 none, fun x => sm_lk sm_ca2 x, some .boolean)
theorem cc_12 (M : fl_M) (J : fl_J) (t : Int32) : fl_C 12 [.int t] M J (some (.int (if (t < 0) ∨ (¬ (t < 4)) then 1 else 0)), M, J) :=
 fl_Co (B := fB12) rfl rfl <|
 fl_td (s' := (1, [.int t], [.int t], M, J)) (fl_n 1 rfl) <|
 fl_dtwo (fl_if (t := 9) rfl rfl) fl_cT (fun h1 =>
  fl_td (s' := (14, [.int t], [.int 1], M, J)) (fl_n 2 rfl) <|
  fl_rt rfl (fun _ => rfl) (by simp [h1])) (fun h1 =>
  fl_td (s' := (6, [.int t], [.int 4, .int t], M, J)) (fl_n 2 rfl) <|
  fl_dtwo (fl_ic (t := 13) rfl rfl) fl_cT (fun h2 =>
   fl_td (s' := (14, [.int t], [.int 0], M, J)) (fl_n 1 rfl) <|
   fl_rt rfl (fun _ => rfl) (by simp [h1, h2])) (fun h2 =>
   fl_td (s' := (14, [.int t], [.int 1], M, J)) (fl_n 2 rfl) <|
   fl_rt rfl (fun _ => rfl) (by simp [h1, h2])))
def fB5 : sm_P := (fun pc => sm_ch sm_t5 pc, sm_Kn 2 2 none, fun x => sm_lk sm_ca2 x, some .int)
theorem cc_5 (M : fl_M) (J : fl_J) (v : Int32) : fl_C 5 [.ref 0, .int v] M J (some (.int 1), (fl_u M 0 12 v), J) :=
 fl_Co (B := fB5) rfl rfl <|
 fl_td (s' := (6, [.ref 0, .int v], [.int 1], (fl_u M 0 12 v), J)) (fl_n 4 rfl) <|
 fl_rt rfl (fun _ => rfl) (rfl)
def fB2 : sm_P := (fun pc => sm_ch sm_t2 pc, sm_Kn 2 2 none, fun x => sm_lk sm_ca2 x, some .int)
theorem cc_2 (M : fl_M) (J : fl_J) (v : Int32) : fl_C 2 [.ref 0, .int v] M J (some (.int (-3)), (fl_u (fl_u M 0 11 v) 80 v.toNatClampNeg ((M 80 v.toNatClampNeg) + 1)), J) :=
 fl_Co (B := fB2) rfl rfl <|
 fl_td (s' := (17, [.ref 0, .int v], [.int (-3)], (fl_u (fl_u M 0 11 v) 80 v.toNatClampNeg ((M 80 v.toNatClampNeg) + 1)), J)) (fl_n 12 rfl) <|
 fl_rt rfl (fun _ => rfl) (rfl)
def fB9 : sm_P := (fun pc => sm_ch sm_t9 pc, sm_Kn 2 3 none, fun x => sm_lk sm_ca2 x, some .boolean)
theorem cc_9 (M : fl_M) (J : fl_J) (i n v : Int32) : fl_C 9 [.int i, .int n, .int v] M J (some (.int (if (i < 0) ∨ ((v - n) < i) then 1 else 0)), M, J) :=
 fl_Co (B := fB9) rfl rfl <|
 fl_td (s' := (1, [.int i, .int n, .int v], [.int i], M, J)) (fl_n 1 rfl) <|
 fl_dtwo (fl_if (t := 11) rfl rfl) fl_cT (fun h1 =>
  fl_td (s' := (16, [.int i, .int n, .int v], [.int 1], M, J)) (fl_n 2 rfl) <|
  fl_rt rfl (fun _ => rfl) (by simp [h1])) (fun h1 =>
  fl_td (s' := (8, [.int i, .int n, .int v], [.int (v - n), .int i], M, J)) (fl_n 4 rfl) <|
  fl_dnot (fl_ic (t := 15) rfl rfl) fl_nle (fun h2 =>
   fl_td (s' := (16, [.int i, .int n, .int v], [.int 1], M, J)) (fl_n 2 rfl) <|
   fl_rt rfl (fun _ => rfl) (by simp [h1, h2])) (fun h2 =>
   fl_td (s' := (16, [.int i, .int n, .int v], [.int 0], M, J)) (fl_n 1 rfl) <|
   fl_rt rfl (fun _ => rfl) (by simp [h1, h2])))
def fB4 : sm_P := (fun pc => sm_ch sm_t4 pc, sm_Kn 2 3 none, fun x => sm_lk sm_ca2 x, some .int)
theorem cc_4 (M : fl_M) (J : fl_J) (r i : Int32) : fl_C 4 [.ref 0, .int r, .int i] M J (some (.int (if (r < 0) ∨ (¬ (r < 6)) then (-1) else (if (M 1 r.toNatClampNeg) = (-1) then (-3) else (if i < 0 then (-3) else (if i < (M 1 r.toNatClampNeg) then 0 else (-3)))))), (if (r < 0) ∨ (¬ (r < 6)) then M else (if (M 1 r.toNatClampNeg) = (-1) then (fl_u (fl_u M 0 11 1) 80 1 ((M 80 1) + 1)) else (if i < 0 then (fl_u (fl_u M 0 11 2) 80 2 ((M 80 2) + 1)) else (if i < (M 1 r.toNatClampNeg) then M else (fl_u (fl_u M 0 11 2) 80 2 ((M 80 2) + 1)))))), J) :=
 fl_Co (B := fB4) rfl rfl <|
 fl_td (s' := (1, [.ref 0, .int r, .int i], [.int r], M, J)) (fl_n 1 rfl) <|
 fl_td (s' := (4, [.ref 0, .int r, .int i], [.int (if (r < 0) ∨ (¬ (r < 6)) then 1 else 0)], M, J)) (fl_cs (o := some (.int (if (r < 0) ∨ (¬ (r < 6)) then 1 else 0))) rfl rfl rfl (cc_1 M J r) rfl) <|
 fl_dnot (fl_if (t := 9) rfl rfl) fl_b0 (fun h1 =>
  fl_td (s' := (8, [.ref 0, .int r, .int i], [.int (-1)], M, J)) (fl_n 1 rfl) <|
  fl_rt rfl (fun _ => rfl) (by first | (simp only [if_pos h1]; done) | rfl)) (fun h1 =>
  fl_td (s' := (16, [.ref 0, .int r, .int i], [.int (-1), .int (M 1 r.toNatClampNeg)], M, J)) (fl_n 5 rfl) <|
  fl_dnot (fl_ic (t := 25) rfl rfl) fl_cF (fun h2 =>
   fl_td (s' := (21, [.ref 0, .int r, .int i], [.int 1, .ref 0], M, J)) (fl_n 2 rfl) <|
   fl_td (s' := (24, [.ref 0, .int r, .int i], [.int (-3)], (fl_u (fl_u M 0 11 1) 80 1 ((M 80 1) + 1)), J)) (fl_cv (o := some (.int (-3))) rfl rfl rfl rfl (cc_2 M J 1) rfl) <|
   fl_rt rfl (fun _ => rfl) (by first | (simp only [if_neg h1, if_pos h2]; done) | rfl)) (fun h2 =>
   fl_td (s' := (26, [.ref 0, .int r, .int i], [.int i], M, J)) (fl_n 1 rfl) <|
   fl_dtwo (fl_if (t := 39) rfl rfl) fl_cT (fun h3 =>
    fl_td (s' := (41, [.ref 0, .int r, .int i], [.int 2, .ref 0], M, J)) (fl_n 2 rfl) <|
    fl_td (s' := (44, [.ref 0, .int r, .int i], [.int (-3)], (fl_u (fl_u M 0 11 2) 80 2 ((M 80 2) + 1)), J)) (fl_cv (o := some (.int (-3))) rfl rfl rfl rfl (cc_2 M J 2) rfl) <|
    fl_rt rfl (fun _ => rfl) (by first | (simp only [if_neg h1, if_neg h2, if_pos h3]; done) | rfl)) (fun h3 =>
    fl_td (s' := (36, [.ref 0, .int r, .int i], [.int (M 1 r.toNatClampNeg), .int i], M, J)) (fl_n 5 rfl) <|
    fl_dtwo (fl_ic (t := 45) rfl rfl) fl_cT (fun h4 =>
     fl_td (s' := (46, [.ref 0, .int r, .int i], [.int 0], M, J)) (fl_n 1 rfl) <|
     fl_rt rfl (fun _ => rfl) (by first | (simp only [if_neg h1, if_neg h2, if_neg h3, if_pos h4]; done) | rfl)) (fun h4 =>
     fl_td (s' := (41, [.ref 0, .int r, .int i], [.int 2, .ref 0], M, J)) (fl_n 2 rfl) <|
     fl_td (s' := (44, [.ref 0, .int r, .int i], [.int (-3)], (fl_u (fl_u M 0 11 2) 80 2 ((M 80 2) + 1)), J)) (fl_cv (o := some (.int (-3))) rfl rfl rfl rfl (cc_2 M J 2) rfl) <|
     fl_rt rfl (fun _ => rfl) (by first | (simp only [if_neg h1, if_neg h2, if_neg h3, if_neg h4]; done) | rfl)))))
def fB3 : sm_P := (fun pc => sm_ch sm_t3 pc, sm_Kn 2 6 none, fun x => sm_lk sm_ca2 x, some .int)
theorem cc_3 (M : fl_M) (J : fl_J) (r i v : Int32) : fl_C 3 [.ref 0, .int r, .int i, .int v] M J (some (.int (if (r < 0) ∨ (¬ (r < 6)) then (-1) else (if (M 1 r.toNatClampNeg) = (-1) then (-3) else (if i < 0 then (-3) else (if i < (M 1 r.toNatClampNeg) then 1 else (-3)))))), (if (r < 0) ∨ (¬ (r < 6)) then M else (if (M 1 r.toNatClampNeg) = (-1) then (fl_u (fl_u M 0 11 1) 80 1 ((M 80 1) + 1)) else (if i < 0 then (fl_u (fl_u M 0 11 2) 80 2 ((M 80 2) + 1)) else (if i < (M 1 r.toNatClampNeg) then (fl_u (fl_u M (fl_ar 2 r.toNatClampNeg) i.toNatClampNeg v) 0 12 (M (fl_ar 2 r.toNatClampNeg) i.toNatClampNeg)) else (fl_u (fl_u M 0 11 2) 80 2 ((M 80 2) + 1)))))), J) :=
 fl_Co (B := fB3) rfl rfl <|
 fl_td (s' := (3, [.ref 0, .int r, .int i, .int v, .null, .null], [.int i, .int r, .ref 0], M, J)) (fl_n 3 rfl) <|
 fl_dc (c := (r < 0) ∨ (¬ (r < 6))) (fun h1 =>
  fl_td (s' := (6, [.ref 0, .int r, .int i, .int v, .null, .null], [.int (-1)], M, J)) (fl_cv (o := some (.int (-1))) rfl rfl rfl rfl (fl_Ce (cc_4 M J r i) (by first | (simp only [if_pos h1]; done) | (simp only [if_pos h1]; rfl))) rfl) <|
  fl_td (s' := (15, [.ref 0, .int r, .int i, .int v, .int (-1), .null], [.int (-1)], M, J)) (fl_n 4 rfl) <|
  fl_rt rfl (fun _ => rfl) (by first | (simp only [if_pos h1]; done) | rfl)) (fun h1 =>
  fl_dc (c := (M 1 r.toNatClampNeg) = (-1)) (fun h2 =>
   fl_td (s' := (6, [.ref 0, .int r, .int i, .int v, .null, .null], [.int (-3)], (fl_u (fl_u M 0 11 1) 80 1 ((M 80 1) + 1)), J)) (fl_cv (o := some (.int (-3))) rfl rfl rfl rfl (fl_Ce (cc_4 M J r i) (by first | (simp only [if_neg h1, if_pos h2]; done) | (simp only [if_neg h1, if_pos h2]; rfl))) rfl) <|
   fl_td (s' := (15, [.ref 0, .int r, .int i, .int v, .int (-3), .null], [.int (-3)], (fl_u (fl_u M 0 11 1) 80 1 ((M 80 1) + 1)), J)) (fl_n 4 rfl) <|
   fl_rt rfl (fun _ => rfl) (by first | (simp only [if_neg h1, if_pos h2]; done) | rfl)) (fun h2 =>
   fl_dc (c := i < 0) (fun h3 =>
    fl_td (s' := (6, [.ref 0, .int r, .int i, .int v, .null, .null], [.int (-3)], (fl_u (fl_u M 0 11 2) 80 2 ((M 80 2) + 1)), J)) (fl_cv (o := some (.int (-3))) rfl rfl rfl rfl (fl_Ce (cc_4 M J r i) (by first | (simp only [if_neg h1, if_neg h2, if_pos h3]; done) | (simp only [if_neg h1, if_neg h2, if_pos h3]; rfl))) rfl) <|
    fl_td (s' := (15, [.ref 0, .int r, .int i, .int v, .int (-3), .null], [.int (-3)], (fl_u (fl_u M 0 11 2) 80 2 ((M 80 2) + 1)), J)) (fl_n 4 rfl) <|
    fl_rt rfl (fun _ => rfl) (by first | (simp only [if_neg h1, if_neg h2, if_pos h3]; done) | rfl)) (fun h3 =>
    fl_dc (c := i < (M 1 r.toNatClampNeg)) (fun h4 =>
     fl_td (s' := (6, [.ref 0, .int r, .int i, .int v, .null, .null], [.int 0], M, J)) (fl_cv (o := some (.int 0)) rfl rfl rfl rfl (fl_Ce (cc_4 M J r i) (by first | (simp only [if_neg h1, if_neg h2, if_neg h3, if_pos h4]; done) | (simp only [if_neg h1, if_neg h2, if_neg h3, if_pos h4]; rfl))) rfl) <|
     fl_td (s' := (38, [.ref 0, .int r, .int i, .int v, .int 0, .int (M (fl_ar 2 r.toNatClampNeg) i.toNatClampNeg)], [.int (M (fl_ar 2 r.toNatClampNeg) i.toNatClampNeg), .ref 0], (fl_u M (fl_ar 2 r.toNatClampNeg) i.toNatClampNeg v), J)) (fl_n 19 rfl) <|
     fl_td (s' := (41, [.ref 0, .int r, .int i, .int v, .int 0, .int (M (fl_ar 2 r.toNatClampNeg) i.toNatClampNeg)], [.int 1], (fl_u (fl_u M (fl_ar 2 r.toNatClampNeg) i.toNatClampNeg v) 0 12 (M (fl_ar 2 r.toNatClampNeg) i.toNatClampNeg)), J)) (fl_cv (o := some (.int 1)) rfl rfl rfl rfl (cc_5 (fl_u M (fl_ar 2 r.toNatClampNeg) i.toNatClampNeg v) J (M (fl_ar 2 r.toNatClampNeg) i.toNatClampNeg)) rfl) <|
     fl_rt rfl (fun _ => rfl) (by first | (simp only [if_neg h1, if_neg h2, if_neg h3, if_pos h4]; done) | rfl)) (fun h4 =>
     fl_td (s' := (6, [.ref 0, .int r, .int i, .int v, .null, .null], [.int (-3)], (fl_u (fl_u M 0 11 2) 80 2 ((M 80 2) + 1)), J)) (fl_cv (o := some (.int (-3))) rfl rfl rfl rfl (fl_Ce (cc_4 M J r i) (by first | (simp only [if_neg h1, if_neg h2, if_neg h3, if_neg h4]; done) | (simp only [if_neg h1, if_neg h2, if_neg h3, if_neg h4]; rfl))) rfl) <|
     fl_td (s' := (15, [.ref 0, .int r, .int i, .int v, .int (-3), .null], [.int (-3)], (fl_u (fl_u M 0 11 2) 80 2 ((M 80 2) + 1)), J)) (fl_n 4 rfl) <|
     fl_rt rfl (fun _ => rfl) (by first | (simp only [if_neg h1, if_neg h2, if_neg h3, if_neg h4]; done) | rfl)))))
