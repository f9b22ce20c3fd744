def fB6 : sm_P := (fun pc => sm_ch sm_t6 pc, sm_Kn 2 4 none, fun x => sm_lk sm_ca2 x, some .int)
theorem cc_6 (M : fl_M) (J : fl_J) (r i : Int32) : fl_C 6 [.ref 0, .int r, .int i] M J (some (.int (if (r < 0) ∨ (¬ (r < 6)) then (-1) else (if (M 1 r.toNatClampNeg) = (-1) then (-3) else (if i < 0 then (-3) else (if i < (M 1 r.toNatClampNeg) then 1 else (-3)))))), (if (r < 0) ∨ (¬ (r < 6)) then M else (if (M 1 r.toNatClampNeg) = (-1) then (fl_u (fl_u M 0 11 1) 80 1 ((M 80 1) + 1)) else (if i < 0 then (fl_u (fl_u M 0 11 2) 80 2 ((M 80 2) + 1)) else (if i < (M 1 r.toNatClampNeg) then (fl_u M 0 12 (M (fl_ar 2 r.toNatClampNeg) i.toNatClampNeg)) else (fl_u (fl_u M 0 11 2) 80 2 ((M 80 2) + 1)))))), J) :=
 fl_Co (B := fB6) rfl rfl <|
 fl_td (s' := (3, [.ref 0, .int r, .int i, .null], [.int i, .int r, .ref 0], M, J)) (fl_n 3 rfl) <|
 fl_dc (c := (r < 0) ∨ (¬ (r < 6))) (fun h1 =>
  fl_td (s' := (6, [.ref 0, .int r, .int i, .null], [.int (-1)], M, J)) (fl_cv (o := some (.int (-1))) rfl rfl rfl rfl (fl_Ce (cc_4 M J r i) (by first | (simp only [if_pos h1]; done) | (simp only [if_pos h1]; rfl))) rfl) <|
  fl_td (s' := (12, [.ref 0, .int r, .int i, .int (-1)], [.int (-1)], M, J)) (fl_n 4 rfl) <|
  fl_rt rfl (fun _ => rfl) (by first | (simp only [if_pos h1]; done) | rfl)) (fun h1 =>
  fl_dc (c := (M 1 r.toNatClampNeg) = (-1)) (fun h2 =>
   fl_td (s' := (6, [.ref 0, .int r, .int i, .null], [.int (-3)], (fl_u (fl_u M 0 11 1) 80 1 ((M 80 1) + 1)), J)) (fl_cv (o := some (.int (-3))) rfl rfl rfl rfl (fl_Ce (cc_4 M J r i) (by first | (simp only [if_neg h1, if_pos h2]; done) | (simp only [if_neg h1, if_pos h2]; rfl))) rfl) <|
   fl_td (s' := (12, [.ref 0, .int r, .int i, .int (-3)], [.int (-3)], (fl_u (fl_u M 0 11 1) 80 1 ((M 80 1) + 1)), J)) (fl_n 4 rfl) <|
   fl_rt rfl (fun _ => rfl) (by first | (simp only [if_neg h1, if_pos h2]; done) | rfl)) (fun h2 =>
   fl_dc (c := i < 0) (fun h3 =>
    fl_td (s' := (6, [.ref 0, .int r, .int i, .null], [.int (-3)], (fl_u (fl_u M 0 11 2) 80 2 ((M 80 2) + 1)), J)) (fl_cv (o := some (.int (-3))) rfl rfl rfl rfl (fl_Ce (cc_4 M J r i) (by first | (simp only [if_neg h1, if_neg h2, if_pos h3]; done) | (simp only [if_neg h1, if_neg h2, if_pos h3]; rfl))) rfl) <|
    fl_td (s' := (12, [.ref 0, .int r, .int i, .int (-3)], [.int (-3)], (fl_u (fl_u M 0 11 2) 80 2 ((M 80 2) + 1)), J)) (fl_n 4 rfl) <|
    fl_rt rfl (fun _ => rfl) (by first | (simp only [if_neg h1, if_neg h2, if_pos h3]; done) | rfl)) (fun h3 =>
    fl_dc (c := i < (M 1 r.toNatClampNeg)) (fun h4 =>
     fl_td (s' := (6, [.ref 0, .int r, .int i, .null], [.int 0], M, J)) (fl_cv (o := some (.int 0)) rfl rfl rfl rfl (fl_Ce (cc_4 M J r i) (by first | (simp only [if_neg h1, if_neg h2, if_neg h3, if_pos h4]; done) | (simp only [if_neg h1, if_neg h2, if_neg h3, if_pos h4]; rfl))) rfl) <|
     fl_td (s' := (22, [.ref 0, .int r, .int i, .int 0], [.int (M (fl_ar 2 r.toNatClampNeg) i.toNatClampNeg), .ref 0], M, J)) (fl_n 10 rfl) <|
     fl_td (s' := (25, [.ref 0, .int r, .int i, .int 0], [.int 1], (fl_u M 0 12 (M (fl_ar 2 r.toNatClampNeg) i.toNatClampNeg)), J)) (fl_cv (o := some (.int 1)) rfl rfl rfl rfl (cc_5 M J (M (fl_ar 2 r.toNatClampNeg) i.toNatClampNeg)) rfl) <|
     fl_rt rfl (fun _ => rfl) (by first | (simp only [if_neg h1, if_neg h2, if_neg h3, if_pos h4]; done) | rfl)) (fun h4 =>
     fl_td (s' := (6, [.ref 0, .int r, .int i, .null], [.int (-3)], (fl_u (fl_u M 0 11 2) 80 2 ((M 80 2) + 1)), J)) (fl_cv (o := some (.int (-3))) rfl rfl rfl rfl (fl_Ce (cc_4 M J r i) (by first | (simp only [if_neg h1, if_neg h2, if_neg h3, if_neg h4]; done) | (simp only [if_neg h1, if_neg h2, if_neg h3, if_neg h4]; rfl))) rfl) <|
     fl_td (s' := (12, [.ref 0, .int r, .int i, .int (-3)], [.int (-3)], (fl_u (fl_u M 0 11 2) 80 2 ((M 80 2) + 1)), J)) (fl_n 4 rfl) <|
     fl_rt rfl (fun _ => rfl) (by first | (simp only [if_neg h1, if_neg h2, if_neg h3, if_neg h4]; done) | rfl)))))
def fB7 : sm_P := (fun pc => sm_ch sm_t7 pc, sm_Kn 2 2 none, fun x => sm_lk sm_ca2 x, some .int)
theorem cc_7 (M : fl_M) (J : fl_J) (r : Int32) : fl_C 7 [.ref 0, .int r] M J (some (.int (if (r < 0) ∨ (¬ (r < 6)) then (-1) else (if (M 1 r.toNatClampNeg) = (-1) then (-3) else 1))), (if (r < 0) ∨ (¬ (r < 6)) then M else (if (M 1 r.toNatClampNeg) = (-1) then (fl_u (fl_u M 0 11 1) 80 1 ((M 80 1) + 1)) else (fl_u M 1 r.toNatClampNeg (-1)))), J) :=
 fl_Co (B := fB7) rfl rfl <|
 fl_td (s' := (1, [.ref 0, .int r], [.int r], M, J)) (fl_n 1 rfl) <|
 fl_td (s' := (4, [.ref 0, .int r], [.int (if (r < 0) ∨ (¬ (r < 6)) then 1 else 0)], M, J)) (fl_cs (o := some (.int (if (r < 0) ∨ (¬ (r < 6)) then 1 else 0))) rfl rfl rfl (cc_1 M J r) rfl) <|
 fl_dnot (fl_if (t := 9) rfl rfl) fl_b0 (fun h1 =>
  fl_td (s' := (8, [.ref 0, .int r], [.int (-1)], M, J)) (fl_n 1 rfl) <|
  fl_rt rfl (fun _ => rfl) (by first | (simp only [if_pos h1]; done) | rfl)) (fun h1 =>
  fl_td (s' := (16, [.ref 0, .int r], [.int (-1), .int (M 1 r.toNatClampNeg)], M, J)) (fl_n 5 rfl) <|
  fl_dnot (fl_ic (t := 25) rfl rfl) fl_cF (fun h2 =>
   fl_td (s' := (21, [.ref 0, .int r], [.int 1, .ref 0], M, J)) (fl_n 2 rfl) <|
   fl_td (s' := (24, [.ref 0, .int r], [.int (-3)], (fl_u (fl_u M 0 11 1) 80 1 ((M 80 1) + 1)), J)) (fl_cv (o := some (.int (-3))) rfl rfl rfl rfl (cc_2 M J 1) rfl) <|
   fl_rt rfl (fun _ => rfl) (by first | (simp only [if_neg h1, if_pos h2]; done) | rfl)) (fun h2 =>
   fl_td (s' := (33, [.ref 0, .int r], [.int 1], (fl_u M 1 r.toNatClampNeg (-1)), J)) (fl_n 6 rfl) <|
   fl_rt rfl (fun _ => rfl) (by first | (simp only [if_neg h1, if_neg h2]; done) | rfl)))
def fB13 : sm_P := (fun pc => sm_ch sm_t13 pc, sm_Kn 2 5 none, fun x => sm_lk sm_ca2 x, some .int)
theorem cc_13 (M : fl_M) (J : fl_J) (t i v : Int32) : fl_C 13 [.ref 0, .int t, .int i, .int v] M J (some (.int (if (t < 0) ∨ (¬ (t < 4)) then (-1) else (if (M 9 t.toNatClampNeg) = (-1) then (-3) else (if i < 0 then (-3) else (if i < (M 9 t.toNatClampNeg) then (M (fl_ar 10 t.toNatClampNeg) i.toNatClampNeg) + 1000 else (-3)))))), (if (t < 0) ∨ (¬ (t < 4)) then M else (if (M 9 t.toNatClampNeg) = (-1) then (fl_u (fl_u M 0 11 1) 80 1 ((M 80 1) + 1)) else (if i < 0 then (fl_u (fl_u M 0 11 2) 80 2 ((M 80 2) + 1)) else (if i < (M 9 t.toNatClampNeg) then (fl_u M (fl_ar 10 t.toNatClampNeg) i.toNatClampNeg (vp_nar .byte v.toInt8.toInt32)) else (fl_u (fl_u M 0 11 2) 80 2 ((M 80 2) + 1)))))), J) :=
 fl_Co (B := fB13) rfl rfl <|
 fl_td (s' := (1, [.ref 0, .int t, .int i, .int v, .null], [.int t], M, J)) (fl_n 1 rfl) <|
 fl_td (s' := (4, [.ref 0, .int t, .int i, .int v, .null], [.int (if (t < 0) ∨ (¬ (t < 4)) then 1 else 0)], M, J)) (fl_cs (o := some (.int (if (t < 0) ∨ (¬ (t < 4)) then 1 else 0))) rfl rfl rfl (cc_12 M J t) rfl) <|
 fl_dnot (fl_if (t := 9) rfl rfl) fl_b0 (fun h1 =>
  fl_td (s' := (8, [.ref 0, .int t, .int i, .int v, .null], [.int (-1)], M, J)) (fl_n 1 rfl) <|
  fl_rt rfl (fun _ => rfl) (by first | (simp only [if_pos h1]; done) | rfl)) (fun h1 =>
  fl_td (s' := (16, [.ref 0, .int t, .int i, .int v, .null], [.int (-1), .int (M 9 t.toNatClampNeg)], M, J)) (fl_n 5 rfl) <|
  fl_dnot (fl_ic (t := 25) rfl rfl) fl_cF (fun h2 =>
   fl_td (s' := (21, [.ref 0, .int t, .int i, .int v, .null], [.int 1, .ref 0], M, J)) (fl_n 2 rfl) <|
   fl_td (s' := (24, [.ref 0, .int t, .int i, .int v, .null], [.int (-3)], (fl_u (fl_u M 0 11 1) 80 1 ((M 80 1) + 1)), J)) (fl_cv (o := some (.int (-3))) rfl rfl rfl rfl (cc_2 M J 1) rfl) <|
   fl_rt rfl (fun _ => rfl) (by first | (simp only [if_neg h1, if_pos h2]; done) | rfl)) (fun h2 =>
   fl_td (s' := (26, [.ref 0, .int t, .int i, .int v, .null], [.int i], M, J)) (fl_n 1 rfl) <|
   fl_dtwo (fl_if (t := 39) rfl rfl) fl_cT (fun h3 =>
    fl_td (s' := (41, [.ref 0, .int t, .int i, .int v, .null], [.int 2, .ref 0], M, J)) (fl_n 2 rfl) <|
    fl_td (s' := (44, [.ref 0, .int t, .int i, .int v, .null], [.int (-3)], (fl_u (fl_u M 0 11 2) 80 2 ((M 80 2) + 1)), J)) (fl_cv (o := some (.int (-3))) rfl rfl rfl rfl (cc_2 M J 2) rfl) <|
    fl_rt rfl (fun _ => rfl) (by first | (simp only [if_neg h1, if_neg h2, if_pos h3]; done) | rfl)) (fun h3 =>
    fl_td (s' := (36, [.ref 0, .int t, .int i, .int v, .null], [.int (M 9 t.toNatClampNeg), .int i], M, J)) (fl_n 5 rfl) <|
    fl_dtwo (fl_ic (t := 45) rfl rfl) fl_cT (fun h4 =>
     fl_td (s' := (71, [.ref 0, .int t, .int i, .int v, .int (M (fl_ar 10 t.toNatClampNeg) i.toNatClampNeg)], [.int ((M (fl_ar 10 t.toNatClampNeg) i.toNatClampNeg) + 1000)], (fl_u M (fl_ar 10 t.toNatClampNeg) i.toNatClampNeg (vp_nar .byte v.toInt8.toInt32)), J)) (fl_n 18 rfl) <|
     fl_rt rfl (fun _ => rfl) (by first | (simp only [if_neg h1, if_neg h2, if_neg h3, if_pos h4]; done) | rfl)) (fun h4 =>
     fl_td (s' := (41, [.ref 0, .int t, .int i, .int v, .null], [.int 2, .ref 0], M, J)) (fl_n 2 rfl) <|
     fl_td (s' := (44, [.ref 0, .int t, .int i, .int v, .null], [.int (-3)], (fl_u (fl_u M 0 11 2) 80 2 ((M 80 2) + 1)), J)) (fl_cv (o := some (.int (-3))) rfl rfl rfl rfl (cc_2 M J 2) rfl) <|
     fl_rt rfl (fun _ => rfl) (by first | (simp only [if_neg h1, if_neg h2, if_neg h3, if_neg h4]; done) | rfl)))))
def fB11 : sm_P := (fun pc => sm_ch sm_t11 pc, sm_Kn 2 4 none, fun x => sm_lk sm_ca2 x, some .int)
theorem sg_11 (M : fl_M) (J : fl_J) (t n i : Int32) : fl_go fB11 (27, [.ref 0, .int t, .int n, .int i], [], M, J) (if i < n then (27, [.ref 0, .int t, .int n, .int (i + 1)], [], (fl_u M (fl_ar 10 t.toNatClampNeg) i.toNatClampNeg (vp_nar .byte 32)), J) else (56, [.ref 0, .int t, .int n, .int i], [.int n], (fl_u M 9 t.toNatClampNeg n), J)) :=
 fl_tr (s' := (29, [.ref 0, .int t, .int n, .int i], [.int n, .int i], M, J)) (fl_n 2 rfl) <|
 fl_not (fl_ic (t := 48) rfl rfl) fl_nlt (fun h1 =>
  fl_tr (s' := (27, [.ref 0, .int t, .int n, .int (i + 1)], [], (fl_u M (fl_ar 10 t.toNatClampNeg) i.toNatClampNeg (vp_nar .byte 32)), J)) (fl_n 9 rfl) <|
  fl_rfl) (fun h1 =>
  fl_tr (s' := (56, [.ref 0, .int t, .int n, .int i], [.int n], (fl_u M 9 t.toNatClampNeg n), J)) (fl_n 6 rfl) <|
  fl_rfl)
theorem lp_11 (M : fl_M) (J : fl_J) (t n : Int32) : fl_dn fB11 (27, [.ref 0, .int t, .int n, .int 0], [], M, J) (some (.int n), fl_u (fl_f M (fl_ar 10 t.toNatClampNeg) n.toNatClampNeg 32) 9 t.toNatClampNeg n, J) := by
  have hb := fi_bd n
  refine fl_itd (S := fun m => (27, [.ref 0, .int t, .int n, .int (Int32.ofNat m)], [], fl_f M (fl_ar 10 t.toNatClampNeg) m 32, J)) n.toNatClampNeg (fun m hm => ?_) ?_ ?_
  · refine fl_ge (sg_11 _ J t n (Int32.ofNat m)) ?_
    rw [if_pos ((fi_lt (by omega)).mpr hm), fi_at (by omega), fi_s, show vp_nar .byte 32 = 32 from rfl, fl_fs]
  · rw [fl_f0]
    rfl
  · refine fl_td (sg_11 _ J t n _) ?_
    rw [if_neg (fun z => absurd ((fi_lt (by omega)).mp z) (by omega))]
    exact fl_rt rfl (fun _ => rfl) rfl
