theorem lp_0 (M : fl_M) (J : fl_J) (r n : Int32) : fl_dn fB0 (27, [.ref 0, .int r, .int n, .int 0], [], M, J) (some (.int n), fl_u (fl_f M (fl_ar 2 r.toNatClampNeg) n.toNatClampNeg 0) 1 r.toNatClampNeg n, J) := by
  have hb := fi_bd n
  refine fl_itd (S := fun m => (27, [.ref 0, .int r, .int n, .int (Int32.ofNat m)], [], fl_f M (fl_ar 2 r.toNatClampNeg) m 0, J)) n.toNatClampNeg (fun m hm => ?_) ?_ ?_
  · refine fl_ge (sg_0 _ J r n (Int32.ofNat m)) ?_
    rw [if_pos ((fi_lt (by omega)).mpr hm), fi_at (by omega), fi_s, fl_fs]
  · rw [fl_f0]
    rfl
  · refine fl_td (sg_0 _ J r n _) ?_
    rw [if_neg (fun z => absurd ((fi_lt (by omega)).mp z) (by omega))]
    exact fl_rt rfl (fun _ => rfl) rfl
theorem cc_0 (M : fl_M) (J : fl_J) (r n : Int32) : fl_C 0 [.ref 0, .int r, .int n] M J (some (.int (if (r < 0) ∨ (¬ (r < 6)) then (-1) else (if 40 < n then (-1) else (if n < 0 then (-3) else n)))), (if (r < 0) ∨ (¬ (r < 6)) then M else (if 40 < n then M else (if n < 0 then (fl_u (fl_u M 0 11 5) 80 5 ((M 80 5) + 1)) else (fl_u (fl_f M (fl_ar 2 r.toNatClampNeg) n.toNatClampNeg 0) 1 r.toNatClampNeg n)))), J) :=
 fl_Co (B := fB0) rfl rfl <|
 fl_td (s' := (1, [.ref 0, .int r, .int n, .null], [.int r], M, J)) (fl_n 1 rfl) <|
 fl_td (s' := (4, [.ref 0, .int r, .int n, .null], [.int (if (r < 0) ∨ (¬ (r < 6)) then 1 else 0)], M, J)) (fl_cs (o := some (.int (if (r < 0) ∨ (¬ (r < 6)) then 1 else 0))) rfl rfl rfl (cc_1 M J r) rfl) <|
 fl_dtwo (fl_if (t := 13) rfl rfl) fl_b1 (fun h1 =>
  fl_td (s' := (14, [.ref 0, .int r, .int n, .null], [.int (-1)], M, J)) (fl_n 1 rfl) <|
  fl_rt rfl (fun _ => rfl) (by first | (simp only [if_pos h1]; done) | rfl)) (fun h1 =>
  fl_td (s' := (10, [.ref 0, .int r, .int n, .null], [.int 40, .int n], M, J)) (fl_n 2 rfl) <|
  fl_dnot (fl_ic (t := 15) rfl rfl) fl_nle (fun h2 =>
   fl_td (s' := (14, [.ref 0, .int r, .int n, .null], [.int (-1)], M, J)) (fl_n 1 rfl) <|
   fl_rt rfl (fun _ => rfl) (by first | (simp only [if_neg h1, if_pos h2]; done) | rfl)) (fun h2 =>
   fl_td (s' := (16, [.ref 0, .int r, .int n, .null], [.int n], M, J)) (fl_n 1 rfl) <|
   fl_dnot (fl_if (t := 25) rfl rfl) fl_nlt (fun h3 =>
    fl_td (s' := (21, [.ref 0, .int r, .int n, .null], [.int 5, .ref 0], M, J)) (fl_n 2 rfl) <|
    fl_td (s' := (24, [.ref 0, .int r, .int n, .null], [.int (-3)], (fl_u (fl_u M 0 11 5) 80 5 ((M 80 5) + 1)), J)) (fl_cv (o := some (.int (-3))) rfl rfl rfl rfl (cc_2 M J 5) rfl) <|
    fl_rt rfl (fun _ => rfl) (by first | (simp only [if_neg h1, if_neg h2, if_pos h3]; done) | rfl)) (fun h3 =>
    fl_td (s' := (27, [.ref 0, .int r, .int n, .int 0], [], M, J)) (fl_n 2 rfl) <|
    fl_de (lp_0 M J r n) (by first | (simp only [if_neg h1, if_neg h2, if_neg h3]; done) | rfl))))
def fB107 : sm_P := (fun pc => sm_ch sm_t107 pc, sm_Kn 3 4 none, fun x => sm_lk sm_ca3 x, none)
theorem sg_107 (M : fl_M) (J : fl_J) (r n i : Int32) : fl_go fB107 (9, [.ref 81, .int r, .int n, .int i], [], M, J) (if i < 40 then (9, [.ref 81, .int r, .int n, .int (i + 1)], [], (fl_u M 88 (((40 * r) + i).toNatClampNeg) 0), J) else (33, [.ref 81, .int r, .int n, .int i], [], M, J)) :=
 fl_tr (s' := (12, [.ref 81, .int r, .int n, .int i], [.int 40, .int i], M, J)) (fl_n 2 rfl) <|
 fl_not (fl_ic (t := 33) rfl rfl) fl_nlt (fun h1 =>
  fl_tr (s' := (9, [.ref 81, .int r, .int n, .int (i + 1)], [], (fl_u M 88 (((40 * r) + i).toNatClampNeg) 0), J)) (fl_n 11 rfl) <|
  fl_rfl) (fun h1 =>
  fl_rfl)
theorem lp_107 (M : fl_M) (J : fl_J) (r n : Int32) (hr : (¬ (r < 0)) ∧ (¬ (5 < r))) : fl_dn fB107 (9, [.ref 81, .int r, .int n, .int 0], [], M, J) (none, fl_g M 88 (40 * r.toNatClampNeg) 40 0, J) := by
  have h1 := fi_ge.mp hr.1
  have h2 := fi_ge.mp hr.2
  rw [fi_i0] at h1
  rw [fi_i5] at h2
  refine fl_itd (S := fun m => (9, [.ref 81, .int r, .int n, .int (Int32.ofNat m)], [], fl_g M 88 (40 * r.toNatClampNeg) m 0, J)) 40 (fun m hm => ?_) ?_ ?_
  · refine fl_ge (sg_107 _ J r n (Int32.ofNat m)) ?_
    have e := fi_ti (m := m) (by omega)
    rw [if_pos ((fi_lt (by omega)).mpr hm), fi_40 h1 h2 (by omega) (by omega), fi_at (by omega), fi_s, fl_gs]
  · rw [fl_g0]
    rfl
  · refine fl_td (sg_107 _ J r n _) ?_
    rw [if_neg (by decide)]
    exact fl_rt rfl (fun _ => rfl) rfl
theorem cc_107 (M : fl_M) (J : fl_J) (r n : Int32) (hr : (¬ (r < 0)) ∧ (¬ (5 < r))) : fl_C 107 [.ref 81, .int r, .int n] M J (none, fl_g (fl_u M 87 r.toNatClampNeg n) 88 (40 * r.toNatClampNeg) 40 0, J) :=
 fl_Co (B := fB107) rfl rfl <|
 fl_td (s' := (9, [.ref 81, .int r, .int n, .int 0], [], fl_u M 87 r.toNatClampNeg n, J)) (fl_n 7 rfl) (lp_107 _ J r n hr)
def fB103 : sm_P := (fun pc => sm_ch sm_t103 pc, sm_Kn 3 3 none, fun x => sm_lk sm_ca3 x, some .int)
theorem cc_103 (M : fl_M) (J : fl_J) (r n : Int32) : fl_C 103 [.ref 81, .int r, .int n] M J (some (.int (if (¬ (r < 0)) ∧ (¬ (5 < r)) then (if 40 < n then (-1) else (if n < 0 then (-3) else n)) else (-1))), (if (¬ (r < 0)) ∧ (¬ (5 < r)) then (if 40 < n then M else (if n < 0 then (fl_u (fl_u M 81 14 5) 91 5 ((M 91 5) + 1)) else (fl_g (fl_u M 87 r.toNatClampNeg n) 88 (40 * r.toNatClampNeg) 40 0))) else M), J) :=
 fl_Co (B := fB103) rfl rfl <|
 fl_td (s' := (1, [.ref 81, .int r, .int n], [.int r], M, J)) (fl_n 1 rfl) <|
 fl_td (s' := (4, [.ref 81, .int r, .int n], [.int (if (¬ (r < 0)) ∧ (¬ (5 < r)) then 1 else 0)], M, J)) (fl_cs (o := some (.int (if (¬ (r < 0)) ∧ (¬ (5 < r)) then 1 else 0))) rfl rfl rfl (cc_104 M J r) rfl) <|
 fl_dnot (fl_if (t := 13) rfl rfl) fl_b0 (fun h1 =>
  fl_td (s' := (10, [.ref 81, .int r, .int n], [.int 40, .int n], M, J)) (fl_n 2 rfl) <|
  fl_dnot (fl_ic (t := 15) rfl rfl) fl_nle (fun h2 =>
   fl_td (s' := (14, [.ref 81, .int r, .int n], [.int (-1)], M, J)) (fl_n 1 rfl) <|
   fl_rt rfl (fun _ => rfl) (by first | (simp only [if_pos h1, if_pos h2]; done) | rfl)) (fun h2 =>
   fl_td (s' := (16, [.ref 81, .int r, .int n], [.int n], M, J)) (fl_n 1 rfl) <|
   fl_dnot (fl_if (t := 25) rfl rfl) fl_nlt (fun h3 =>
    fl_td (s' := (21, [.ref 81, .int r, .int n], [.int 5, .ref 81], M, J)) (fl_n 2 rfl) <|
    fl_td (s' := (24, [.ref 81, .int r, .int n], [.int (-3)], (fl_u (fl_u M 81 14 5) 91 5 ((M 91 5) + 1)), J)) (fl_cv (o := some (.int (-3))) rfl rfl rfl rfl (cc_106 M J 5) rfl) <|
    fl_rt rfl (fun _ => rfl) (by first | (simp only [if_pos h1, if_neg h2, if_pos h3]; done) | rfl)) (fun h3 =>
    fl_td (s' := (28, [.ref 81, .int r, .int n], [.int n, .int r, .ref 81], M, J)) (fl_n 3 rfl) <|
    fl_td (s' := (31, [.ref 81, .int r, .int n], [], (fl_g (fl_u M 87 r.toNatClampNeg n) 88 (40 * r.toNatClampNeg) 40 0), J)) (fl_cv (o := none) rfl rfl rfl rfl (cc_107 M J r n (by assumption)) rfl) <|
    fl_td (s' := (32, [.ref 81, .int r, .int n], [.int n], (fl_g (fl_u M 87 r.toNatClampNeg n) 88 (40 * r.toNatClampNeg) 40 0), J)) (fl_n 1 rfl) <|
    fl_rt rfl (fun _ => rfl) (by first | (simp only [if_pos h1, if_neg h2, if_neg h3]; done) | rfl)))) (fun h1 =>
  fl_td (s' := (14, [.ref 81, .int r, .int n], [.int (-1)], M, J)) (fl_n 1 rfl) <|
  fl_rt rfl (fun _ => rfl) (by first | (simp only [if_neg h1]; done) | rfl))
def fB116 : sm_P := (fun pc => sm_ch sm_t116 pc, sm_Kn 3 4 none, fun x => sm_lk sm_ca3 x, some .int)
theorem sg_116 (M : fl_M) (J : fl_J) (t n i : Int32) : fl_go fB116 (34, [.ref 81, .int t, .int n, .int i], [], M, J) (if i < 60 then (34, [.ref 81, .int t, .int n, .int (i + 1)], [], (fl_u M 90 (((60 * t) + i).toNatClampNeg) 32), J) else (60, [.ref 81, .int t, .int n, .int i], [.int n], M, J)) :=
 fl_tr (s' := (37, [.ref 81, .int t, .int n, .int i], [.int 60, .int i], M, J)) (fl_n 2 rfl) <|
 fl_not (fl_ic (t := 59) rfl rfl) fl_nlt (fun h1 =>
  fl_tr (s' := (34, [.ref 81, .int t, .int n, .int (i + 1)], [], (fl_u M 90 (((60 * t) + i).toNatClampNeg) 32), J)) (fl_n 11 rfl) <|
  fl_rfl) (fun h1 =>
  fl_tr (s' := (60, [.ref 81, .int t, .int n, .int i], [.int n], M, J)) (fl_n 1 rfl) <|
  fl_rfl)
theorem lp_116 (M : fl_M) (J : fl_J) (t n : Int32) (hr : (¬ (t < 0)) ∧ (¬ (3 < t))) : fl_dn fB116 (34, [.ref 81, .int t, .int n, .int 0], [], M, J) (some (.int n), fl_g M 90 (60 * t.toNatClampNeg) 60 32, J) := by
  have h1 := fi_ge.mp hr.1
  have h2 := fi_ge.mp hr.2
  rw [fi_i0] at h1
  rw [fi_i3] at h2
  refine fl_itd (S := fun m => (34, [.ref 81, .int t, .int n, .int (Int32.ofNat m)], [], fl_g M 90 (60 * t.toNatClampNeg) m 32, J)) 60 (fun m hm => ?_) ?_ ?_
  · refine fl_ge (sg_116 _ J t n (Int32.ofNat m)) ?_
    have e := fi_ti (m := m) (by omega)
    rw [if_pos ((fi_lt (by omega)).mpr hm), fi_60 h1 h2 (by omega) (by omega), fi_at (by omega), fi_s, fl_gs]
  · rw [fl_g0]
    rfl
  · refine fl_td (sg_116 _ J t n _) ?_
    rw [if_neg (by decide)]
    exact fl_rt rfl (fun _ => rfl) rfl
theorem cc_116 (M : fl_M) (J : fl_J) (t n : Int32) : fl_C 116 [.ref 81, .int t, .int n] M J (some (.int (if (¬ (t < 0)) ∧ (¬ (3 < t)) then (if 60 < n then (-1) else (if n < 0 then (-3) else n)) else (-1))), (if (¬ (t < 0)) ∧ (¬ (3 < t)) then (if 60 < n then M else (if n < 0 then (fl_u (fl_u M 81 14 5) 91 5 ((M 91 5) + 1)) else (fl_g (fl_u M 89 t.toNatClampNeg n) 90 (60 * t.toNatClampNeg) 60 32))) else M), J) :=
 fl_Co (B := fB116) rfl rfl <|
 fl_td (s' := (1, [.ref 81, .int t, .int n, .null], [.int t], M, J)) (fl_n 1 rfl) <|
 fl_td (s' := (4, [.ref 81, .int t, .int n, .null], [.int (if (¬ (t < 0)) ∧ (¬ (3 < t)) then 1 else 0)], M, J)) (fl_cs (o := some (.int (if (¬ (t < 0)) ∧ (¬ (3 < t)) then 1 else 0))) rfl rfl rfl (cc_117 M J t) rfl) <|
 fl_dnot (fl_if (t := 13) rfl rfl) fl_b0 (fun h1 =>
  fl_td (s' := (10, [.ref 81, .int t, .int n, .null], [.int 60, .int n], M, J)) (fl_n 2 rfl) <|
  fl_dnot (fl_ic (t := 15) rfl rfl) fl_nle (fun h2 =>
   fl_td (s' := (14, [.ref 81, .int t, .int n, .null], [.int (-1)], M, J)) (fl_n 1 rfl) <|
   fl_rt rfl (fun _ => rfl) (by first | (simp only [if_pos h1, if_pos h2]; done) | rfl)) (fun h2 =>
   fl_td (s' := (16, [.ref 81, .int t, .int n, .null], [.int n], M, J)) (fl_n 1 rfl) <|
   fl_dnot (fl_if (t := 25) rfl rfl) fl_nlt (fun h3 =>
    fl_td (s' := (21, [.ref 81, .int t, .int n, .null], [.int 5, .ref 81], M, J)) (fl_n 2 rfl) <|
    fl_td (s' := (24, [.ref 81, .int t, .int n, .null], [.int (-3)], (fl_u (fl_u M 81 14 5) 91 5 ((M 91 5) + 1)), J)) (fl_cv (o := some (.int (-3))) rfl rfl rfl rfl (cc_106 M J 5) rfl) <|
    fl_rt rfl (fun _ => rfl) (by first | (simp only [if_pos h1, if_neg h2, if_pos h3]; done) | rfl)) (fun h3 =>
    fl_td (s' := (34, [.ref 81, .int t, .int n, .int 0], [], (fl_u M 89 t.toNatClampNeg n), J)) (fl_n 7 rfl) <|
    fl_de (lp_116 (fl_u M 89 t.toNatClampNeg n) J t n (by assumption)) (by first | (simp only [if_pos h1, if_neg h2, if_neg h3]; done) | rfl)))) (fun h1 =>
  fl_td (s' := (14, [.ref 81, .int t, .int n, .null], [.int (-1)], M, J)) (fl_n 1 rfl) <|
  fl_rt rfl (fun _ => rfl) (by first | (simp only [if_neg h1]; done) | rfl))
def fB10 : sm_P := (fun pc => sm_ch sm_t10 pc, sm_Kn 2 6 none, fun x => sm_lk sm_ca2 x, some .int)
