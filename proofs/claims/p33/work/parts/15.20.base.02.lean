def fB115 : sm_P := (fun pc => sm_ch sm_t115 pc, sm_Kn 3 5 none, fun x => sm_lk sm_ca3 x, some .int)
theorem sg_115 (M : fl_M) (J : fl_J) (r i : Int32) (s : Int64) : fl_go fB115 (44, [.ref 81, .int r, .long s, .null, .int i], [], M, J) (if i < (M 87 r.toNatClampNeg) then (44, [.ref 81, .int r, .long (s + ((M 88 (((40 * r) + i).toNatClampNeg)).toInt64)), .null, .int (i + 1)], [], M, J) else (91, [.ref 81, .int r, .long s, .null, .int i], [.int 1], (fl_u M 81 11 ((s / ((M 87 r.toNatClampNeg).toInt64)).toInt32)), J)) :=
 fl_tr (s' := (52, [.ref 81, .int r, .long s, .null, .int i], [.int (M 87 r.toNatClampNeg), .int i], M, J)) (fl_n 5 rfl) <|
 fl_not (fl_ic (t := 77) rfl rfl) fl_nlt (fun h1 =>
  fl_tr (s' := (44, [.ref 81, .int r, .long (s + ((M 88 (((40 * r) + i).toNatClampNeg)).toInt64)), .null, .int (i + 1)], [], M, J)) (fl_n 14 rfl) <|
  fl_rfl) (fun h1 =>
  fl_tr (s' := (88, [.ref 81, .int r, .long s, .null, .int i], [.int ((s / ((M 87 r.toNatClampNeg).toInt64)).toInt32), .ref 81], M, J)) (fl_n 9 rfl) <|
  fl_tr (s' := (91, [.ref 81, .int r, .long s, .null, .int i], [.int 1], (fl_u M 81 11 ((s / ((M 87 r.toNatClampNeg).toInt64)).toInt32)), J)) (fl_cv (o := some (.int 1)) rfl rfl rfl rfl (cc_110 M J ((s / ((M 87 r.toNatClampNeg).toInt64)).toInt32)) rfl) <|
  fl_rfl)
theorem lp_115 (M : fl_M) (J : fl_J) (r : Int32) (hr : (¬ (r < 0)) ∧ (¬ (5 < r))) (hn : (M 87 r.toNatClampNeg).toInt ≤ 40) : fl_dn fB115 (44, [.ref 81, .int r, .long 0, .null, .int 0], [], M, J) (some (.int 1), fl_u M 81 11 (fl_sm (fun k => M 88 (40 * r.toNatClampNeg + k)) (M 87 r.toNatClampNeg).toNatClampNeg / (M 87 r.toNatClampNeg).toInt64).toInt32, J) := by
  have h1 := fi_ge.mp hr.1
  have h2 := fi_ge.mp hr.2
  rw [fi_i0] at h1
  rw [fi_i5] at h2
  have hb := fi_bd (M 87 r.toNatClampNeg)
  have hc := fi_cl (M 87 r.toNatClampNeg)
  refine fl_itd (S := fun m => (44, [.ref 81, .int r, .long (fl_sm (fun k => M 88 (40 * r.toNatClampNeg + k)) m), .null, .int (Int32.ofNat m)], [], M, J)) (M 87 r.toNatClampNeg).toNatClampNeg (fun m hm => ?_) ?_ ?_
  · refine fl_ge (sg_115 _ J r (Int32.ofNat m) _) ?_
    have e := fi_ti (m := m) (by omega)
    rw [if_pos ((fi_lt (by omega)).mpr hm), fi_40 h1 h2 (by omega) (by omega), fi_at (by omega), fi_s]
    rfl
  · rfl
  · refine fl_td (sg_115 _ J r _ _) ?_
    rw [if_neg (fun z => absurd ((fi_lt (by omega)).mp z) (by omega))]
    exact fl_rt rfl (fun _ => rfl) rfl
theorem cc_115 (M : fl_M) (J : fl_J) (r : Int32) (hn : ∀ q, q < 6 → (M 87 q).toInt ≤ 40) : fl_C 115 [.ref 81, .int r] M J (some (.int (if (¬ (r < 0)) ∧ (¬ (5 < r)) then (if (M 87 r.toNatClampNeg) < 0 then (-3) else (if (M 87 r.toNatClampNeg) = 0 then (-3) else 1)) else (-1))), (if (¬ (r < 0)) ∧ (¬ (5 < r)) then (if (M 87 r.toNatClampNeg) < 0 then (fl_u (fl_u M 81 14 1) 91 1 ((M 91 1) + 1)) else (if (M 87 r.toNatClampNeg) = 0 then (fl_u (fl_u M 81 14 4) 91 4 ((M 91 4) + 1)) else (fl_u M 81 11 (fl_sm (fun k => M 88 (40 * r.toNatClampNeg + k)) (M 87 r.toNatClampNeg).toNatClampNeg / (M 87 r.toNatClampNeg).toInt64).toInt32))) else M), J) :=
 fl_Co (B := fB115) rfl rfl <|
 fl_td (s' := (1, [.ref 81, .int r, .null, .null, .null], [.int r], M, J)) (fl_n 1 rfl) <|
 fl_td (s' := (4, [.ref 81, .int r, .null, .null, .null], [.int (if (¬ (r < 0)) ∧ (¬ (5 < r)) then 1 else 0)], M, J)) (fl_cs (o := some (.int (if (¬ (r < 0)) ∧ (¬ (5 < r)) then 1 else 0))) rfl rfl rfl (cc_104 M J r) rfl) <|
 fl_dtwo (fl_if (t := 9) rfl rfl) fl_b1 (fun h1 =>
  fl_td (s' := (15, [.ref 81, .int r, .null, .null, .null], [.int (M 87 r.toNatClampNeg)], M, J)) (fl_n 4 rfl) <|
  fl_dnot (fl_if (t := 24) rfl rfl) fl_nlt (fun h2 =>
   fl_td (s' := (20, [.ref 81, .int r, .null, .null, .null], [.int 1, .ref 81], M, J)) (fl_n 2 rfl) <|
   fl_td (s' := (23, [.ref 81, .int r, .null, .null, .null], [.int (-3)], (fl_u (fl_u M 81 14 1) 91 1 ((M 91 1) + 1)), J)) (fl_cv (o := some (.int (-3))) rfl rfl rfl rfl (cc_106 M J 1) rfl) <|
   fl_rt rfl (fun _ => rfl) (by first | (simp only [if_pos h1, if_pos h2]; done) | rfl)) (fun h2 =>
   fl_td (s' := (30, [.ref 81, .int r, .null, .null, .null], [.int (M 87 r.toNatClampNeg)], M, J)) (fl_n 4 rfl) <|
   fl_dnot (fl_if (t := 39) rfl rfl) fl_cF (fun h3 =>
    fl_td (s' := (35, [.ref 81, .int r, .null, .null, .null], [.int 4, .ref 81], M, J)) (fl_n 2 rfl) <|
    fl_td (s' := (38, [.ref 81, .int r, .null, .null, .null], [.int (-3)], (fl_u (fl_u M 81 14 4) 91 4 ((M 91 4) + 1)), J)) (fl_cv (o := some (.int (-3))) rfl rfl rfl rfl (cc_106 M J 4) rfl) <|
    fl_rt rfl (fun _ => rfl) (by first | (simp only [if_pos h1, if_neg h2, if_pos h3]; done) | rfl)) (fun h3 =>
    fl_td (s' := (44, [.ref 81, .int r, .long 0, .null, .int 0], [], M, J)) (fl_n 4 rfl) <|
    fl_de (lp_115 M J r (by assumption) (hn _ (fi_r6 (by assumption)))) (by first | (simp only [if_pos h1, if_neg h2, if_neg h3]; done) | rfl)))) (fun h1 =>
  fl_td (s' := (8, [.ref 81, .int r, .null, .null, .null], [.int (-1)], M, J)) (fl_n 1 rfl) <|
  fl_rt rfl (fun _ => rfl) (by first | (simp only [if_neg h1]; done) | rfl))
def fB8 : sm_P := (fun pc => sm_ch sm_t8 pc, sm_Kn 2 6 none, fun x => sm_lk sm_ca2 x, some .int)
theorem cc_8 (M : fl_M) (J : fl_J) (r i to j n : Int32) : fl_C 8 [.ref 0, .int r, .int i, .int to, .int j, .int n] M J (some (.int (if (r < 0) ∨ (¬ (r < 6)) then (-1) else (if (to < 0) ∨ (¬ (to < 6)) then (-1) else (if n < 0 then (-3) else (if (M 1 r.toNatClampNeg) = (-1) then (-3) else (if (M 1 to.toNatClampNeg) = (-1) then (-3) else (if (i < 0) ∨ (((M 1 r.toNatClampNeg) - n) < i) then (-3) else (if (j < 0) ∨ (((M 1 to.toNatClampNeg) - n) < j) then (-3) else 1)))))))), (if (r < 0) ∨ (¬ (r < 6)) then M else (if (to < 0) ∨ (¬ (to < 6)) then M else (if n < 0 then (fl_u (fl_u M 0 11 5) 80 5 ((M 80 5) + 1)) else (if (M 1 r.toNatClampNeg) = (-1) then (fl_u (fl_u M 0 11 1) 80 1 ((M 80 1) + 1)) else (if (M 1 to.toNatClampNeg) = (-1) then (fl_u (fl_u M 0 11 1) 80 1 ((M 80 1) + 1)) else (if (i < 0) ∨ (((M 1 r.toNatClampNeg) - n) < i) then (fl_u (fl_u M 0 11 2) 80 2 ((M 80 2) + 1)) else (if (j < 0) ∨ (((M 1 to.toNatClampNeg) - n) < j) then (fl_u (fl_u M 0 11 2) 80 2 ((M 80 2) + 1)) else (fl_y M (fl_ar 2 r.toNatClampNeg) i.toNatClampNeg (fl_ar 2 to.toNatClampNeg) j.toNatClampNeg n.toNatClampNeg)))))))), J) :=
 fl_Co (B := fB8) rfl rfl <|
 fl_td (s' := (1, [.ref 0, .int r, .int i, .int to, .int j, .int n], [.int r], M, J)) (fl_n 1 rfl) <|
 fl_td (s' := (4, [.ref 0, .int r, .int i, .int to, .int j, .int n], [.int (if (r < 0) ∨ (¬ (r < 6)) then 1 else 0)], M, J)) (fl_cs (o := some (.int (if (r < 0) ∨ (¬ (r < 6)) then 1 else 0))) rfl rfl rfl (cc_1 M J r) rfl) <|
 fl_dtwo (fl_if (t := 14) rfl rfl) fl_b1 (fun h1 =>
  fl_td (s' := (15, [.ref 0, .int r, .int i, .int to, .int j, .int n], [.int (-1)], M, J)) (fl_n 1 rfl) <|
  fl_rt rfl (fun _ => rfl) (by first | (simp only [if_pos h1]; done) | rfl)) (fun h1 =>
  fl_td (s' := (8, [.ref 0, .int r, .int i, .int to, .int j, .int n], [.int to], M, J)) (fl_n 1 rfl) <|
  fl_td (s' := (11, [.ref 0, .int r, .int i, .int to, .int j, .int n], [.int (if (to < 0) ∨ (¬ (to < 6)) then 1 else 0)], M, J)) (fl_cs (o := some (.int (if (to < 0) ∨ (¬ (to < 6)) then 1 else 0))) rfl rfl rfl (cc_1 M J to) rfl) <|
  fl_dnot (fl_if (t := 16) rfl rfl) fl_b0 (fun h2 =>
   fl_td (s' := (15, [.ref 0, .int r, .int i, .int to, .int j, .int n], [.int (-1)], M, J)) (fl_n 1 rfl) <|
   fl_rt rfl (fun _ => rfl) (by first | (simp only [if_neg h1, if_pos h2]; done) | rfl)) (fun h2 =>
   fl_td (s' := (18, [.ref 0, .int r, .int i, .int to, .int j, .int n], [.int n], M, J)) (fl_n 1 rfl) <|
   fl_dnot (fl_if (t := 27) rfl rfl) fl_nlt (fun h3 =>
    fl_td (s' := (23, [.ref 0, .int r, .int i, .int to, .int j, .int n], [.int 5, .ref 0], M, J)) (fl_n 2 rfl) <|
    fl_td (s' := (26, [.ref 0, .int r, .int i, .int to, .int j, .int n], [.int (-3)], (fl_u (fl_u M 0 11 5) 80 5 ((M 80 5) + 1)), J)) (fl_cv (o := some (.int (-3))) rfl rfl rfl rfl (cc_2 M J 5) rfl) <|
    fl_rt rfl (fun _ => rfl) (by first | (simp only [if_neg h1, if_neg h2, if_pos h3]; done) | rfl)) (fun h3 =>
    fl_td (s' := (34, [.ref 0, .int r, .int i, .int to, .int j, .int n], [.int (-1), .int (M 1 r.toNatClampNeg)], M, J)) (fl_n 5 rfl) <|
    fl_dtwo (fl_ic (t := 47) rfl rfl) fl_cT (fun h4 =>
     fl_td (s' := (49, [.ref 0, .int r, .int i, .int to, .int j, .int n], [.int 1, .ref 0], M, J)) (fl_n 2 rfl) <|
     fl_td (s' := (52, [.ref 0, .int r, .int i, .int to, .int j, .int n], [.int (-3)], (fl_u (fl_u M 0 11 1) 80 1 ((M 80 1) + 1)), J)) (fl_cv (o := some (.int (-3))) rfl rfl rfl rfl (cc_2 M J 1) rfl) <|
     fl_rt rfl (fun _ => rfl) (by first | (simp only [if_neg h1, if_neg h2, if_neg h3, if_pos h4]; done) | rfl)) (fun h4 =>
     fl_td (s' := (44, [.ref 0, .int r, .int i, .int to, .int j, .int n], [.int (-1), .int (M 1 to.toNatClampNeg)], M, J)) (fl_n 5 rfl) <|
     fl_dnot (fl_ic (t := 53) rfl rfl) fl_cF (fun h5 =>
      fl_td (s' := (49, [.ref 0, .int r, .int i, .int to, .int j, .int n], [.int 1, .ref 0], M, J)) (fl_n 2 rfl) <|
      fl_td (s' := (52, [.ref 0, .int r, .int i, .int to, .int j, .int n], [.int (-3)], (fl_u (fl_u M 0 11 1) 80 1 ((M 80 1) + 1)), J)) (fl_cv (o := some (.int (-3))) rfl rfl rfl rfl (cc_2 M J 1) rfl) <|
      fl_rt rfl (fun _ => rfl) (by first | (simp only [if_neg h1, if_neg h2, if_neg h3, if_neg h4, if_pos h5]; done) | rfl)) (fun h5 =>
      fl_td (s' := (62, [.ref 0, .int r, .int i, .int to, .int j, .int n], [.int (M 1 r.toNatClampNeg), .int n, .int i], M, J)) (fl_n 6 rfl) <|
      fl_td (s' := (65, [.ref 0, .int r, .int i, .int to, .int j, .int n], [.int (if (i < 0) ∨ (((M 1 r.toNatClampNeg) - n) < i) then 1 else 0)], M, J)) (fl_cs (o := some (.int (if (i < 0) ∨ (((M 1 r.toNatClampNeg) - n) < i) then 1 else 0))) rfl rfl rfl (cc_9 M J i n (M 1 r.toNatClampNeg)) rfl) <|
      fl_dtwo (fl_if (t := 84) rfl rfl) fl_b1 (fun h6 =>
       fl_td (s' := (86, [.ref 0, .int r, .int i, .int to, .int j, .int n], [.int 2, .ref 0], M, J)) (fl_n 2 rfl) <|
       fl_td (s' := (89, [.ref 0, .int r, .int i, .int to, .int j, .int n], [.int (-3)], (fl_u (fl_u M 0 11 2) 80 2 ((M 80 2) + 1)), J)) (fl_cv (o := some (.int (-3))) rfl rfl rfl rfl (cc_2 M J 2) rfl) <|
       fl_rt rfl (fun _ => rfl) (by first | (simp only [if_neg h1, if_neg h2, if_neg h3, if_neg h4, if_neg h5, if_pos h6]; done) | rfl)) (fun h6 =>
       fl_td (s' := (78, [.ref 0, .int r, .int i, .int to, .int j, .int n], [.int (M 1 to.toNatClampNeg), .int n, .int j], M, J)) (fl_n 6 rfl) <|
       fl_td (s' := (81, [.ref 0, .int r, .int i, .int to, .int j, .int n], [.int (if (j < 0) ∨ (((M 1 to.toNatClampNeg) - n) < j) then 1 else 0)], M, J)) (fl_cs (o := some (.int (if (j < 0) ∨ (((M 1 to.toNatClampNeg) - n) < j) then 1 else 0))) rfl rfl rfl (cc_9 M J j n (M 1 to.toNatClampNeg)) rfl) <|
       fl_dnot (fl_if (t := 90) rfl rfl) fl_b0 (fun h7 =>
        fl_td (s' := (86, [.ref 0, .int r, .int i, .int to, .int j, .int n], [.int 2, .ref 0], M, J)) (fl_n 2 rfl) <|
        fl_td (s' := (89, [.ref 0, .int r, .int i, .int to, .int j, .int n], [.int (-3)], (fl_u (fl_u M 0 11 2) 80 2 ((M 80 2) + 1)), J)) (fl_cv (o := some (.int (-3))) rfl rfl rfl rfl (cc_2 M J 2) rfl) <|
        fl_rt rfl (fun _ => rfl) (by first | (simp only [if_neg h1, if_neg h2, if_neg h3, if_neg h4, if_neg h5, if_neg h6, if_pos h7]; done) | rfl)) (fun h7 =>
        fl_td (s' := (111, [.ref 0, .int r, .int i, .int to, .int j, .int n], [.int 1], (fl_y M (fl_ar 2 r.toNatClampNeg) i.toNatClampNeg (fl_ar 2 to.toNatClampNeg) j.toNatClampNeg n.toNatClampNeg), J)) (fl_n 13 rfl) <|
        fl_rt rfl (fun _ => rfl) (by first | (simp only [if_neg h1, if_neg h2, if_neg h3, if_neg h4, if_neg h5, if_neg h6, if_neg h7]; done) | rfl))))))))
def fB114 : sm_P := (fun pc => sm_ch sm_t114 pc, sm_Kn 3 4 none, fun x => sm_lk sm_ca3 x, some .boolean)
theorem cc_114 (M : fl_M) (J : fl_J) (r i n : Int32) : fl_C 114 [.ref 81, .int r, .int i, .int n] M J (some (.int (if (¬ (i < 0)) ∧ (¬ (((M 87 r.toNatClampNeg).toInt64) < (i.toInt64 + n.toInt64))) then 1 else 0)), M, J) :=
 fl_Co (B := fB114) rfl rfl <|
 fl_td (s' := (1, [.ref 81, .int r, .int i, .int n], [.int i], M, J)) (fl_n 1 rfl) <|
 fl_dtwo (fl_if (t := 24) rfl rfl) fl_cT (fun h1 =>
  fl_td (s' := (25, [.ref 81, .int r, .int i, .int n], [.int 0], M, J)) (fl_n 1 rfl) <|
  fl_rt rfl (fun _ => rfl) (by simp [h1])) (fun h1 =>
  fl_td (s' := (17, [.ref 81, .int r, .int i, .int n], [.int (lg_cmp (i.toInt64 + n.toInt64) ((M 87 r.toNatClampNeg).toInt64))], M, J)) (fl_n 11 rfl) <|
  fl_dtwo (fl_if (t := 24) rfl rfl) fl_lgt (fun h2 =>
   fl_td (s' := (25, [.ref 81, .int r, .int i, .int n], [.int 0], M, J)) (fl_n 1 rfl) <|
   fl_rt rfl (fun _ => rfl) (by simp [h1, h2])) (fun h2 =>
   fl_td (s' := (25, [.ref 81, .int r, .int i, .int n], [.int 1], M, J)) (fl_n 2 rfl) <|
   fl_rt rfl (fun _ => rfl) (by simp [h1, h2])))
def fB113 : sm_P := (fun pc => sm_ch sm_t113 pc, sm_Kn 3 9 none, fun x => sm_lk sm_ca3 x, some .int)
theorem sg_113f (M : fl_M) (J : fl_J) (r i to j n k : Int32) (v8 : Value) : fl_go fB113 (96, [.ref 81, .int r, .int i, .int to, .int j, .int n, .int 0, .int k, v8], [], M, J) (if k < n then (96, [.ref 81, .int r, .int i, .int to, .int j, .int n, .int 0, .int (k + 1), .int k], [], (fl_u M 88 ((((40 * to) + j) + k).toNatClampNeg) (M 88 ((((40 * r) + i) + k).toNatClampNeg))), J) else (158, [.ref 81, .int r, .int i, .int to, .int j, .int n, .int 0, .int k, v8], [.int 1], M, J)) :=
 fl_tr (s' := (100, [.ref 81, .int r, .int i, .int to, .int j, .int n, .int 0, .int k, v8], [.int n, .int k], M, J)) (fl_n 2 rfl) <|
 fl_not (fl_ic (t := 157) rfl rfl) fl_nlt (fun h1 =>
  fl_tr (s' := (96, [.ref 81, .int r, .int i, .int to, .int j, .int n, .int 0, .int (k + 1), .int k], [], (fl_u M 88 ((((40 * to) + j) + k).toNatClampNeg) (M 88 ((((40 * r) + i) + k).toNatClampNeg))), J)) (fl_n 26 rfl) <|
  fl_rfl) (fun h1 =>
  fl_tr (s' := (158, [.ref 81, .int r, .int i, .int to, .int j, .int n, .int 0, .int k, v8], [.int 1], M, J)) (fl_n 1 rfl) <|
  fl_rfl)
theorem sg_113b (M : fl_M) (J : fl_J) (r i to j n k : Int32) (v8 : Value) : fl_go fB113 (96, [.ref 81, .int r, .int i, .int to, .int j, .int n, .int 1, .int k, v8], [], M, J) (if k < n then (96, [.ref 81, .int r, .int i, .int to, .int j, .int n, .int 1, .int (k + 1), .int ((n - 1) - k)], [], (fl_u M 88 ((((40 * to) + j) + ((n - 1) - k)).toNatClampNeg) (M 88 ((((40 * r) + i) + ((n - 1) - k)).toNatClampNeg))), J) else (158, [.ref 81, .int r, .int i, .int to, .int j, .int n, .int 1, .int k, v8], [.int 1], M, J)) :=
 fl_tr (s' := (100, [.ref 81, .int r, .int i, .int to, .int j, .int n, .int 1, .int k, v8], [.int n, .int k], M, J)) (fl_n 2 rfl) <|
 fl_not (fl_ic (t := 157) rfl rfl) fl_nlt (fun h1 =>
  fl_tr (s' := (96, [.ref 81, .int r, .int i, .int to, .int j, .int n, .int 1, .int (k + 1), .int ((n - 1) - k)], [], (fl_u M 88 ((((40 * to) + j) + ((n - 1) - k)).toNatClampNeg) (M 88 ((((40 * r) + i) + ((n - 1) - k)).toNatClampNeg))), J)) (fl_n 31 rfl) <|
  fl_rfl) (fun h1 =>
  fl_tr (s' := (158, [.ref 81, .int r, .int i, .int to, .int j, .int n, .int 1, .int k, v8], [.int 1], M, J)) (fl_n 1 rfl) <|
  fl_rfl)
theorem lp_113f (M : fl_M) (J : fl_J) (r i to j n : Int32) (h1 : (¬ (r < 0)) ∧ (¬ (5 < r))) (h2 : (¬ (to < 0)) ∧ (¬ (5 < to))) (h3 : ¬ n < 0) (h4 : (¬ (i < 0)) ∧ (¬ ((M 87 r.toNatClampNeg).toInt64 < (i.toInt64 + n.toInt64)))) (h5 : (¬ (j < 0)) ∧ (¬ ((M 87 to.toNatClampNeg).toInt64 < (j.toInt64 + n.toInt64)))) (hc : ∀ q, q < 6 → (M 87 q).toInt ≤ 40) (h6 : ¬ i < j) : fl_dn fB113 (96, [.ref 81, .int r, .int i, .int to, .int j, .int n, .int 0, .int 0, .null], [], M, J) (some (.int 1), fl_k M 88 (40 * r.toNatClampNeg + i.toNatClampNeg) (40 * to.toNatClampNeg + j.toNatClampNeg) 0 n.toNatClampNeg, J) := by
  have r1 := fi_ge.mp h1.1
  have r2 := fi_ge.mp h1.2
  have t1 := fi_ge.mp h2.1
  have t2 := fi_ge.mp h2.2
  have n1 := fi_ge.mp h3
  have i1 := fi_ge.mp h4.1
  have j1 := fi_ge.mp h5.1
  have i2 := h4.2
  have j2 := h5.2
  rw [fi_span] at i2 j2
  rw [fi_i0] at r1 t1 n1 i1 j1
  rw [fi_i5] at r2 t2
  have cr := fi_cl r
  have ct := fi_cl to
  have ci := fi_cl i
  have cj := fi_cl j
  have cn := fi_cl n
  have s1 := hc r.toNatClampNeg (by omega)
  have s2 := hc to.toNatClampNeg (by omega)
  have hb := fi_bd n
  have g1 := fi_ge.mp h6
  refine fl_itd (S := fun m => (96, [.ref 81, .int r, .int i, .int to, .int j, .int n, .int 0, .int (Int32.ofNat m), (match m with | 0 => .null | m + 1 => .int (Int32.ofNat m))], [], fl_k M 88 (40 * r.toNatClampNeg + i.toNatClampNeg) (40 * to.toNatClampNeg + j.toNatClampNeg) 0 m, J)) n.toNatClampNeg (fun m hm => ?_) ?_ ?_
  · refine fl_ge (sg_113f _ J r i to j n (Int32.ofNat m) _) ?_
    have e := fi_ti (m := m) (by omega)
    have ea := fi_at (m := m) (by omega)
    rw [if_pos ((fi_lt (by omega)).mpr hm), fi_40b r1 r2 i1 (by omega) (by omega) (by omega), fi_40b t1 t2 j1 (by omega) (by omega) (by omega), ea, fi_s, fl_kf _ _ _ _ _ (by omega)]
  · rw [fl_k0]
    rfl
  · refine fl_td (sg_113f _ J r i to j n _ _) ?_
    rw [if_neg (fun z => absurd ((fi_lt (by omega)).mp z) (by omega))]
    exact fl_rt rfl (fun _ => rfl) rfl
theorem lp_113b (M : fl_M) (J : fl_J) (r i to j n : Int32) (h1 : (¬ (r < 0)) ∧ (¬ (5 < r))) (h2 : (¬ (to < 0)) ∧ (¬ (5 < to))) (h3 : ¬ n < 0) (h4 : (¬ (i < 0)) ∧ (¬ ((M 87 r.toNatClampNeg).toInt64 < (i.toInt64 + n.toInt64)))) (h5 : (¬ (j < 0)) ∧ (¬ ((M 87 to.toNatClampNeg).toInt64 < (j.toInt64 + n.toInt64)))) (hc : ∀ q, q < 6 → (M 87 q).toInt ≤ 40) (h6 : i < j) : fl_dn fB113 (96, [.ref 81, .int r, .int i, .int to, .int j, .int n, .int 1, .int 0, .null], [], M, J) (some (.int 1), fl_k M 88 (40 * r.toNatClampNeg + i.toNatClampNeg) (40 * to.toNatClampNeg + j.toNatClampNeg) 0 n.toNatClampNeg, J) := by
  have r1 := fi_ge.mp h1.1
  have r2 := fi_ge.mp h1.2
  have t1 := fi_ge.mp h2.1
  have t2 := fi_ge.mp h2.2
  have n1 := fi_ge.mp h3
  have i1 := fi_ge.mp h4.1
  have j1 := fi_ge.mp h5.1
  have i2 := h4.2
  have j2 := h5.2
  rw [fi_span] at i2 j2
  rw [fi_i0] at r1 t1 n1 i1 j1
  rw [fi_i5] at r2 t2
  have cr := fi_cl r
  have ct := fi_cl to
  have ci := fi_cl i
  have cj := fi_cl j
  have cn := fi_cl n
  have s1 := hc r.toNatClampNeg (by omega)
  have s2 := hc to.toNatClampNeg (by omega)
  have hb := fi_bd n
  have g1 := fi_l.mp h6
  refine fl_itd (S := fun m => (96, [.ref 81, .int r, .int i, .int to, .int j, .int n, .int 1, .int (Int32.ofNat m), (match m with | 0 => .null | m + 1 => .int (n - 1 - Int32.ofNat m))], [], fl_k M 88 (40 * r.toNatClampNeg + i.toNatClampNeg) (40 * to.toNatClampNeg + j.toNatClampNeg) (n.toNatClampNeg - m) n.toNatClampNeg, J)) n.toNatClampNeg (fun m hm => ?_) ?_ ?_
  · refine fl_ge (sg_113b _ J r i to j n (Int32.ofNat m) _) ?_
    have e := fi_ti (m := m) (by omega)
    have ea := fi_at (m := m) (by omega)
    have e1 : (n - 1).toInt = n.toInt - 1 := by
      rw [fi_sub (by rw [fi_i1]; omega) (by rw [fi_i1]; omega), fi_i1]
    have e2 : (n - 1 - Int32.ofNat m).toInt = n.toInt - 1 - m := by
      rw [fi_sub (by omega) (by omega), e1, e]
    have e3 : (n - 1 - Int32.ofNat m).toNatClampNeg = n.toNatClampNeg - (m + 1) := by
      rw [fi_cl, e2]
      omega
    have e4 : n.toNatClampNeg - m = n.toNatClampNeg - (m + 1) + 1 := by omega
    rw [if_pos ((fi_lt (by omega)).mpr hm), fi_40b r1 r2 i1 (by omega) (by omega) (by omega), fi_40b t1 t2 j1 (by omega) (by omega) (by omega), e3, e4, fi_s, fl_kb _ _ _ _ _ _ (by omega) (by omega)]
  · rw [show n.toNatClampNeg - 0 = n.toNatClampNeg from rfl, fl_k0]
    rfl
  · refine fl_td (sg_113b _ J r i to j n _ _) ?_
    rw [if_neg (fun z => absurd ((fi_lt (by omega)).mp z) (by omega)), Nat.sub_self]
    exact fl_rt rfl (fun _ => rfl) rfl
theorem cc_113 (M : fl_M) (J : fl_J) (r i to j n : Int32) (hc : ∀ q, q < 6 → (M 87 q).toInt ≤ 40) : fl_C 113 [.ref 81, .int r, .int i, .int to, .int j, .int n] M J (some (.int (if (¬ (r < 0)) ∧ (¬ (5 < r)) then (if (¬ (to < 0)) ∧ (¬ (5 < to)) then (if n < 0 then (-3) else (if (M 87 r.toNatClampNeg) < 0 then (-3) else (if (M 87 to.toNatClampNeg) < 0 then (-3) else (if (¬ (i < 0)) ∧ (¬ (((M 87 r.toNatClampNeg).toInt64) < (i.toInt64 + n.toInt64))) then (if (¬ (j < 0)) ∧ (¬ (((M 87 to.toNatClampNeg).toInt64) < (j.toInt64 + n.toInt64))) then (if i < j then 1 else 1) else (-3)) else (-3))))) else (-1)) else (-1))), (if (¬ (r < 0)) ∧ (¬ (5 < r)) then (if (¬ (to < 0)) ∧ (¬ (5 < to)) then (if n < 0 then (fl_u (fl_u M 81 14 5) 91 5 ((M 91 5) + 1)) else (if (M 87 r.toNatClampNeg) < 0 then (fl_u (fl_u M 81 14 1) 91 1 ((M 91 1) + 1)) else (if (M 87 to.toNatClampNeg) < 0 then (fl_u (fl_u M 81 14 1) 91 1 ((M 91 1) + 1)) else (if (¬ (i < 0)) ∧ (¬ (((M 87 r.toNatClampNeg).toInt64) < (i.toInt64 + n.toInt64))) then (if (¬ (j < 0)) ∧ (¬ (((M 87 to.toNatClampNeg).toInt64) < (j.toInt64 + n.toInt64))) then (fl_k M 88 (40 * r.toNatClampNeg + i.toNatClampNeg) (40 * to.toNatClampNeg + j.toNatClampNeg) 0 n.toNatClampNeg) else (fl_u (fl_u M 81 14 2) 91 2 ((M 91 2) + 1))) else (fl_u (fl_u M 81 14 2) 91 2 ((M 91 2) + 1)))))) else M) else M), J) :=
 fl_Co (B := fB113) rfl rfl <|
 fl_td (s' := (1, [.ref 81, .int r, .int i, .int to, .int j, .int n, .null, .null, .null], [.int r], M, J)) (fl_n 1 rfl) <|
 fl_td (s' := (4, [.ref 81, .int r, .int i, .int to, .int j, .int n, .null, .null, .null], [.int (if (¬ (r < 0)) ∧ (¬ (5 < r)) then 1 else 0)], M, J)) (fl_cs (o := some (.int (if (¬ (r < 0)) ∧ (¬ (5 < r)) then 1 else 0))) rfl rfl rfl (cc_104 M J r) rfl) <|
 fl_dnot (fl_if (t := 14) rfl rfl) fl_b0 (fun h1 =>
  fl_td (s' := (8, [.ref 81, .int r, .int i, .int to, .int j, .int n, .null, .null, .null], [.int to], M, J)) (fl_n 1 rfl) <|
  fl_td (s' := (11, [.ref 81, .int r, .int i, .int to, .int j, .int n, .null, .null, .null], [.int (if (¬ (to < 0)) ∧ (¬ (5 < to)) then 1 else 0)], M, J)) (fl_cs (o := some (.int (if (¬ (to < 0)) ∧ (¬ (5 < to)) then 1 else 0))) rfl rfl rfl (cc_104 M J to) rfl) <|
  fl_dtwo (fl_if (t := 16) rfl rfl) fl_b1 (fun h2 =>
   fl_td (s' := (18, [.ref 81, .int r, .int i, .int to, .int j, .int n, .null, .null, .null], [.int n], M, J)) (fl_n 1 rfl) <|
   fl_dnot (fl_if (t := 27) rfl rfl) fl_nlt (fun h3 =>
    fl_td (s' := (23, [.ref 81, .int r, .int i, .int to, .int j, .int n, .null, .null, .null], [.int 5, .ref 81], M, J)) (fl_n 2 rfl) <|
    fl_td (s' := (26, [.ref 81, .int r, .int i, .int to, .int j, .int n, .null, .null, .null], [.int (-3)], (fl_u (fl_u M 81 14 5) 91 5 ((M 91 5) + 1)), J)) (fl_cv (o := some (.int (-3))) rfl rfl rfl rfl (cc_106 M J 5) rfl) <|
    fl_rt rfl (fun _ => rfl) (by first | (simp only [if_pos h1, if_pos h2, if_pos h3]; done) | rfl)) (fun h3 =>
    fl_td (s' := (33, [.ref 81, .int r, .int i, .int to, .int j, .int n, .null, .null, .null], [.int (M 87 r.toNatClampNeg)], M, J)) (fl_n 4 rfl) <|
    fl_dtwo (fl_if (t := 45) rfl rfl) fl_cT (fun h4 =>
     fl_td (s' := (47, [.ref 81, .int r, .int i, .int to, .int j, .int n, .null, .null, .null], [.int 1, .ref 81], M, J)) (fl_n 2 rfl) <|
     fl_td (s' := (50, [.ref 81, .int r, .int i, .int to, .int j, .int n, .null, .null, .null], [.int (-3)], (fl_u (fl_u M 81 14 1) 91 1 ((M 91 1) + 1)), J)) (fl_cv (o := some (.int (-3))) rfl rfl rfl rfl (cc_106 M J 1) rfl) <|
     fl_rt rfl (fun _ => rfl) (by first | (simp only [if_pos h1, if_pos h2, if_neg h3, if_pos h4]; done) | rfl)) (fun h4 =>
     fl_td (s' := (42, [.ref 81, .int r, .int i, .int to, .int j, .int n, .null, .null, .null], [.int (M 87 to.toNatClampNeg)], M, J)) (fl_n 4 rfl) <|
     fl_dnot (fl_if (t := 51) rfl rfl) fl_nlt (fun h5 =>
      fl_td (s' := (47, [.ref 81, .int r, .int i, .int to, .int j, .int n, .null, .null, .null], [.int 1, .ref 81], M, J)) (fl_n 2 rfl) <|
      fl_td (s' := (50, [.ref 81, .int r, .int i, .int to, .int j, .int n, .null, .null, .null], [.int (-3)], (fl_u (fl_u M 81 14 1) 91 1 ((M 91 1) + 1)), J)) (fl_cv (o := some (.int (-3))) rfl rfl rfl rfl (cc_106 M J 1) rfl) <|
      fl_rt rfl (fun _ => rfl) (by first | (simp only [if_pos h1, if_pos h2, if_neg h3, if_neg h4, if_pos h5]; done) | rfl)) (fun h5 =>
      fl_td (s' := (56, [.ref 81, .int r, .int i, .int to, .int j, .int n, .null, .null, .null], [.int n, .int i, .int r, .ref 81], M, J)) (fl_n 4 rfl) <|
      fl_td (s' := (59, [.ref 81, .int r, .int i, .int to, .int j, .int n, .null, .null, .null], [.int (if (¬ (i < 0)) ∧ (¬ (((M 87 r.toNatClampNeg).toInt64) < (i.toInt64 + n.toInt64))) then 1 else 0)], M, J)) (fl_cv (o := some (.int (if (¬ (i < 0)) ∧ (¬ (((M 87 r.toNatClampNeg).toInt64) < (i.toInt64 + n.toInt64))) then 1 else 0))) rfl rfl rfl rfl (cc_114 M J r i n) rfl) <|
      fl_dnot (fl_if (t := 74) rfl rfl) fl_b0 (fun h6 =>
       fl_td (s' := (68, [.ref 81, .int r, .int i, .int to, .int j, .int n, .null, .null, .null], [.int n, .int j, .int to, .ref 81], M, J)) (fl_n 4 rfl) <|
       fl_td (s' := (71, [.ref 81, .int r, .int i, .int to, .int j, .int n, .null, .null, .null], [.int (if (¬ (j < 0)) ∧ (¬ (((M 87 to.toNatClampNeg).toInt64) < (j.toInt64 + n.toInt64))) then 1 else 0)], M, J)) (fl_cv (o := some (.int (if (¬ (j < 0)) ∧ (¬ (((M 87 to.toNatClampNeg).toInt64) < (j.toInt64 + n.toInt64))) then 1 else 0))) rfl rfl rfl rfl (cc_114 M J to j n) rfl) <|
       fl_dtwo (fl_if (t := 80) rfl rfl) fl_b1 (fun h7 =>
        fl_td (s' := (83, [.ref 81, .int r, .int i, .int to, .int j, .int n, .null, .null, .null], [.int j, .int i], M, J)) (fl_n 2 rfl) <|
        fl_dnot (fl_ic (t := 90) rfl rfl) fl_nlt (fun h8 =>
         fl_td (s' := (96, [.ref 81, .int r, .int i, .int to, .int j, .int n, .int 1, .int 0, .null], [], M, J)) (fl_n 5 rfl) <|
         fl_de (lp_113b M J r i to j n (by assumption) (by assumption) (by assumption) (by assumption) (by assumption) hc (by assumption)) (by first | (simp only [if_pos h1, if_pos h2, if_neg h3, if_neg h4, if_neg h5, if_pos h6, if_pos h7, if_pos h8]; done) | rfl)) (fun h8 =>
         fl_td (s' := (96, [.ref 81, .int r, .int i, .int to, .int j, .int n, .int 0, .int 0, .null], [], M, J)) (fl_n 4 rfl) <|
         fl_de (lp_113f M J r i to j n (by assumption) (by assumption) (by assumption) (by assumption) (by assumption) hc (by assumption)) (by first | (simp only [if_pos h1, if_pos h2, if_neg h3, if_neg h4, if_neg h5, if_pos h6, if_pos h7, if_neg h8]; done) | rfl))) (fun h7 =>
        fl_td (s' := (76, [.ref 81, .int r, .int i, .int to, .int j, .int n, .null, .null, .null], [.int 2, .ref 81], M, J)) (fl_n 2 rfl) <|
        fl_td (s' := (79, [.ref 81, .int r, .int i, .int to, .int j, .int n, .null, .null, .null], [.int (-3)], (fl_u (fl_u M 81 14 2) 91 2 ((M 91 2) + 1)), J)) (fl_cv (o := some (.int (-3))) rfl rfl rfl rfl (cc_106 M J 2) rfl) <|
        fl_rt rfl (fun _ => rfl) (by first | (simp only [if_pos h1, if_pos h2, if_neg h3, if_neg h4, if_neg h5, if_pos h6, if_neg h7]; done) | rfl))) (fun h6 =>
       fl_td (s' := (76, [.ref 81, .int r, .int i, .int to, .int j, .int n, .null, .null, .null], [.int 2, .ref 81], M, J)) (fl_n 2 rfl) <|
       fl_td (s' := (79, [.ref 81, .int r, .int i, .int to, .int j, .int n, .null, .null, .null], [.int (-3)], (fl_u (fl_u M 81 14 2) 91 2 ((M 91 2) + 1)), J)) (fl_cv (o := some (.int (-3))) rfl rfl rfl rfl (cc_106 M J 2) rfl) <|
       fl_rt rfl (fun _ => rfl) (by first | (simp only [if_pos h1, if_pos h2, if_neg h3, if_neg h4, if_neg h5, if_neg h6]; done) | rfl)))))) (fun h2 =>
   fl_td (s' := (15, [.ref 81, .int r, .int i, .int to, .int j, .int n, .null, .null, .null], [.int (-1)], M, J)) (fl_n 1 rfl) <|
   fl_rt rfl (fun _ => rfl) (by first | (simp only [if_pos h1, if_neg h2]; done) | rfl))) (fun h1 =>
  fl_td (s' := (15, [.ref 81, .int r, .int i, .int to, .int j, .int n, .null, .null, .null], [.int (-1)], M, J)) (fl_n 1 rfl) <|
  fl_rt rfl (fun _ => rfl) (by first | (simp only [if_neg h1]; done) | rfl))

