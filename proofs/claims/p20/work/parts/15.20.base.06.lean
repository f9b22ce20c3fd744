theorem cc_8 (M : fl_M) (J : fl_J) (r i to j n : Int32) : fl_C 8 [.ref 0, .int r, .int i, .int to, .int j, .int n] M J (some (.int (if (r < 0) ∨ (¬ (r < 6)) then (-1) else (if (to < 0) ∨ (¬ (to < 6)) then (-1) else (if n < 0 then (-3) else (if (M 1 r.toNatClampNeg) = (-1) then (-3) else (if (M 1 to.toNatClampNeg) = (-1) then (-3) else (if (i < 0) ∨ (((M 1 r.toNatClampNeg) - n) < i) then (-3) else (if (j < 0) ∨ (((M 1 to.toNatClampNeg) - n) < j) then (-3) else 1)))))))), (if (r < 0) ∨ (¬ (r < 6)) then M else (if (to < 0) ∨ (¬ (to < 6)) then M else (if n < 0 then (fl_u (fl_u M 0 11 5) 80 5 ((M 80 5) + 1)) else (if (M 1 r.toNatClampNeg) = (-1) then (fl_u (fl_u M 0 11 1) 80 1 ((M 80 1) + 1)) else (if (M 1 to.toNatClampNeg) = (-1) then (fl_u (fl_u M 0 11 1) 80 1 ((M 80 1) + 1)) else (if (i < 0) ∨ (((M 1 r.toNatClampNeg) - n) < i) then (fl_u (fl_u M 0 11 2) 80 2 ((M 80 2) + 1)) else (if (j < 0) ∨ (((M 1 to.toNatClampNeg) - n) < j) then (fl_u (fl_u M 0 11 2) 80 2 ((M 80 2) + 1)) else (fl_y M (fl_ar 2 r.toNatClampNeg) i.toNatClampNeg (fl_ar 2 to.toNatClampNeg) j.toNatClampNeg n.toNatClampNeg)))))))), J) :=
 fl_Co (B := fB8) rfl rfl <|
 fl_td (s' := (1, [.ref 0, .int r, .int i, .int to, .int j, .int n], [.int r], M, J)) (fl_n 1 rfl) <|
 fl_td (s' := (4, [.ref 0, .int r, .int i, .int to, .int j, .int n], [.int (if (r < 0) ∨ (¬ (r < 6)) then 1 else 0)], M, J)) (fl_cs (o := some (.int (if (r < 0) ∨ (¬ (r < 6)) then 1 else 0))) rfl rfl rfl (cc_1 M J r) rfl) <|
 fl_dtwo (fl_if (t := 14) rfl rfl) fl_b1 (fun h1 =>
  fl_td (s' := (15, [.ref 0, .int r, .int i, .int to, .int j, .int n], [.int (-1)], M, J)) (fl_n 1 rfl) <|
  fl_rt rfl (fun _ => rfl) (by first | (simp only [if_pos h1]; done) | rfl)) (fun h1 =>
  fl_td (s' := (8, [.ref 0, .int r, .int i, .int to, .int j, .int n], [.int to], M, J)) (fl_n 1 rfl) <|
  fl_td (s' := (11, [.ref 0, .int r, .int i, .int to, .int j, .int n], [.int (if (to < 0) ∨ (¬ (to < 6)) then 1 else 0)], M, J)) (fl_cs (o := some (.int (if (to < 0) ∨ (¬ (to < 6)) then 1 else 0))) rfl rfl rfl (cc_1 M J to) rfl) <|
  fl_dnot (fl_if (t := 16) rfl rfl) fl_b0 (fun h2 =>
   fl_td (s' := (15, [.ref 0, .int r, .int i, .int to, .int j, .int n], [.int (-1)], M, J)) (fl_n 1 rfl) <|
   fl_rt rfl (fun _ => rfl) (by first | (simp only [if_neg h1, if_pos h2]; done) | rfl)) (fun h2 =>
   fl_td (s' := (18, [.ref 0, .int r, .int i, .int to, .int j, .int n], [.int n], M, J)) (fl_n 1 rfl) <|
   fl_dnot (fl_if (t := 27) rfl rfl) fl_nlt (fun h3 =>
    fl_td (s' := (23, [.ref 0, .int r, .int i, .int to, .int j, .int n], [.int 5, .ref 0], M, J)) (fl_n 2 rfl) <|
    fl_td (s' := (26, [.ref 0, .int r, .int i, .int to, .int j, .int n], [.int (-3)], (fl_u (fl_u M 0 11 5) 80 5 ((M 80 5) + 1)), J)) (fl_cv (o := some (.int (-3))) rfl rfl rfl rfl (cc_2 M J 5) rfl) <|
    fl_rt rfl (fun _ => rfl) (by first | (simp only [if_neg h1, if_neg h2, if_pos h3]; done) | rfl)) (fun h3 =>
    fl_td (s' := (34, [.ref 0, .int r, .int i, .int to, .int j, .int n], [.int (-1), .int (M 1 r.toNatClampNeg)], M, J)) (fl_n 5 rfl) <|
    fl_dtwo (fl_ic (t := 47) rfl rfl) fl_cT (fun h4 =>
     fl_td (s' := (49, [.ref 0, .int r, .int i, .int to, .int j, .int n], [.int 1, .ref 0], M, J)) (fl_n 2 rfl) <|
     fl_td (s' := (52, [.ref 0, .int r, .int i, .int to, .int j, .int n], [.int (-3)], (fl_u (fl_u M 0 11 1) 80 1 ((M 80 1) + 1)), J)) (fl_cv (o := some (.int (-3))) rfl rfl rfl rfl (cc_2 M J 1) rfl) <|
     fl_rt rfl (fun _ => rfl) (by first | (simp only [if_neg h1, if_neg h2, if_neg h3, if_pos h4]; done) | rfl)) (fun h4 =>
     fl_td (s' := (44, [.ref 0, .int r, .int i, .int to, .int j, .int n], [.int (-1), .int (M 1 to.toNatClampNeg)], M, J)) (fl_n 5 rfl) <|
     fl_dnot (fl_ic (t := 53) rfl rfl) fl_cF (fun h5 =>
      fl_td (s' := (49, [.ref 0, .int r, .int i, .int to, .int j, .int n], [.int 1, .ref 0], M, J)) (fl_n 2 rfl) <|
      fl_td (s' := (52, [.ref 0, .int r, .int i, .int to, .int j, .int n], [.int (-3)], (fl_u (fl_u M 0 11 1) 80 1 ((M 80 1) + 1)), J)) (fl_cv (o := some (.int (-3))) rfl rfl rfl rfl (cc_2 M J 1) rfl) <|
      fl_rt rfl (fun _ => rfl) (by first | (simp only [if_neg h1, if_neg h2, if_neg h3, if_neg h4, if_pos h5]; done) | rfl)) (fun h5 =>
      fl_td (s' := (62, [.ref 0, .int r, .int i, .int to, .int j, .int n], [.int (M 1 r.toNatClampNeg), .int n, .int i], M, J)) (fl_n 6 rfl) <|
      fl_td (s' := (65, [.ref 0, .int r, .int i, .int to, .int j, .int n], [.int (if (i < 0) ∨ (((M 1 r.toNatClampNeg) - n) < i) then 1 else 0)], M, J)) (fl_cs (o := some (.int (if (i < 0) ∨ (((M 1 r.toNatClampNeg) - n) < i) then 1 else 0))) rfl rfl rfl (cc_9 M J i n (M 1 r.toNatClampNeg)) rfl) <|
      fl_dtwo (fl_if (t := 84) rfl rfl) fl_b1 (fun h6 =>
       fl_td (s' := (86, [.ref 0, .int r, .int i, .int to, .int j, .int n], [.int 2, .ref 0], M, J)) (fl_n 2 rfl) <|
       fl_td (s' := (89, [.ref 0, .int r, .int i, .int to, .int j, .int n], [.int (-3)], (fl_u (fl_u M 0 11 2) 80 2 ((M 80 2) + 1)), J)) (fl_cv (o := some (.int (-3))) rfl rfl rfl rfl (cc_2 M J 2) rfl) <|
       fl_rt rfl (fun _ => rfl) (by first | (simp only [if_neg h1, if_neg h2, if_neg h3, if_neg h4, if_neg h5, if_pos h6]; done) | rfl)) (fun h6 =>
       fl_td (s' := (78, [.ref 0, .int r, .int i, .int to, .int j, .int n], [.int (M 1 to.toNatClampNeg), .int n, .int j], M, J)) (fl_n 6 rfl) <|
       fl_td (s' := (81, [.ref 0, .int r, .int i, .int to, .int j, .int n], [.int (if (j < 0) ∨ (((M 1 to.toNatClampNeg) - n) < j) then 1 else 0)], M, J)) (fl_cs (o := some (.int (if (j < 0) ∨ (((M 1 to.toNatClampNeg) - n) < j) then 1 else 0))) rfl rfl rfl (cc_9 M J j n (M 1 to.toNatClampNeg)) rfl) <|
       fl_dnot (fl_if (t := 90) rfl rfl) fl_b0 (fun h7 =>
        fl_td (s' := (86, [.ref 0, .int r, .int i, .int to, .int j, .int n], [.int 2, .ref 0], M, J)) (fl_n 2 rfl) <|
        fl_td (s' := (89, [.ref 0, .int r, .int i, .int to, .int j, .int n], [.int (-3)], (fl_u (fl_u M 0 11 2) 80 2 ((M 80 2) + 1)), J)) (fl_cv (o := some (.int (-3))) rfl rfl rfl rfl (cc_2 M J 2) rfl) <|
        fl_rt rfl (fun _ => rfl) (by first | (simp only [if_neg h1, if_neg h2, if_neg h3, if_neg h4, if_neg h5, if_neg h6, if_pos h7]; done) | rfl)) (fun h7 =>
        fl_td (s' := (111, [.ref 0, .int r, .int i, .int to, .int j, .int n], [.int 1], (fl_y M (fl_ar 2 r.toNatClampNeg) i.toNatClampNeg (fl_ar 2 to.toNatClampNeg) j.toNatClampNeg n.toNatClampNeg), J)) (fl_n 13 rfl) <|
        fl_rt rfl (fun _ => rfl) (by first | (simp only [if_neg h1, if_neg h2, if_neg h3, if_neg h4, if_neg h5, if_neg h6, if_neg h7]; done) | rfl))))))))
def fB114 : sm_P := (fun pc => sm_ch sm_t114 pc, sm_Kn 3 4 none, fun x => sm_lk sm_ca3 x, some .boolean)
theorem cc_114 (M : fl_M) (J : fl_J) (r i n : Int32) : fl_C 114 [.ref 81, .int r, .int i, .int n] M J (some (.int (if (¬ (i < 0)) ∧ (¬ (((M 87 r.toNatClampNeg).toInt64) < (i.toInt64 + n.toInt64))) then 1 else 0)), M, J) :=
 fl_Co (B := fB114) rfl rfl <|
 fl_td (s' := (1, [.ref 81, .int r, .int i, .int n], [.int i], M, J)) (fl_n 1 rfl) <|
 fl_dtwo (fl_if (t := 24) rfl rfl) fl_cT (fun h1 =>
  fl_td (s' := (25, [.ref 81, .int r, .int i, .int n], [.int 0], M, J)) (fl_n 1 rfl) <|
  fl_rt rfl (fun _ => rfl) (by simp [h1])) (fun h1 =>
  fl_td (s' := (17, [.ref 81, .int r, .int i, .int n], [.int (lg_cmp (i.toInt64 + n.toInt64) ((M 87 r.toNatClampNeg).toInt64))], M, J)) (fl_n 11 rfl) <|
  fl_dtwo (fl_if (t := 24) rfl rfl) fl_lgt (fun h2 =>
   fl_td (s' := (25, [.ref 81, .int r, .int i, .int n], [.int 0], M, J)) (fl_n 1 rfl) <|
   fl_rt rfl (fun _ => rfl) (by simp [h1, h2])) (fun h2 =>
   fl_td (s' := (25, [.ref 81, .int r, .int i, .int n], [.int 1], M, J)) (fl_n 2 rfl) <|
   fl_rt rfl (fun _ => rfl) (by simp [h1, h2])))
def fB113 : sm_P := (fun pc => sm_ch sm_t113 pc, sm_Kn 3 9 none, fun x => sm_lk sm_ca3 x, some .int)
theorem sg_113f (M : fl_M) (J : fl_J) (r i to j n k : Int32) (v8 : Value) : fl_go fB113 (96, [.ref 81, .int r, .int i, .int to, .int j, .int n, .int 0, .int k, v8], [], M, J) (if k < n then (96, [.ref 81, .int r, .int i, .int to, .int j, .int n, .int 0, .int (k + 1), .int k], [], (fl_u M 88 ((((40 * to) + j) + k).toNatClampNeg) (M 88 ((((40 * r) + i) + k).toNatClampNeg))), J) else (158, [.ref 81, .int r, .int i, .int to, .int j, .int n, .int 0, .int k, v8], [.int 1], M, J)) :=
 fl_tr (s' := (100, [.ref 81, .int r, .int i, .int to, .int j, .int n, .int 0, .int k, v8], [.int n, .int k], M, J)) (fl_n 2 rfl) <|
 fl_not (fl_ic (t := 157) rfl rfl) fl_nlt (fun h1 =>
  fl_tr (s' := (96, [.ref 81, .int r, .int i, .int to, .int j, .int n, .int 0, .int (k + 1), .int k], [], (fl_u M 88 ((((40 * to) + j) + k).toNatClampNeg) (M 88 ((((40 * r) + i) + k).toNatClampNeg))), J)) (fl_n 26 rfl) <|
  fl_rfl) (fun h1 =>
  fl_tr (s' := (158, [.ref 81, .int r, .int i, .int to, .int j, .int n, .int 0, .int k, v8], [.int 1], M, J)) (fl_n 1 rfl) <|
  fl_rfl)
theorem sg_113b (M : fl_M) (J : fl_J) (r i to j n k : Int32) (v8 : Value) : fl_go fB113 (96, [.ref 81, .int r, .int i, .int to, .int j, .int n, .int 1, .int k, v8], [], M, J) (if k < n then (96, [.ref 81, .int r, .int i, .int to, .int j, .int n, .int 1, .int (k + 1), .int ((n - 1) - k)], [], (fl_u M 88 ((((40 * to) + j) + ((n - 1) - k)).toNatClampNeg) (M 88 ((((40 * r) + i) + ((n - 1) - k)).toNatClampNeg))), J) else (158, [.ref 81, .int r, .int i, .int to, .int j, .int n, .int 1, .int k, v8], [.int 1], M, J)) :=
 fl_tr (s' := (100, [.ref 81, .int r, .int i, .int to, .int j, .int n, .int 1, .int k, v8], [.int n, .int k], M, J)) (fl_n 2 rfl) <|
 fl_not (fl_ic (t := 157) rfl rfl) fl_nlt (fun h1 =>
  fl_tr (s' := (96, [.ref 81, .int r, .int i, .int to, .int j, .int n, .int 1, .int (k + 1), .int ((n - 1) - k)], [], (fl_u M 88 ((((40 * to) + j) + ((n - 1) - k)).toNatClampNeg) (M 88 ((((40 * r) + i) + ((n - 1) - k)).toNatClampNeg))), J)) (fl_n 31 rfl) <|
  fl_rfl) (fun h1 =>
  fl_tr (s' := (158, [.ref 81, .int r, .int i, .int to, .int j, .int n, .int 1, .int k, v8], [.int 1], M, J)) (fl_n 1 rfl) <|
  fl_rfl)
theorem lp_113f (M : fl_M) (J : fl_J) (r i to j n : Int32) (h1 : (¬ (r < 0)) ∧ (¬ (5 < r))) (h2 : (¬ (to < 0)) ∧ (¬ (5 < to))) (h3 : ¬ n < 0) (h4 : (¬ (i < 0)) ∧ (¬ ((M 87 r.toNatClampNeg).toInt64 < (i.toInt64 + n.toInt64)))) (h5 : (¬ (j < 0)) ∧ (¬ ((M 87 to.toNatClampNeg).toInt64 < (j.toInt64 + n.toInt64)))) (hc : ∀ q, q < 6 → (M 87 q).toInt ≤ 40) (h6 : ¬ i < j) : fl_dn fB113 (96, [.ref 81, .int r, .int i, .int to, .int j, .int n, .int 0, .int 0, .null], [], M, J) (some (.int 1), fl_k M 88 (40 * r.toNatClampNeg + i.toNatClampNeg) (40 * to.toNatClampNeg + j.toNatClampNeg) 0 n.toNatClampNeg, J) := by
  have r1 := fi_ge.mp h1.1
  have r2 := fi_ge.mp h1.2
  have t1 := fi_ge.mp h2.1
  have t2 := fi_ge.mp h2.2
  have n1 := fi_ge.mp h3
  have i1 := fi_ge.mp h4.1
  have j1 := fi_ge.mp h5.1
  have i2 := h4.2
  have j2 := h5.2
  rw [fi_span] at i2 j2
  rw [fi_i0] at r1 t1 n1 i1 j1
  rw [fi_i5] at r2 t2
  have cr := fi_cl r
  have ct := fi_cl to
  have ci := fi_cl i
  have cj := fi_cl j
  have cn := fi_cl n
  have s1 := hc r.toNatClampNeg (by omega)
  have s2 := hc to.toNatClampNeg (by omega)
  have hb := fi_bd n
  have g1 := fi_ge.mp h6
  refine fl_itd (S := fun m => (96, [.ref 81, .int r, .int i, .int to, .int j, .int n, .int 0, .int (Int32.ofNat m), (match m with | 0 => .null | m + 1 => .int (Int32.ofNat m))], [], fl_k M 88 (40 * r.toNatClampNeg + i.toNatClampNeg) (40 * to.toNatClampNeg + j.toNatClampNeg) 0 m, J)) n.toNatClampNeg (fun m hm => ?_) ?_ ?_
  · refine fl_ge (sg_113f _ J r i to j n (Int32.ofNat m) _) ?_
    have e := fi_ti (m := m) (by omega)
    have ea := fi_at (m := m) (by omega)
    rw [if_pos ((fi_lt (by omega)).mpr hm), fi_40b r1 r2 i1 (by omega) (by omega) (by omega), fi_40b t1 t2 j1 (by omega) (by omega) (by omega), ea, fi_s, fl_kf _ _ _ _ _ (by omega)]
  · rw [fl_k0]
    rfl
  · refine fl_td (sg_113f _ J r i to j n _ _) ?_
    rw [if_neg (fun z => absurd ((fi_lt (by omega)).mp z) (by omega))]
    exact fl_rt rfl (fun _ => rfl) rfl
