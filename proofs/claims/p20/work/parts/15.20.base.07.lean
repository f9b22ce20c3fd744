theorem lp_113b (M : fl_M) (J : fl_J) (r i to j n : Int32) (h1 : (¬ (r < 0)) ∧ (¬ (5 < r))) (h2 : (¬ (to < 0)) ∧ (¬ (5 < to))) (h3 : ¬ n < 0) (h4 : (¬ (i < 0)) ∧ (¬ ((M 87 r.toNatClampNeg).toInt64 < (i.toInt64 + n.toInt64)))) (h5 : (¬ (j < 0)) ∧ (¬ ((M 87 to.toNatClampNeg).toInt64 < (j.toInt64 + n.toInt64)))) (hc : ∀ q, q < 6 → (M 87 q).toInt ≤ 40) (h6 : i < j) : fl_dn fB113 (96, [.ref 81, .int r, .int i, .int to, .int j, .int n, .int 1, .int 0, .null], [], M, J) (some (.int 1), fl_k M 88 (40 * r.toNatClampNeg + i.toNatClampNeg) (40 * to.toNatClampNeg + j.toNatClampNeg) 0 n.toNatClampNeg, J) := by
  have r1 := fi_ge.mp h1.1
  have r2 := fi_ge.mp h1.2
  have t1 := fi_ge.mp h2.1
  have t2 := fi_ge.mp h2.2
  have n1 := fi_ge.mp h3
  have i1 := fi_ge.mp h4.1
  have j1 := fi_ge.mp h5.1
  have i2 := h4.2
  have j2 := h5.2
  rw [fi_span] at i2 j2
  rw [fi_i0] at r1 t1 n1 i1 j1
  rw [fi_i5] at r2 t2
  have cr := fi_cl r
  have ct := fi_cl to
  have ci := fi_cl i
  have cj := fi_cl j
  have cn := fi_cl n
  have s1 := hc r.toNatClampNeg (by omega)
  have s2 := hc to.toNatClampNeg (by omega)
  have hb := fi_bd n
  have g1 := fi_l.mp h6
  refine fl_itd (S := fun m => (96, [.ref 81, .int r, .int i, .int to, .int j, .int n, .int 1, .int (Int32.ofNat m), (match m with | 0 => .null | m + 1 => .int (n - 1 - Int32.ofNat m))], [], fl_k M 88 (40 * r.toNatClampNeg + i.toNatClampNeg) (40 * to.toNatClampNeg + j.toNatClampNeg) (n.toNatClampNeg - m) n.toNatClampNeg, J)) n.toNatClampNeg (fun m hm => ?_) ?_ ?_
  · refine fl_ge (sg_113b _ J r i to j n (Int32.ofNat m) _) ?_
    have e := fi_ti (m := m) (by omega)
    have ea := fi_at (m := m) (by omega)
    have e1 : (n - 1).toInt = n.toInt - 1 := by
      rw [fi_sub (by rw [fi_i1]; omega) (by rw [fi_i1]; omega), fi_i1]
    have e2 : (n - 1 - Int32.ofNat m).toInt = n.toInt - 1 - m := by
      rw [fi_sub (by omega) (by omega), e1, e]
    have e3 : (n - 1 - Int32.ofNat m).toNatClampNeg = n.toNatClampNeg - (m + 1) := by
      rw [fi_cl, e2]
      omega
    have e4 : n.toNatClampNeg - m = n.toNatClampNeg - (m + 1) + 1 := by omega
    rw [if_pos ((fi_lt (by omega)).mpr hm), fi_40b r1 r2 i1 (by omega) (by omega) (by omega), fi_40b t1 t2 j1 (by omega) (by omega) (by omega), e3, e4, fi_s, fl_kb _ _ _ _ _ _ (by omega) (by omega)]
  · rw [show n.toNatClampNeg - 0 = n.toNatClampNeg from rfl, fl_k0]
    rfl
  · refine fl_td (sg_113b _ J r i to j n _ _) ?_
    rw [if_neg (fun z => absurd ((fi_lt (by omega)).mp z) (by omega)), Nat.sub_self]
    exact fl_rt rfl (fun _ => rfl) rfl
theorem cc_113 (M : fl_M) (J : fl_J) (r i to j n : Int32) (hc : ∀ q, q < 6 → (M 87 q).toInt ≤ 40) : fl_C 113 [.ref 81, .int r, .int i, .int to, .int j, .int n] M J (some (.int (if (¬ (r < 0)) ∧ (¬ (5 < r)) then (if (¬ (to < 0)) ∧ (¬ (5 < to)) then (if n < 0 then (-3) else (if (M 87 r.toNatClampNeg) < 0 then (-3) else (if (M 87 to.toNatClampNeg) < 0 then (-3) else (if (¬ (i < 0)) ∧ (¬ (((M 87 r.toNatClampNeg).toInt64) < (i.toInt64 + n.toInt64))) then (if (¬ (j < 0)) ∧ (¬ (((M 87 to.toNatClampNeg).toInt64) < (j.toInt64 + n.toInt64))) then (if i < j then 1 else 1) else (-3)) else (-3))))) else (-1)) else (-1))), (if (¬ (r < 0)) ∧ (¬ (5 < r)) then (if (¬ (to < 0)) ∧ (¬ (5 < to)) then (if n < 0 then (fl_u (fl_u M 81 14 5) 91 5 ((M 91 5) + 1)) else (if (M 87 r.toNatClampNeg) < 0 then (fl_u (fl_u M 81 14 1) 91 1 ((M 91 1) + 1)) else (if (M 87 to.toNatClampNeg) < 0 then (fl_u (fl_u M 81 14 1) 91 1 ((M 91 1) + 1)) else (if (¬ (i < 0)) ∧ (¬ (((M 87 r.toNatClampNeg).toInt64) < (i.toInt64 + n.toInt64))) then (if (¬ (j < 0)) ∧ (¬ (((M 87 to.toNatClampNeg).toInt64) < (j.toInt64 + n.toInt64))) then (fl_k M 88 (40 * r.toNatClampNeg + i.toNatClampNeg) (40 * to.toNatClampNeg + j.toNatClampNeg) 0 n.toNatClampNeg) else (fl_u (fl_u M 81 14 2) 91 2 ((M 91 2) + 1))) else (fl_u (fl_u M 81 14 2) 91 2 ((M 91 2) + 1)))))) else M) else M), J) :=
 fl_Co (B := fB113) rfl rfl <|
 fl_td (s' := (1, [.ref 81, .int r, .int i, .int to, .int j, .int n, .null, .null, .null], [.int r], M, J)) (fl_n 1 rfl) <|
 fl_td (s' := (4, [.ref 81, .int r, .int i, .int to, .int j, .int n, .null, .null, .null], [.int (if (¬ (r < 0)) ∧ (¬ (5 < r)) then 1 else 0)], M, J)) (fl_cs (o := some (.int (if (¬ (r < 0)) ∧ (¬ (5 < r)) then 1 else 0))) rfl rfl rfl (cc_104 M J r) rfl) <|
 fl_dnot (fl_if (t := 14) rfl rfl) fl_b0 (fun h1 =>
  fl_td (s' := (8, [.ref 81, .int r, .int i, .int to, .int j, .int n, .null, .null, .null], [.int to], M, J)) (fl_n 1 rfl) <|
  fl_td (s' := (11, [.ref 81, .int r, .int i, .int to, .int j, .int n, .null, .null, .null], [.int (if (¬ (to < 0)) ∧ (¬ (5 < to)) then 1 else 0)], M, J)) (fl_cs (o := some (.int (if (¬ (to < 0)) ∧ (¬ (5 < to)) then 1 else 0))) rfl rfl rfl (cc_104 M J to) rfl) <|
  fl_dtwo (fl_if (t := 16) rfl rfl) fl_b1 (fun h2 =>
   fl_td (s' := (18, [.ref 81, .int r, .int i, .int to, .int j, .int n, .null, .null, .null], [.int n], M, J)) (fl_n 1 rfl) <|
   fl_dnot (fl_if (t := 27) rfl rfl) fl_nlt (fun h3 =>
    fl_td (s' := (23, [.ref 81, .int r, .int i, .int to, .int j, .int n, .null, .null, .null], [.int 5, .ref 81], M, J)) (fl_n 2 rfl) <|
    fl_td (s' := (26, [.ref 81, .int r, .int i, .int to, .int j, .int n, .null, .null, .null], [.int (-3)], (fl_u (fl_u M 81 14 5) 91 5 ((M 91 5) + 1)), J)) (fl_cv (o := some (.int (-3))) rfl rfl rfl rfl (cc_106 M J 5) rfl) <|
    fl_rt rfl (fun _ => rfl) (by first | (simp only [if_pos h1, if_pos h2, if_pos h3]; done) | rfl)) (fun h3 =>
    fl_td (s' := (33, [.ref 81, .int r, .int i, .int to, .int j, .int n, .null, .null, .null], [.int (M 87 r.toNatClampNeg)], M, J)) (fl_n 4 rfl) <|
    fl_dtwo (fl_if (t := 45) rfl rfl) fl_cT (fun h4 =>
     fl_td (s' := (47, [.ref 81, .int r, .int i, .int to, .int j, .int n, .null, .null, .null], [.int 1, .ref 81], M, J)) (fl_n 2 rfl) <|
     fl_td (s' := (50, [.ref 81, .int r, .int i, .int to, .int j, .int n, .null, .null, .null], [.int (-3)], (fl_u (fl_u M 81 14 1) 91 1 ((M 91 1) + 1)), J)) (fl_cv (o := some (.int (-3))) rfl rfl rfl rfl (cc_106 M J 1) rfl) <|
     fl_rt rfl (fun _ => rfl) (by first | (simp only [if_pos h1, if_pos h2, if_neg h3, if_pos h4]; done) | rfl)) (fun h4 =>
     fl_td (s' := (42, [.ref 81, .int r, .int i, .int to, .int j, .int n, .null, .null, .null], [.int (M 87 to.toNatClampNeg)], M, J)) (fl_n 4 rfl) <|
     fl_dnot (fl_if (t := 51) rfl rfl) fl_nlt (fun h5 =>
      fl_td (s' := (47, [.ref 81, .int r, .int i, .int to, .int j, .int n, .null, .null, .null], [.int 1, .ref 81], M, J)) (fl_n 2 rfl) <|
      fl_td (s' := (50, [.ref 81, .int r, .int i, .int to, .int j, .int n, .null, .null, .null], [.int (-3)], (fl_u (fl_u M 81 14 1) 91 1 ((M 91 1) + 1)), J)) (fl_cv (o := some (.int (-3))) rfl rfl rfl rfl (cc_106 M J 1) rfl) <|
      fl_rt rfl (fun _ => rfl) (by first | (simp only [if_pos h1, if_pos h2, if_neg h3, if_neg h4, if_pos h5]; done) | rfl)) (fun h5 =>
      fl_td (s' := (56, [.ref 81, .int r, .int i, .int to, .int j, .int n, .null, .null, .null], [.int n, .int i, .int r, .ref 81], M, J)) (fl_n 4 rfl) <|
      fl_td (s' := (59, [.ref 81, .int r, .int i, .int to, .int j, .int n, .null, .null, .null], [.int (if (¬ (i < 0)) ∧ (¬ (((M 87 r.toNatClampNeg).toInt64) < (i.toInt64 + n.toInt64))) then 1 else 0)], M, J)) (fl_cv (o := some (.int (if (¬ (i < 0)) ∧ (¬ (((M 87 r.toNatClampNeg).toInt64) < (i.toInt64 + n.toInt64))) then 1 else 0))) rfl rfl rfl rfl (cc_114 M J r i n) rfl) <|
      fl_dnot (fl_if (t := 74) rfl rfl) fl_b0 (fun h6 =>
       fl_td (s' := (68, [.ref 81, .int r, .int i, .int to, .int j, .int n, .null, .null, .null], [.int n, .int j, .int to, .ref 81], M, J)) (fl_n 4 rfl) <|
       fl_td (s' := (71, [.ref 81, .int r, .int i, .int to, .int j, .int n, .null, .null, .null], [.int (if (¬ (j < 0)) ∧ (¬ (((M 87 to.toNatClampNeg).toInt64) < (j.toInt64 + n.toInt64))) then 1 else 0)], M, J)) (fl_cv (o := some (.int (if (¬ (j < 0)) ∧ (¬ (((M 87 to.toNatClampNeg).toInt64) < (j.toInt64 + n.toInt64))) then 1 else 0))) rfl rfl rfl rfl (cc_114 M J to j n) rfl) <|
       fl_dtwo (fl_if (t := 80) rfl rfl) fl_b1 (fun h7 =>
        fl_td (s' := (83, [.ref 81, .int r, .int i, .int to, .int j, .int n, .null, .null, .null], [.int j, .int i], M, J)) (fl_n 2 rfl) <|
        fl_dnot (fl_ic (t := 90) rfl rfl) fl_nlt (fun h8 =>
         fl_td (s' := (96, [.ref 81, .int r, .int i, .int to, .int j, .int n, .int 1, .int 0, .null], [], M, J)) (fl_n 5 rfl) <|
         fl_de (lp_113b M J r i to j n (by assumption) (by assumption) (by assumption) (by assumption) (by assumption) hc (by assumption)) (by first | (simp only [if_pos h1, if_pos h2, if_neg h3, if_neg h4, if_neg h5, if_pos h6, if_pos h7, if_pos h8]; done) | rfl)) (fun h8 =>
         fl_td (s' := (96, [.ref 81, .int r, .int i, .int to, .int j, .int n, .int 0, .int 0, .null], [], M, J)) (fl_n 4 rfl) <|
         fl_de (lp_113f M J r i to j n (by assumption) (by assumption) (by assumption) (by assumption) (by assumption) hc (by assumption)) (by first | (simp only [if_pos h1, if_pos h2, if_neg h3, if_neg h4, if_neg h5, if_pos h6, if_pos h7, if_neg h8]; done) | rfl))) (fun h7 =>
        fl_td (s' := (76, [.ref 81, .int r, .int i, .int to, .int j, .int n, .null, .null, .null], [.int 2, .ref 81], M, J)) (fl_n 2 rfl) <|
        fl_td (s' := (79, [.ref 81, .int r, .int i, .int to, .int j, .int n, .null, .null, .null], [.int (-3)], (fl_u (fl_u M 81 14 2) 91 2 ((M 91 2) + 1)), J)) (fl_cv (o := some (.int (-3))) rfl rfl rfl rfl (cc_106 M J 2) rfl) <|
        fl_rt rfl (fun _ => rfl) (by first | (simp only [if_pos h1, if_pos h2, if_neg h3, if_neg h4, if_neg h5, if_pos h6, if_neg h7]; done) | rfl))) (fun h6 =>
       fl_td (s' := (76, [.ref 81, .int r, .int i, .int to, .int j, .int n, .null, .null, .null], [.int 2, .ref 81], M, J)) (fl_n 2 rfl) <|
       fl_td (s' := (79, [.ref 81, .int r, .int i, .int to, .int j, .int n, .null, .null, .null], [.int (-3)], (fl_u (fl_u M 81 14 2) 91 2 ((M 91 2) + 1)), J)) (fl_cv (o := some (.int (-3))) rfl rfl rfl rfl (cc_106 M J 2) rfl) <|
       fl_rt rfl (fun _ => rfl) (by first | (simp only [if_pos h1, if_pos h2, if_neg h3, if_neg h4, if_neg h5, if_neg h6]; done) | rfl)))))) (fun h2 =>
   fl_td (s' := (15, [.ref 81, .int r, .int i, .int to, .int j, .int n, .null, .null, .null], [.int (-1)], M, J)) (fl_n 1 rfl) <|
   fl_rt rfl (fun _ => rfl) (by first | (simp only [if_pos h1, if_neg h2]; done) | rfl))) (fun h1 =>
  fl_td (s' := (15, [.ref 81, .int r, .int i, .int to, .int j, .int n, .null, .null, .null], [.int (-1)], M, J)) (fl_n 1 rfl) <|
  fl_rt rfl (fun _ => rfl) (by first | (simp only [if_neg h1]; done) | rfl))

