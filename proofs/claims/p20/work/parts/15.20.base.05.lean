theorem sg_10 (M : fl_M) (J : fl_J) (r n i : Int32) (s : Int64) : fl_go fB10 (42, [.ref 0, .int r, .int n, .long s, .null, .int i], [], M, J) (if i < n then (42, [.ref 0, .int r, .int n, .long (s + ((M (fl_ar 2 r.toNatClampNeg) i.toNatClampNeg).toInt64)), .null, .int (i + 1)], [], M, J) else (76, [.ref 0, .int r, .int n, .long s, .null, .int i], [.int 1], (fl_u M 0 12 ((s / n.toInt64).toInt32)), J)) :=
 fl_tr (s' := (45, [.ref 0, .int r, .int n, .long s, .null, .int i], [.int n, .int i], M, J)) (fl_n 2 rfl) <|
 fl_not (fl_ic (t := 67) rfl rfl) fl_nlt (fun h1 =>
  fl_tr (s' := (42, [.ref 0, .int r, .int n, .long (s + ((M (fl_ar 2 r.toNatClampNeg) i.toNatClampNeg).toInt64)), .null, .int (i + 1)], [], M, J)) (fl_n 12 rfl) <|
  fl_rfl) (fun h1 =>
  fl_tr (s' := (73, [.ref 0, .int r, .int n, .long s, .null, .int i], [.int ((s / n.toInt64).toInt32), .ref 0], M, J)) (fl_n 6 rfl) <|
  fl_tr (s' := (76, [.ref 0, .int r, .int n, .long s, .null, .int i], [.int 1], (fl_u M 0 12 ((s / n.toInt64).toInt32)), J)) (fl_cv (o := some (.int 1)) rfl rfl rfl rfl (cc_5 M J ((s / n.toInt64).toInt32)) rfl) <|
  fl_rfl)
theorem lp_10 (M : fl_M) (J : fl_J) (r n : Int32) : fl_dn fB10 (42, [.ref 0, .int r, .int n, .long 0, .null, .int 0], [], M, J) (some (.int 1), fl_u M 0 12 (fl_sm (M (fl_ar 2 r.toNatClampNeg)) n.toNatClampNeg / n.toInt64).toInt32, J) := by
  have hb := fi_bd n
  refine fl_itd (S := fun m => (42, [.ref 0, .int r, .int n, .long (fl_sm (M (fl_ar 2 r.toNatClampNeg)) m), .null, .int (Int32.ofNat m)], [], M, J)) n.toNatClampNeg (fun m hm => ?_) ?_ ?_
  · refine fl_ge (sg_10 _ J r n (Int32.ofNat m) _) ?_
    rw [if_pos ((fi_lt (by omega)).mpr hm), fi_at (by omega), fi_s]
    rfl
  · rfl
  · refine fl_td (sg_10 _ J r n _ _) ?_
    rw [if_neg (fun z => absurd ((fi_lt (by omega)).mp z) (by omega))]
    exact fl_rt rfl (fun _ => rfl) rfl
theorem cc_10 (M : fl_M) (J : fl_J) (r : Int32) : fl_C 10 [.ref 0, .int r] M J (some (.int (if (r < 0) ∨ (¬ (r < 6)) then (-1) else (if (M 1 r.toNatClampNeg) = (-1) then (-3) else (if 0 < (M 1 r.toNatClampNeg) then 1 else (-3))))), (if (r < 0) ∨ (¬ (r < 6)) then M else (if (M 1 r.toNatClampNeg) = (-1) then (fl_u (fl_u M 0 11 1) 80 1 ((M 80 1) + 1)) else (if 0 < (M 1 r.toNatClampNeg) then (fl_u M 0 12 (fl_sm (M (fl_ar 2 r.toNatClampNeg)) (M 1 r.toNatClampNeg).toNatClampNeg / (M 1 r.toNatClampNeg).toInt64).toInt32) else (fl_u (fl_u M 0 11 4) 80 4 ((M 80 4) + 1))))), J) :=
 fl_Co (B := fB10) rfl rfl <|
 fl_td (s' := (1, [.ref 0, .int r, .null, .null, .null, .null], [.int r], M, J)) (fl_n 1 rfl) <|
 fl_td (s' := (4, [.ref 0, .int r, .null, .null, .null, .null], [.int (if (r < 0) ∨ (¬ (r < 6)) then 1 else 0)], M, J)) (fl_cs (o := some (.int (if (r < 0) ∨ (¬ (r < 6)) then 1 else 0))) rfl rfl rfl (cc_1 M J r) rfl) <|
 fl_dnot (fl_if (t := 9) rfl rfl) fl_b0 (fun h1 =>
  fl_td (s' := (8, [.ref 0, .int r, .null, .null, .null, .null], [.int (-1)], M, J)) (fl_n 1 rfl) <|
  fl_rt rfl (fun _ => rfl) (by first | (simp only [if_pos h1]; done) | rfl)) (fun h1 =>
  fl_td (s' := (18, [.ref 0, .int r, .int (M 1 r.toNatClampNeg), .null, .null, .null], [.int (-1), .int (M 1 r.toNatClampNeg)], M, J)) (fl_n 7 rfl) <|
  fl_dnot (fl_ic (t := 27) rfl rfl) fl_cF (fun h2 =>
   fl_td (s' := (23, [.ref 0, .int r, .int (M 1 r.toNatClampNeg), .null, .null, .null], [.int 1, .ref 0], M, J)) (fl_n 2 rfl) <|
   fl_td (s' := (26, [.ref 0, .int r, .int (M 1 r.toNatClampNeg), .null, .null, .null], [.int (-3)], (fl_u (fl_u M 0 11 1) 80 1 ((M 80 1) + 1)), J)) (fl_cv (o := some (.int (-3))) rfl rfl rfl rfl (cc_2 M J 1) rfl) <|
   fl_rt rfl (fun _ => rfl) (by first | (simp only [if_neg h1, if_pos h2]; done) | rfl)) (fun h2 =>
   fl_td (s' := (28, [.ref 0, .int r, .int (M 1 r.toNatClampNeg), .null, .null, .null], [.int (M 1 r.toNatClampNeg)], M, J)) (fl_n 1 rfl) <|
   fl_dtwo (fl_if (t := 37) rfl rfl) fl_cT (fun h3 =>
    fl_td (s' := (42, [.ref 0, .int r, .int (M 1 r.toNatClampNeg), .long 0, .null, .int 0], [], M, J)) (fl_n 4 rfl) <|
    fl_de (lp_10 M J r (M 1 r.toNatClampNeg)) (by first | (simp only [if_neg h1, if_neg h2, if_pos h3]; done) | rfl)) (fun h3 =>
    fl_td (s' := (33, [.ref 0, .int r, .int (M 1 r.toNatClampNeg), .null, .null, .null], [.int 4, .ref 0], M, J)) (fl_n 2 rfl) <|
    fl_td (s' := (36, [.ref 0, .int r, .int (M 1 r.toNatClampNeg), .null, .null, .null], [.int (-3)], (fl_u (fl_u M 0 11 4) 80 4 ((M 80 4) + 1)), J)) (fl_cv (o := some (.int (-3))) rfl rfl rfl rfl (cc_2 M J 4) rfl) <|
    fl_rt rfl (fun _ => rfl) (by first | (simp only [if_neg h1, if_neg h2, if_neg h3]; done) | rfl))))
def fB115 : sm_P := (fun pc => sm_ch sm_t115 pc, sm_Kn 3 5 none, fun x => sm_lk sm_ca3 x, some .int)
theorem sg_115 (M : fl_M) (J : fl_J) (r i : Int32) (s : Int64) : fl_go fB115 (44, [.ref 81, .int r, .long s, .null, .int i], [], M, J) (if i < (M 87 r.toNatClampNeg) then (44, [.ref 81, .int r, .long (s + ((M 88 (((40 * r) + i).toNatClampNeg)).toInt64)), .null, .int (i + 1)], [], M, J) else (91, [.ref 81, .int r, .long s, .null, .int i], [.int 1], (fl_u M 81 11 ((s / ((M 87 r.toNatClampNeg).toInt64)).toInt32)), J)) :=
 fl_tr (s' := (52, [.ref 81, .int r, .long s, .null, .int i], [.int (M 87 r.toNatClampNeg), .int i], M, J)) (fl_n 5 rfl) <|
 fl_not (fl_ic (t := 77) rfl rfl) fl_nlt (fun h1 =>
  fl_tr (s' := (44, [.ref 81, .int r, .long (s + ((M 88 (((40 * r) + i).toNatClampNeg)).toInt64)), .null, .int (i + 1)], [], M, J)) (fl_n 14 rfl) <|
  fl_rfl) (fun h1 =>
  fl_tr (s' := (88, [.ref 81, .int r, .long s, .null, .int i], [.int ((s / ((M 87 r.toNatClampNeg).toInt64)).toInt32), .ref 81], M, J)) (fl_n 9 rfl) <|
  fl_tr (s' := (91, [.ref 81, .int r, .long s, .null, .int i], [.int 1], (fl_u M 81 11 ((s / ((M 87 r.toNatClampNeg).toInt64)).toInt32)), J)) (fl_cv (o := some (.int 1)) rfl rfl rfl rfl (cc_110 M J ((s / ((M 87 r.toNatClampNeg).toInt64)).toInt32)) rfl) <|
  fl_rfl)
theorem lp_115 (M : fl_M) (J : fl_J) (r : Int32) (hr : (¬ (r < 0)) ∧ (¬ (5 < r))) (hn : (M 87 r.toNatClampNeg).toInt ≤ 40) : fl_dn fB115 (44, [.ref 81, .int r, .long 0, .null, .int 0], [], M, J) (some (.int 1), fl_u M 81 11 (fl_sm (fun k => M 88 (40 * r.toNatClampNeg + k)) (M 87 r.toNatClampNeg).toNatClampNeg / (M 87 r.toNatClampNeg).toInt64).toInt32, J) := by
  have h1 := fi_ge.mp hr.1
  have h2 := fi_ge.mp hr.2
  rw [fi_i0] at h1
  rw [fi_i5] at h2
  have hb := fi_bd (M 87 r.toNatClampNeg)
  have hc := fi_cl (M 87 r.toNatClampNeg)
  refine fl_itd (S := fun m => (44, [.ref 81, .int r, .long (fl_sm (fun k => M 88 (40 * r.toNatClampNeg + k)) m), .null, .int (Int32.ofNat m)], [], M, J)) (M 87 r.toNatClampNeg).toNatClampNeg (fun m hm => ?_) ?_ ?_
  · refine fl_ge (sg_115 _ J r (Int32.ofNat m) _) ?_
    have e := fi_ti (m := m) (by omega)
    rw [if_pos ((fi_lt (by omega)).mpr hm), fi_40 h1 h2 (by omega) (by omega), fi_at (by omega), fi_s]
    rfl
  · rfl
  · refine fl_td (sg_115 _ J r _ _) ?_
    rw [if_neg (fun z => absurd ((fi_lt (by omega)).mp z) (by omega))]
    exact fl_rt rfl (fun _ => rfl) rfl
theorem cc_115 (M : fl_M) (J : fl_J) (r : Int32) (hn : ∀ q, q < 6 → (M 87 q).toInt ≤ 40) : fl_C 115 [.ref 81, .int r] M J (some (.int (if (¬ (r < 0)) ∧ (¬ (5 < r)) then (if (M 87 r.toNatClampNeg) < 0 then (-3) else (if (M 87 r.toNatClampNeg) = 0 then (-3) else 1)) else (-1))), (if (¬ (r < 0)) ∧ (¬ (5 < r)) then (if (M 87 r.toNatClampNeg) < 0 then (fl_u (fl_u M 81 14 1) 91 1 ((M 91 1) + 1)) else (if (M 87 r.toNatClampNeg) = 0 then (fl_u (fl_u M 81 14 4) 91 4 ((M 91 4) + 1)) else (fl_u M 81 11 (fl_sm (fun k => M 88 (40 * r.toNatClampNeg + k)) (M 87 r.toNatClampNeg).toNatClampNeg / (M 87 r.toNatClampNeg).toInt64).toInt32))) else M), J) :=
 fl_Co (B := fB115) rfl rfl <|
 fl_td (s' := (1, [.ref 81, .int r, .null, .null, .null], [.int r], M, J)) (fl_n 1 rfl) <|
 fl_td (s' := (4, [.ref 81, .int r, .null, .null, .null], [.int (if (¬ (r < 0)) ∧ (¬ (5 < r)) then 1 else 0)], M, J)) (fl_cs (o := some (.int (if (¬ (r < 0)) ∧ (¬ (5 < r)) then 1 else 0))) rfl rfl rfl (cc_104 M J r) rfl) <|
 fl_dtwo (fl_if (t := 9) rfl rfl) fl_b1 (fun h1 =>
  fl_td (s' := (15, [.ref 81, .int r, .null, .null, .null], [.int (M 87 r.toNatClampNeg)], M, J)) (fl_n 4 rfl) <|
  fl_dnot (fl_if (t := 24) rfl rfl) fl_nlt (fun h2 =>
   fl_td (s' := (20, [.ref 81, .int r, .null, .null, .null], [.int 1, .ref 81], M, J)) (fl_n 2 rfl) <|
   fl_td (s' := (23, [.ref 81, .int r, .null, .null, .null], [.int (-3)], (fl_u (fl_u M 81 14 1) 91 1 ((M 91 1) + 1)), J)) (fl_cv (o := some (.int (-3))) rfl rfl rfl rfl (cc_106 M J 1) rfl) <|
   fl_rt rfl (fun _ => rfl) (by first | (simp only [if_pos h1, if_pos h2]; done) | rfl)) (fun h2 =>
   fl_td (s' := (30, [.ref 81, .int r, .null, .null, .null], [.int (M 87 r.toNatClampNeg)], M, J)) (fl_n 4 rfl) <|
   fl_dnot (fl_if (t := 39) rfl rfl) fl_cF (fun h3 =>
    fl_td (s' := (35, [.ref 81, .int r, .null, .null, .null], [.int 4, .ref 81], M, J)) (fl_n 2 rfl) <|
    fl_td (s' := (38, [.ref 81, .int r, .null, .null, .null], [.int (-3)], (fl_u (fl_u M 81 14 4) 91 4 ((M 91 4) + 1)), J)) (fl_cv (o := some (.int (-3))) rfl rfl rfl rfl (cc_106 M J 4) rfl) <|
    fl_rt rfl (fun _ => rfl) (by first | (simp only [if_pos h1, if_neg h2, if_pos h3]; done) | rfl)) (fun h3 =>
    fl_td (s' := (44, [.ref 81, .int r, .long 0, .null, .int 0], [], M, J)) (fl_n 4 rfl) <|
    fl_de (lp_115 M J r (by assumption) (hn _ (fi_r6 (by assumption)))) (by first | (simp only [if_pos h1, if_neg h2, if_neg h3]; done) | rfl)))) (fun h1 =>
  fl_td (s' := (8, [.ref 81, .int r, .null, .null, .null], [.int (-1)], M, J)) (fl_n 1 rfl) <|
  fl_rt rfl (fun _ => rfl) (by first | (simp only [if_neg h1]; done) | rfl))
def fB8 : sm_P := (fun pc => sm_ch sm_t8 pc, sm_Kn 2 6 none, fun x => sm_lk sm_ca2 x, some .int)
