set_option maxRecDepth 8000 in
theorem fs_23_106 (d : Nat) (M : fl_M) (J : fl_J) (i : Int32) (hi : 0 ≤ i.toInt) (h4 : (M 15 1).toInt ≤ 4) (q1 : (i < (M 15 1)) → fw d fB23 (106, [.ref 15, .ref 24, .int (i + 1)], [], (fl_u (fl_u (fl_u (fl_u M 20 i.toNatClampNeg (M 29 i.toNatClampNeg)) 21 i.toNatClampNeg (M 30 i.toNatClampNeg)) 22 i.toNatClampNeg (M 31 i.toNatClampNeg)) 23 i.toNatClampNeg (M 32 i.toNatClampNeg)), J)) : fw d fB23 (106, [.ref 15, .ref 24, .int i], [], M, J) := by
  have hB : fw_B fB23 := fw_sB (k := 23) (by decide)
  exact fw_n (s' := (111, [.ref 15, .ref 24, .int i], [.int (M 15 1), .int i], M, J)) hB 3 rfl <|
  fw_icN hB (t := 168) rfl rfl fl_nlt (fun h1 =>
   fw_n (s' := (124, [.ref 15, .ref 24, .int i], [.int i, .ref 29, .int i, .ref 20], M, J)) hB 6 rfl <|
   fw_ia hB rfl rfl (by decide) (by have z : i.toInt < (M 15 1).toInt := fi_l.mp h1; show 0 ≤ (i).toInt; omega) (by have z : i.toInt < (M 15 1).toInt := fi_l.mp h1; show (i).toInt < 4; omega) <|
   fw_ia2 hB rfl rfl (by decide) (by have z : i.toInt < (M 15 1).toInt := fi_l.mp h1; show 0 ≤ (i).toInt; omega) (by have z : i.toInt < (M 15 1).toInt := fi_l.mp h1; show (i).toInt < 4; omega) <|
   fw_n (s' := (136, [.ref 15, .ref 24, .int i], [.int i, .ref 30, .int i, .ref 21], (fl_u M 20 i.toNatClampNeg (M 29 i.toNatClampNeg)), J)) hB 6 rfl <|
   fw_ia hB rfl rfl (by decide) (by have z : i.toInt < (M 15 1).toInt := fi_l.mp h1; show 0 ≤ (i).toInt; omega) (by have z : i.toInt < (M 15 1).toInt := fi_l.mp h1; show (i).toInt < 4; omega) <|
   fw_ia2 hB rfl rfl (by decide) (by have z : i.toInt < (M 15 1).toInt := fi_l.mp h1; show 0 ≤ (i).toInt; omega) (by have z : i.toInt < (M 15 1).toInt := fi_l.mp h1; show (i).toInt < 4; omega) <|
   fw_n (s' := (148, [.ref 15, .ref 24, .int i], [.int i, .ref 31, .int i, .ref 22], (fl_u (fl_u M 20 i.toNatClampNeg (M 29 i.toNatClampNeg)) 21 i.toNatClampNeg (M 30 i.toNatClampNeg)), J)) hB 6 rfl <|
   fw_ia hB rfl rfl (by decide) (by have z : i.toInt < (M 15 1).toInt := fi_l.mp h1; show 0 ≤ (i).toInt; omega) (by have z : i.toInt < (M 15 1).toInt := fi_l.mp h1; show (i).toInt < 4; omega) <|
   fw_ia2 hB rfl rfl (by decide) (by have z : i.toInt < (M 15 1).toInt := fi_l.mp h1; show 0 ≤ (i).toInt; omega) (by have z : i.toInt < (M 15 1).toInt := fi_l.mp h1; show (i).toInt < 4; omega) <|
   fw_n (s' := (160, [.ref 15, .ref 24, .int i], [.int i, .ref 32, .int i, .ref 23], (fl_u (fl_u (fl_u M 20 i.toNatClampNeg (M 29 i.toNatClampNeg)) 21 i.toNatClampNeg (M 30 i.toNatClampNeg)) 22 i.toNatClampNeg (M 31 i.toNatClampNeg)), J)) hB 6 rfl <|
   fw_ia hB rfl rfl (by decide) (by have z : i.toInt < (M 15 1).toInt := fi_l.mp h1; show 0 ≤ (i).toInt; omega) (by have z : i.toInt < (M 15 1).toInt := fi_l.mp h1; show (i).toInt < 4; omega) <|
   fw_ia2 hB rfl rfl (by decide) (by have z : i.toInt < (M 15 1).toInt := fi_l.mp h1; show 0 ≤ (i).toInt; omega) (by have z : i.toInt < (M 15 1).toInt := fi_l.mp h1; show (i).toInt < 4; omega) <|
   fw_n (s' := (106, [.ref 15, .ref 24, .int (i + 1)], [], (fl_u (fl_u (fl_u (fl_u M 20 i.toNatClampNeg (M 29 i.toNatClampNeg)) 21 i.toNatClampNeg (M 30 i.toNatClampNeg)) 22 i.toNatClampNeg (M 31 i.toNatClampNeg)) 23 i.toNatClampNeg (M 32 i.toNatClampNeg)), J)) hB 2 rfl <|
   (q1 h1)) (fun h1 =>
   fw_rv rfl rfl)
set_option maxRecDepth 8000 in
theorem fs_21_66 (d : Nat) (M : fl_M) (J : fl_J) (t i : Int32) (hi : 0 ≤ i.toInt) (q1 : (i < 3) → fw d fB21 (66, [.ref 0, .int t, .int (i + 1)], [], (fl_u M (fl_ar 46 i.toNatClampNeg) 0 (-1)), J)) : fw d fB21 (66, [.ref 0, .int t, .int i], [], M, J) := by
  have hB : fw_B fB21 := fw_sB (k := 21) (by decide)
  exact fw_n (s' := (68, [.ref 0, .int t, .int i], [.int 3, .int i], M, J)) hB 2 rfl <|
  fw_icN hB (t := 87) rfl rfl fl_nlt (fun h1 =>
   fw_n (s' := (76, [.ref 0, .int t, .int i], [.int i, .ref 46], M, J)) hB 3 rfl <|
   fw_aa hB rfl (by decide) (by decide) (by have z : i.toInt < 3 := fi_l.mp h1; show 0 ≤ (i).toInt; omega) (by have z : i.toInt < 3 := fi_l.mp h1; show (i).toInt < 3; omega) <|
   fw_n (s' := (78, [.ref 0, .int t, .int i], [.int (-1), .ref (fl_ar 46 i.toNatClampNeg)], M, J)) hB 1 rfl <|
   fw_pf (ci := 0) (j := 0) hB rfl rfl (kd46 hi (fi_l.mp h1)) (by decide) (by decide) <|
   fw_n (s' := (66, [.ref 0, .int t, .int (i + 1)], [], (fl_u M (fl_ar 46 i.toNatClampNeg) 0 (-1)), J)) hB 2 rfl <|
   (q1 h1)) (fun h1 =>
   fw_n (s' := (94, [.ref 0, .int t, .int i], [.int (M 15 1)], M, J)) hB 3 rfl <|
   fw_ri rfl rfl)
set_option maxRecDepth 8000 in
theorem fs_129_39 (d : Nat) (M : fl_M) (J : fl_J) (t i : Int32) (hi : 0 ≤ i.toInt) (q1 : (i < 944) → fw d fB129 (39, [.ref 81, .int t, .int (i + 1)], [], (fl_u M 82 i.toNatClampNeg 0), J)) (q2 : (¬ (i < 944)) → fw d fB129 (85, [.ref 81, .int t, .int 0], [], (fl_u (fl_u (fl_u M 82 2 (-9)) 81 1 (M 81 19)) 81 4 (M 81 22)), J)) : fw d fB129 (39, [.ref 81, .int t, .int i], [], M, J) := by
  have hB : fw_B fB129 := fw_sB (k := 129) (by decide)
  exact fw_n (s' := (43, [.ref 81, .int t, .int i], [.int 944, .int i], M, J)) hB 2 rfl <|
  fw_icN hB (t := 59) rfl rfl fl_nlt (fun h1 =>
   fw_n (s' := (52, [.ref 81, .int t, .int i], [.int 0, .int i, .ref 82], M, J)) hB 4 rfl <|
   fw_ia2 hB rfl rfl (by decide) (by have z : i.toInt < 944 := fi_l.mp h1; show 0 ≤ (i).toInt; omega) (by have z : i.toInt < 944 := fi_l.mp h1; show (i).toInt < 3800; omega) <|
   fw_n (s' := (39, [.ref 81, .int t, .int (i + 1)], [], (fl_u M 82 i.toNatClampNeg 0), J)) hB 2 rfl <|
   (q1 h1)) (fun h1 =>
   fw_n (s' := (66, [.ref 81, .int t, .int i], [.int (-9), .int 2, .ref 82], M, J)) hB 4 rfl <|
   fw_ia2 hB rfl rfl (by decide) (by decide) (by decide) <|
   fw_n (s' := (85, [.ref 81, .int t, .int 0], [], (fl_u (fl_u (fl_u M 82 2 (-9)) 81 1 (M 81 19)) 81 4 (M 81 22)), J)) hB 10 rfl <|
   (q2 h1))
set_option maxRecDepth 8000 in
theorem fs_129_85 (d : Nat) (M : fl_M) (J : fl_J) (t i : Int32) (hi : 0 ≤ i.toInt) (hi8 : i.toInt ≤ 8) (h8 : (M 81 1).toInt ≤ 8) (q1 : (i < (M 81 1)) → fw d fB129 (85, [.ref 81, .int t, .int (i + 1)], [], (fl_u (fl_u (fl_u M 83 i.toNatClampNeg (M 92 i.toNatClampNeg)) 84 i.toNatClampNeg (M 93 i.toNatClampNeg)) 82 ((4 + i).toNatClampNeg) (M 93 i.toNatClampNeg)), J)) (q2 : (¬ (i < (M 81 1))) → fw d fB129 (139, [.ref 81, .int t, .int 0], [], M, J)) : fw d fB129 (85, [.ref 81, .int t, .int i], [], M, J) := by
  have hB : fw_B fB129 := fw_sB (k := 129) (by decide)
  have e4 : (4 + i).toInt = 4 + i.toInt := by rw [fi_add (by rw [fi_i4]; omega) (by rw [fi_i4]; omega), fi_i4]
  exact fw_n (s' := (90, [.ref 81, .int t, .int i], [.int (M 81 1), .int i], M, J)) hB 3 rfl <|
  fw_icN hB (t := 137) rfl rfl fl_nlt (fun h1 =>
   fw_n (s' := (103, [.ref 81, .int t, .int i], [.int i, .ref 92, .int i, .ref 83], M, J)) hB 6 rfl <|
   fw_ia hB rfl rfl (by decide) (by have z : i.toInt < (M 81 1).toInt := fi_l.mp h1; show 0 ≤ (i).toInt; omega) (by have z : i.toInt < (M 81 1).toInt := fi_l.mp h1; show (i).toInt < 8; omega) <|
   fw_ia2 hB rfl rfl (by decide) (by have z : i.toInt < (M 81 1).toInt := fi_l.mp h1; show 0 ≤ (i).toInt; omega) (by have z : i.toInt < (M 81 1).toInt := fi_l.mp h1; show (i).toInt < 8; omega) <|
   fw_n (s' := (115, [.ref 81, .int t, .int i], [.int i, .ref 93, .int i, .ref 84], (fl_u M 83 i.toNatClampNeg (M 92 i.toNatClampNeg)), J)) hB 6 rfl <|
   fw_ia hB rfl rfl (by decide) (by have z : i.toInt < (M 81 1).toInt := fi_l.mp h1; show 0 ≤ (i).toInt; omega) (by have z : i.toInt < (M 81 1).toInt := fi_l.mp h1; show (i).toInt < 8; omega) <|
   fw_ia2 hB rfl rfl (by decide) (by have z : i.toInt < (M 81 1).toInt := fi_l.mp h1; show 0 ≤ (i).toInt; omega) (by have z : i.toInt < (M 81 1).toInt := fi_l.mp h1; show (i).toInt < 8; omega) <|
   fw_n (s' := (129, [.ref 81, .int t, .int i], [.int i, .ref 93, .int (4 + i), .ref 82], (fl_u (fl_u M 83 i.toNatClampNeg (M 92 i.toNatClampNeg)) 84 i.toNatClampNeg (M 93 i.toNatClampNeg)), J)) hB 8 rfl <|
   fw_ia hB rfl rfl (by decide) (by have z : i.toInt < (M 81 1).toInt := fi_l.mp h1; show 0 ≤ (i).toInt; omega) (by have z : i.toInt < (M 81 1).toInt := fi_l.mp h1; show (i).toInt < 8; omega) <|
   fw_ia2 hB rfl rfl (by decide) (by have z : i.toInt < (M 81 1).toInt := fi_l.mp h1; show 0 ≤ (4 + i).toInt; omega) (by have z : i.toInt < (M 81 1).toInt := fi_l.mp h1; show (4 + i).toInt < 3800; omega) <|
   fw_n (s' := (85, [.ref 81, .int t, .int (i + 1)], [], (fl_u (fl_u (fl_u M 83 i.toNatClampNeg (M 92 i.toNatClampNeg)) 84 i.toNatClampNeg (M 93 i.toNatClampNeg)) 82 ((4 + i).toNatClampNeg) (M 93 i.toNatClampNeg)), J)) hB 2 rfl <|
   (q1 h1)) (fun h1 =>
   fw_n (s' := (139, [.ref 81, .int t, .int 0], [], M, J)) hB 2 rfl <|
   (q2 h1))
set_option maxRecDepth 8000 in
theorem fs_129_139 (d : Nat) (M : fl_M) (J : fl_J) (t i : Int32) (hi : 0 ≤ i.toInt) (hi4 : i.toInt ≤ 4) (h4 : (M 81 4).toInt ≤ 4) (q1 : (i < (M 81 4)) → fw d fB129 (139, [.ref 81, .int t, .int (i + 1)], [], (fl_u (fl_u (fl_u M 85 i.toNatClampNeg (M 94 ((3 * i).toNatClampNeg))) 82 ((20 + i).toNatClampNeg) (M 94 (((3 * i) + 1).toNatClampNeg))) 86 i.toNatClampNeg (M 94 (((3 * i) + 2).toNatClampNeg))), J)) (q2 : (¬ (i < (M 81 4))) → fw d fB129 (204, [.ref 81, .int t, .int 1], [], M, J)) : fw d fB129 (139, [.ref 81, .int t, .int i], [], M, J) := by
  have hB : fw_B fB129 := fw_sB (k := 129) (by decide)
  have e20 : (20 + i).toInt = 20 + i.toInt := by rw [fi_add (by rw [fj_20]; omega) (by rw [fj_20]; omega), fj_20]
  have e3 : (3 * i).toInt = 3 * i.toInt := by rw [fi_mul (by rw [fi_i3]; omega) (by rw [fi_i3]; omega), fi_i3]
  have e31 : ((3 * i) + 1).toInt = 3 * i.toInt + 1 := by rw [fi_p1 (by omega), e3]
  have e32 : ((3 * i) + 2).toInt = 3 * i.toInt + 2 := by rw [fi_add (by rw [fj_2]; omega) (by rw [fj_2]; omega), e3, fj_2]
  exact fw_n (s' := (144, [.ref 81, .int t, .int i], [.int (M 81 4), .int i], M, J)) hB 3 rfl <|
  fw_icN hB (t := 202) rfl rfl fl_nlt (fun h1 =>
   fw_n (s' := (159, [.ref 81, .int t, .int i], [.int (3 * i), .ref 94, .int i, .ref 85], M, J)) hB 8 rfl <|
   fw_ia hB rfl rfl (by decide) (by have z : i.toInt < (M 81 4).toInt := fi_l.mp h1; show 0 ≤ (3 * i).toInt; omega) (by have z : i.toInt < (M 81 4).toInt := fi_l.mp h1; show (3 * i).toInt < 12; omega) <|
   fw_ia2 hB rfl rfl (by decide) (by have z : i.toInt < (M 81 4).toInt := fi_l.mp h1; show 0 ≤ (i).toInt; omega) (by have z : i.toInt < (M 81 4).toInt := fi_l.mp h1; show (i).toInt < 4; omega) <|
   fw_n (s' := (178, [.ref 81, .int t, .int i], [.int ((3 * i) + 1), .ref 94, .int (20 + i), .ref 82], (fl_u M 85 i.toNatClampNeg (M 94 ((3 * i).toNatClampNeg))), J)) hB 12 rfl <|
   fw_ia hB rfl rfl (by decide) (by have z : i.toInt < (M 81 4).toInt := fi_l.mp h1; show 0 ≤ ((3 * i) + 1).toInt; omega) (by have z : i.toInt < (M 81 4).toInt := fi_l.mp h1; show ((3 * i) + 1).toInt < 12; omega) <|
   fw_ia2 hB rfl rfl (by decide) (by have z : i.toInt < (M 81 4).toInt := fi_l.mp h1; show 0 ≤ (20 + i).toInt; omega) (by have z : i.toInt < (M 81 4).toInt := fi_l.mp h1; show (20 + i).toInt < 3800; omega) <|
   fw_n (s' := (194, [.ref 81, .int t, .int i], [.int ((3 * i) + 2), .ref 94, .int i, .ref 86], (fl_u (fl_u M 85 i.toNatClampNeg (M 94 ((3 * i).toNatClampNeg))) 82 ((20 + i).toNatClampNeg) (M 94 (((3 * i) + 1).toNatClampNeg))), J)) hB 10 rfl <|
   fw_ia hB rfl rfl (by decide) (by have z : i.toInt < (M 81 4).toInt := fi_l.mp h1; show 0 ≤ ((3 * i) + 2).toInt; omega) (by have z : i.toInt < (M 81 4).toInt := fi_l.mp h1; show ((3 * i) + 2).toInt < 12; omega) <|
   fw_ia2 hB rfl rfl (by decide) (by have z : i.toInt < (M 81 4).toInt := fi_l.mp h1; show 0 ≤ (i).toInt; omega) (by have z : i.toInt < (M 81 4).toInt := fi_l.mp h1; show (i).toInt < 4; omega) <|
   fw_n (s' := (139, [.ref 81, .int t, .int (i + 1)], [], (fl_u (fl_u (fl_u M 85 i.toNatClampNeg (M 94 ((3 * i).toNatClampNeg))) 82 ((20 + i).toNatClampNeg) (M 94 (((3 * i) + 1).toNatClampNeg))) 86 i.toNatClampNeg (M 94 (((3 * i) + 2).toNatClampNeg))), J)) hB 2 rfl <|
   (q1 h1)) (fun h1 =>
   fw_n (s' := (204, [.ref 81, .int t, .int 1], [], M, J)) hB 2 rfl <|
   (q2 h1))
set_option maxRecDepth 8000 in
theorem fs_129_204 (d : Nat) (M : fl_M) (J : fl_J) (t i : Int32) (hi : 0 ≤ i.toInt) (hi4 : i.toInt ≤ 4) (q1 : (i < 4) → fw d fB129 (204, [.ref 81, .int t, .int (i + 1)], [], (fl_u M 82 (((944 * i) + 0).toNatClampNeg) (-1)), J)) : fw d fB129 (204, [.ref 81, .int t, .int i], [], M, J) := by
  have hB : fw_B fB129 := fw_sB (k := 129) (by decide)
  have e9 : ((944 * i) + 0).toInt = 944 * i.toInt := by rw [Int32.add_zero, fi_mul (by rw [fi_944]; omega) (by rw [fi_944]; omega), fi_944]
  exact fw_n (s' := (206, [.ref 81, .int t, .int i], [.int 4, .int i], M, J)) hB 2 rfl <|
  fw_icN hB (t := 228) rfl rfl fl_nlt (fun h1 =>
   fw_n (s' := (221, [.ref 81, .int t, .int i], [.int (-1), .int ((944 * i) + 0), .ref 82], M, J)) hB 8 rfl <|
   fw_ia2 hB rfl rfl (by decide) (by have z : i.toInt < 4 := fi_l.mp h1; show 0 ≤ ((944 * i) + 0).toInt; omega) (by have z : i.toInt < 4 := fi_l.mp h1; show ((944 * i) + 0).toInt < 3800; omega) <|
   fw_n (s' := (204, [.ref 81, .int t, .int (i + 1)], [], (fl_u M 82 (((944 * i) + 0).toNatClampNeg) (-1)), J)) hB 2 rfl <|
   (q1 h1)) (fun h1 =>
   fw_n (s' := (232, [.ref 81, .int t, .int i], [.int (M 81 4)], M, J)) hB 2 rfl <|
   fw_ri rfl rfl)
theorem fq_22b (d : Nat) (J : fl_J) : ∀ (n : Nat) (i : Int32) (M : fl_M), 0 ≤ i.toInt → (M 24 1).toInt ≤ 4 → 4 ≤ i.toInt + n → fw d fB22 (53, [.ref 24, .int i], [], M, J) := by
  intro n
  induction n with
  | zero => intro i M hi h4 hn; exact fs_22_53 d M J i hi h4 (fun z => by have z := fi_l.mp z; omega)
  | succ n ih =>
    intro i M hi h4 hn
    refine fs_22_53 d M J i hi h4 (fun z => ?_)
    have z := fi_l.mp z
    have e := fi_p1 (p := i) (by omega)
    exact ih _ _ (by omega) (by rw [fl_un (by decide)]; exact h4) (by omega)
theorem fq_22a (d : Nat) (J : fl_J) : ∀ (n : Nat) (i : Int32) (M : fl_M), 0 ≤ i.toInt → (M 24 0).toInt ≤ 8 → (M 24 1).toInt ≤ 4 → 8 ≤ i.toInt + n → fw d fB22 (18, [.ref 24, .int i], [], M, J) := by
  intro n
  induction n with
  | zero => intro i M hi h8 h4 hn; exact fs_22_18 d M J i hi h8 (fun z => by have z := fi_l.mp z; omega) (fun _ => fq_22b d J 4 _ _ (by decide) h4 (by decide))
  | succ n ih =>
    intro i M hi h8 h4 hn
    refine fs_22_18 d M J i hi h8 (fun z => ?_) (fun _ => fq_22b d J 4 _ _ (by decide) h4 (by decide))
    have z := fi_l.mp z
    have e := fi_p1 (p := i) (by omega)
    exact ih _ _ (by omega) (by rw [fl_un (by decide), fl_un (by decide)]; exact h8) (by rw [fl_un (by decide), fl_un (by decide)]; exact h4) (by omega)
theorem ct_22 (d : Nat) (M : fl_M) (J : fl_J) (h8 : (M 24 0).toInt ≤ 8) (h4 : (M 24 1).toInt ≤ 4) : tw_C (d + 1) 22 [.ref 24] M J (none, bgn 24 M, J) := by
  refine ⟨fw_Co (d := d) (B := fB22) (by decide) rfl rfl (show (1 : Nat) ≤ 2 by decide) ?_ ?_, cc_22 M J 24⟩
  · intro i v hv hn
    match i, hv with
    | 0, hv => cases hv; rfl
    | 1, hv => cases hv; exact absurd rfl hn
    | _ + 2, hv => cases hv
  · exact fs_22_0 d M J (fq_22a d J 8 _ _ (by decide) (by rw [fl_uo (Or.inr (by decide)), fl_uo (Or.inr (by decide)), fl_uo (Or.inr (by decide))]; exact h8) (by rw [fl_uo (Or.inr (by decide)), fl_uo (Or.inr (by decide)), fl_uo (Or.inr (by decide))]; exact h4) (by decide))
theorem fq_23b (d : Nat) (J : fl_J) : ∀ (n : Nat) (i : Int32) (M : fl_M), 0 ≤ i.toInt → (M 15 1).toInt ≤ 4 → 4 ≤ i.toInt + n → fw d fB23 (106, [.ref 15, .ref 24, .int i], [], M, J) := by
  intro n
  induction n with
  | zero => intro i M hi h4 hn; exact fs_23_106 d M J i hi h4 (fun z => by have z := fi_l.mp z; omega)
  | succ n ih =>
    intro i M hi h4 hn
    refine fs_23_106 d M J i hi h4 (fun z => ?_)
    have z := fi_l.mp z
    have e := fi_p1 (p := i) (by omega)
    exact ih _ _ (by omega) (by rw [fl_un (by decide), fl_un (by decide), fl_un (by decide), fl_un (by decide)]; exact h4) (by omega)
theorem fq_23a (d : Nat) (J : fl_J) : ∀ (n : Nat) (i : Int32) (M : fl_M), 0 ≤ i.toInt → (M 15 0).toInt ≤ 8 → (M 15 1).toInt ≤ 4 → 8 ≤ i.toInt + n → fw d fB23 (42, [.ref 15, .ref 24, .int i], [], M, J) := by
  intro n
  induction n with
  | zero => intro i M hi h8 h4 hn; exact fs_23_42 d M J i hi h8 (fun z => by have z := fi_l.mp z; omega) (fun _ => fq_23b d J 4 _ _ (by decide) h4 (by decide))
  | succ n ih =>
    intro i M hi h8 h4 hn
    refine fs_23_42 d M J i hi h8 (fun z => ?_) (fun _ => fq_23b d J 4 _ _ (by decide) h4 (by decide))
    have z := fi_l.mp z
    have e := fi_p1 (p := i) (by omega)
    exact ih _ _ (by omega) (by rw [fl_un (by decide), fl_un (by decide), fl_un (by decide), fl_un (by decide)]; exact h8) (by rw [fl_un (by decide), fl_un (by decide), fl_un (by decide), fl_un (by decide)]; exact h4) (by omega)
