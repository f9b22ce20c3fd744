theorem cc_126 (d : Nat) (M : fl_M) (J : fl_J) (lo hi : Int32) (hF : 0 ≤ (M 81 16).toInt) (hF2 : (M 81 16).toInt ≤ 180) (hP : 0 ≤ (M 81 17).toInt) (hE : (M 81 17).toInt ≤ (M 81 18).toInt) (hE2 : (M 81 18).toInt ≤ 60) : tw_C (d + 3) 126 [.ref 81, .int lo, .int hi] M J (some (.int (if rg M 0 9 = true then (if rg (fl_u M 81 17 ((M 81 17) + 1)) 0 9 = true then (if (¬ ((10 * (rv M)) + (rv (fl_u M 81 17 ((M 81 17) + 1))) < lo)) ∧ (¬ (hi < (10 * (rv M)) + (rv (fl_u M 81 17 ((M 81 17) + 1))))) then (10 * (rv M)) + (rv (fl_u M 81 17 ((M 81 17) + 1))) else (-9)) else (-9)) else (-9))), (if rg M 0 9 = true then (if rg (fl_u M 81 17 ((M 81 17) + 1)) 0 9 = true then (if (¬ ((10 * (rv M)) + (rv (fl_u M 81 17 ((M 81 17) + 1))) < lo)) ∧ (¬ (hi < (10 * (rv M)) + (rv (fl_u M 81 17 ((M 81 17) + 1))))) then (fl_u (fl_u M 81 17 ((M 81 17) + 1)) 81 17 (((M 81 17) + 1) + 1)) else (fl_u (fl_u (fl_u M 81 17 ((M 81 17) + 1)) 81 17 (((M 81 17) + 1) + 1)) 81 17 (M 81 17))) else (fl_u M 81 17 ((M 81 17) + 1))) else M), J) := by
  have hB : fw_B fB126 := fw_sB (k := 126) (by decide)
  have ep : ((M 81 17) + 1).toInt = (M 81 17).toInt + 1 := fi_p1 (by omega)
  have ep2 : (((M 81 17) + 1) + 1).toInt = (M 81 17).toInt + 2 := by rw [fi_p1 (by omega), ep]; omega
  have ep3 : ((((M 81 17) + 1) + 1) + 1).toInt = (M 81 17).toInt + 3 := by rw [fi_p1 (by omega), ep2]; omega
  refine tw_Co (d := d + 2) (B := fB126) (by decide) rfl rfl (show (3 : Nat) ≤ 6 by decide) ?_ ?_
  · intro i v hv hn
    match i, hv with
    | 0, hv => cases hv; rfl
    | 1, hv => cases hv; rfl
    | 2, hv => cases hv; rfl
    | 3, hv => cases hv; exact absurd rfl hn
    | 4, hv => cases hv; exact absurd rfl hn
    | 5, hv => cases hv; exact absurd rfl hn
    | _ + 6, hv => cases hv
  exact tw_n (s' := (9, [.ref 81, .int lo, .int hi, .int (M 81 17), .null, .null], [.int 9, .int 0, .ref 81], M, J)) hB 6 rfl <|
  tw_dc (c := rg M 0 9 = true) (fun h1 =>
   have z1 : (M 81 17).toInt ≠ (M 81 18).toInt := rg_lt h1; tw_cv hB (st0 := []) (o := some (.int (rv M))) rfl rfl rfl rfl rfl (show (0 : Nat) ≤ 8 by decide) rfl (by decide) (tw_Ce (show tw_C _ 125 [.ref 81, .int 0, .int 9] M J (some (.int (if rg M 0 9 = true then rv M else (-9))), (if rg M 0 9 = true then (fl_u M 81 17 ((M 81 17) + 1)) else M), J) from (cc_125 _ M J 0 9 (show 0 ≤ (M 81 16).toInt by omega) (show (M 81 16).toInt ≤ 180 by omega) (show 0 ≤ (M 81 17).toInt by omega) (show (M 81 17).toInt ≤ (M 81 18).toInt by omega) (show (M 81 18).toInt ≤ 60 by omega))) (by first | (simp only [if_pos h1]; done) | (simp only [if_pos h1]; rfl))) rfl <|
   tw_sh (s := (12, [.ref 81, .int lo, .int hi, .int (M 81 17), .null, .null], [.int (rv M)], (fl_u M 81 17 ((M 81 17) + 1)), J)) <|
   tw_n (s' := (18, [.ref 81, .int lo, .int hi, .int (M 81 17), .int (rv M), .null], [.int (-9), .int (rv M)], (fl_u M 81 17 ((M 81 17) + 1)), J)) hB 3 rfl <|
   tw_icN hB (t := 26) rfl rfl fl_cF (fun h2 =>
    absurd h2 (rg_ne (by assumption) (by decide) (by decide))) (fun h2 =>
    tw_n (s' := (30, [.ref 81, .int lo, .int hi, .int (M 81 17), .int (rv M), .null], [.int 9, .int 0, .ref 81], (fl_u M 81 17 ((M 81 17) + 1)), J)) hB 3 rfl <|
    tw_dc (c := rg (fl_u M 81 17 ((M 81 17) + 1)) 0 9 = true) (fun h3 =>
     have z3 : ((M 81 17) + 1).toInt ≠ (M 81 18).toInt := rg_lt h3; tw_cv hB (st0 := []) (o := some (.int (rv (fl_u M 81 17 ((M 81 17) + 1))))) rfl rfl rfl rfl rfl (show (0 : Nat) ≤ 8 by decide) rfl (by decide) (tw_Ce (show tw_C _ 125 [.ref 81, .int 0, .int 9] (fl_u M 81 17 ((M 81 17) + 1)) J (some (.int (if rg (fl_u M 81 17 ((M 81 17) + 1)) 0 9 = true then rv (fl_u M 81 17 ((M 81 17) + 1)) else (-9))), (if rg (fl_u M 81 17 ((M 81 17) + 1)) 0 9 = true then (fl_u (fl_u M 81 17 ((M 81 17) + 1)) 81 17 (((M 81 17) + 1) + 1)) else (fl_u M 81 17 ((M 81 17) + 1))), J) from (cc_125 _ (fl_u M 81 17 ((M 81 17) + 1)) J 0 9 (show 0 ≤ (M 81 16).toInt by omega) (show (M 81 16).toInt ≤ 180 by omega) (show 0 ≤ ((M 81 17) + 1).toInt by omega) (show ((M 81 17) + 1).toInt ≤ (M 81 18).toInt by omega) (show (M 81 18).toInt ≤ 60 by omega))) (by first | (simp only [if_pos h3]; done) | (simp only [if_pos h3]; rfl))) rfl <|
     tw_sh (s := (33, [.ref 81, .int lo, .int hi, .int (M 81 17), .int (rv M), .null], [.int (rv (fl_u M 81 17 ((M 81 17) + 1)))], (fl_u (fl_u M 81 17 ((M 81 17) + 1)) 81 17 (((M 81 17) + 1) + 1)), J)) <|
     tw_n (s' := (39, [.ref 81, .int lo, .int hi, .int (M 81 17), .int (rv M), .int (rv (fl_u M 81 17 ((M 81 17) + 1)))], [.int (-9), .int (rv (fl_u M 81 17 ((M 81 17) + 1)))], (fl_u (fl_u M 81 17 ((M 81 17) + 1)) 81 17 (((M 81 17) + 1) + 1)), J)) hB 3 rfl <|
     tw_icN hB (t := 45) rfl rfl fl_cF (fun h4 =>
      absurd h4 (rg_ne (by assumption) (by decide) (by decide))) (fun h4 =>
      tw_n (s' := (58, [.ref 81, .int lo, .int hi, .int (M 81 17), .int (rv M), .int (rv (fl_u M 81 17 ((M 81 17) + 1)))], [.long hi.toInt64, .long lo.toInt64, .long (((10 * (rv M)) + (rv (fl_u M 81 17 ((M 81 17) + 1)))).toInt64)], (fl_u (fl_u M 81 17 ((M 81 17) + 1)) 81 17 (((M 81 17) + 1) + 1)), J)) hB 10 rfl <|
      tw_cs hB (st0 := []) (o := some (.int (if (¬ ((10 * (rv M)) + (rv (fl_u M 81 17 ((M 81 17) + 1))) < lo)) ∧ (¬ (hi < (10 * (rv M)) + (rv (fl_u M 81 17 ((M 81 17) + 1))))) then 1 else 0))) rfl rfl (by decide) rfl rfl (show (0 : Nat) ≤ 8 by decide) (ct_105i _ (fl_u (fl_u M 81 17 ((M 81 17) + 1)) 81 17 (((M 81 17) + 1) + 1)) J ((10 * (rv M)) + (rv (fl_u M 81 17 ((M 81 17) + 1)))) lo hi) rfl <|
      tw_sh (s := (61, [.ref 81, .int lo, .int hi, .int (M 81 17), .int (rv M), .int (rv (fl_u M 81 17 ((M 81 17) + 1)))], [.int (if (¬ ((10 * (rv M)) + (rv (fl_u M 81 17 ((M 81 17) + 1))) < lo)) ∧ (¬ (hi < (10 * (rv M)) + (rv (fl_u M 81 17 ((M 81 17) + 1))))) then 1 else 0)], (fl_u (fl_u M 81 17 ((M 81 17) + 1)) 81 17 (((M 81 17) + 1) + 1)), J)) <|
      tw_if hB (t := 72) rfl rfl fl_b1 (fun h5 =>
       tw_n (s' := (80, [.ref 81, .int lo, .int hi, .int (M 81 17), .int (rv M), .int (rv (fl_u M 81 17 ((M 81 17) + 1)))], [.int ((10 * (rv M)) + (rv (fl_u M 81 17 ((M 81 17) + 1))))], (fl_u (fl_u M 81 17 ((M 81 17) + 1)) 81 17 (((M 81 17) + 1) + 1)), J)) hB 5 rfl <|
       tw_ri rfl rfl (by first | (simp only [if_pos h1, if_neg h2, if_pos h3, if_neg h4, if_pos h5]; done) | rfl)) (fun h5 =>
       tw_n (s' := (71, [.ref 81, .int lo, .int hi, .int (M 81 17), .int (rv M), .int (rv (fl_u M 81 17 ((M 81 17) + 1)))], [.int (-9)], (fl_u (fl_u (fl_u M 81 17 ((M 81 17) + 1)) 81 17 (((M 81 17) + 1) + 1)) 81 17 (M 81 17)), J)) hB 4 rfl <|
       tw_ri rfl rfl (by first | (simp only [if_pos h1, if_neg h2, if_pos h3, if_neg h4, if_neg h5]; done) | rfl)))) (fun h3 =>
     tw_cv hB (st0 := []) (o := some (.int (-9))) rfl rfl rfl rfl rfl (show (0 : Nat) ≤ 8 by decide) rfl (by decide) (tw_Ce (show tw_C _ 125 [.ref 81, .int 0, .int 9] (fl_u M 81 17 ((M 81 17) + 1)) J (some (.int (if rg (fl_u M 81 17 ((M 81 17) + 1)) 0 9 = true then rv (fl_u M 81 17 ((M 81 17) + 1)) else (-9))), (if rg (fl_u M 81 17 ((M 81 17) + 1)) 0 9 = true then (fl_u (fl_u M 81 17 ((M 81 17) + 1)) 81 17 (((M 81 17) + 1) + 1)) else (fl_u M 81 17 ((M 81 17) + 1))), J) from (cc_125 _ (fl_u M 81 17 ((M 81 17) + 1)) J 0 9 (show 0 ≤ (M 81 16).toInt by omega) (show (M 81 16).toInt ≤ 180 by omega) (show 0 ≤ ((M 81 17) + 1).toInt by omega) (show ((M 81 17) + 1).toInt ≤ (M 81 18).toInt by omega) (show (M 81 18).toInt ≤ 60 by omega))) (by first | (simp only [if_neg h3]; done) | (simp only [if_neg h3]; rfl))) rfl <|
     tw_sh (s := (33, [.ref 81, .int lo, .int hi, .int (M 81 17), .int (rv M), .null], [.int (-9)], (fl_u M 81 17 ((M 81 17) + 1)), J)) <|
     tw_n (s' := (44, [.ref 81, .int lo, .int hi, .int (M 81 17), .int (rv M), .int (-9)], [.int (-9)], (fl_u M 81 17 ((M 81 17) + 1)), J)) hB 5 rfl <|
     tw_ri rfl rfl (by first | (simp only [if_pos h1, if_neg h2, if_neg h3]; done) | rfl)))) (fun h1 =>
   tw_cv hB (st0 := []) (o := some (.int (-9))) rfl rfl rfl rfl rfl (show (0 : Nat) ≤ 8 by decide) rfl (by decide) (tw_Ce (show tw_C _ 125 [.ref 81, .int 0, .int 9] M J (some (.int (if rg M 0 9 = true then rv M else (-9))), (if rg M 0 9 = true then (fl_u M 81 17 ((M 81 17) + 1)) else M), J) from (cc_125 _ M J 0 9 (show 0 ≤ (M 81 16).toInt by omega) (show (M 81 16).toInt ≤ 180 by omega) (show 0 ≤ (M 81 17).toInt by omega) (show (M 81 17).toInt ≤ (M 81 18).toInt by omega) (show (M 81 18).toInt ≤ 60 by omega))) (by first | (simp only [if_neg h1]; done) | (simp only [if_neg h1]; rfl))) rfl <|
   tw_sh (s := (12, [.ref 81, .int lo, .int hi, .int (M 81 17), .null, .null], [.int (-9)], M, J)) <|
   tw_n (s' := (44, [.ref 81, .int lo, .int hi, .int (M 81 17), .int (-9), .int (-9)], [.int (-9)], M, J)) hB 11 rfl <|
   tw_ri rfl rfl (by first | (simp only [if_neg h1]; done) | rfl))
def fB128 : sm_P := (fun pc => sm_ch sm_t128 pc, sm_Kn 3 1 none, fun x => sm_lk sm_ca3 x, some .int)
theorem cr_128 (d : Nat) (M : fl_M) (J : fl_J) (c : Int32) : tw_C (d + 1) 128 [.int c] M J (some (.int (if c = 109 then 0 else (if c = 121 then 1 else (if c = 111 then 2 else (if c = 104 then 3 else (if c = 119 then 4 else (if c = 103 then 5 else (-9)))))))), M, J) := by
  have hB : fw_B fB128 := fw_sB (k := 128) (by decide)
  refine tw_Co (d := d + 0) (B := fB128) (by decide) rfl rfl (show (1 : Nat) ≤ 1 by decide) ?_ ?_
  · intro i v hv hn
    match i, hv with
    | 0, hv => cases hv; rfl
    | _ + 1, hv => cases hv
  exact tw_n (s' := (3, [.int c], [.int 109, .int c], M, J)) hB 2 rfl <|
  tw_icN hB (t := 10) rfl rfl fl_cF (fun h1 =>
   tw_n (s' := (62, [.int c], [.int 0], M, J)) hB 2 rfl <|
   tw_ri rfl rfl (by first | (simp only [if_pos h1]; done) | rfl)) (fun h1 =>
   tw_n (s' := (13, [.int c], [.int 121, .int c], M, J)) hB 2 rfl <|
   tw_icN hB (t := 20) rfl rfl fl_cF (fun h2 =>
    tw_n (s' := (62, [.int c], [.int 1], M, J)) hB 2 rfl <|
    tw_ri rfl rfl (by first | (simp only [if_neg h1, if_pos h2]; done) | rfl)) (fun h2 =>
    tw_n (s' := (23, [.int c], [.int 111, .int c], M, J)) hB 2 rfl <|
    tw_icN hB (t := 30) rfl rfl fl_cF (fun h3 =>
     tw_n (s' := (62, [.int c], [.int 2], M, J)) hB 2 rfl <|
     tw_ri rfl rfl (by first | (simp only [if_neg h1, if_neg h2, if_pos h3]; done) | rfl)) (fun h3 =>
     tw_n (s' := (33, [.int c], [.int 104, .int c], M, J)) hB 2 rfl <|
     tw_icN hB (t := 40) rfl rfl fl_cF (fun h4 =>
      tw_n (s' := (62, [.int c], [.int 3], M, J)) hB 2 rfl <|
      tw_ri rfl rfl (by first | (simp only [if_neg h1, if_neg h2, if_neg h3, if_pos h4]; done) | rfl)) (fun h4 =>
      tw_n (s' := (43, [.int c], [.int 119, .int c], M, J)) hB 2 rfl <|
      tw_icN hB (t := 50) rfl rfl fl_cF (fun h5 =>
       tw_n (s' := (62, [.int c], [.int 4], M, J)) hB 2 rfl <|
       tw_ri rfl rfl (by first | (simp only [if_neg h1, if_neg h2, if_neg h3, if_neg h4, if_pos h5]; done) | rfl)) (fun h5 =>
       tw_n (s' := (53, [.int c], [.int 103, .int c], M, J)) hB 2 rfl <|
       tw_icN hB (t := 60) rfl rfl fl_cF (fun h6 =>
        tw_n (s' := (62, [.int c], [.int 5], M, J)) hB 2 rfl <|
        tw_ri rfl rfl (by first | (simp only [if_neg h1, if_neg h2, if_neg h3, if_neg h4, if_neg h5, if_pos h6]; done) | rfl)) (fun h6 =>
        tw_n (s' := (62, [.int c], [.int (-9)], M, J)) hB 1 rfl <|
        tw_ri rfl rfl (by first | (simp only [if_neg h1, if_neg h2, if_neg h3, if_neg h4, if_neg h5, if_neg h6]; done) | rfl)))))))
theorem cc_128 (d : Nat) (M : fl_M) (J : fl_J) (c : Int32) : tw_C (d + 1) 128 [.int c] M J (some (.int (fk c)), M, J) := cr_128 d M J c
def fB124 : sm_P := (fun pc => sm_ch sm_t124 pc, sm_Kn 3 3 none, fun x => sm_lk sm_ca3 x, some .boolean)
