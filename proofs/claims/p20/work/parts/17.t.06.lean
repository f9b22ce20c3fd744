def fB127 : sm_P := (fun pc => sm_ch sm_t127 pc, sm_Kn 3 5 none, fun x => sm_lk sm_ca3 x, some .boolean)
theorem cc_127 (d : Nat) (M : fl_M) (J : fl_J) (hF : 0 ≤ (M 81 16).toInt) (hF2 : (M 81 16).toInt ≤ 180) (hP : 0 ≤ (M 81 17).toInt) (hE : (M 81 17).toInt ≤ (M 81 18).toInt) (hE2 : (M 81 18).toInt ≤ 60) (hL : 0 ≤ (M 81 19).toInt) (hL2 : (M 81 19).toInt ≤ 8) (hQ : (M 81 17).toInt < (M 81 18).toInt) (hm : 0 ≤ (M 81 22).toInt) (hm2 : (M 81 22).toInt ≤ 4) : tw_C (d + 3) 127 [.ref 81] M J (some (.int (if (fk (rh M)) = (-9) then 0 else (if (M 81 22) = 4 then 0 else (if (M 81 19) = 0 then 0 else (if rg (fl_u M 81 17 ((M 81 17) + 1)) 0 ((M 81 19) - 1) = true then (if rg (fl_u (fl_u M 81 17 ((M 81 17) + 1)) 81 17 (((M 81 17) + 1) + 1)) 1 9 = true then 1 else 0) else 0))))), (if (fk (rh M)) = (-9) then M else (if (M 81 22) = 4 then M else (if (M 81 19) = 0 then M else (if rg (fl_u M 81 17 ((M 81 17) + 1)) 0 ((M 81 19) - 1) = true then (if rg (fl_u (fl_u M 81 17 ((M 81 17) + 1)) 81 17 (((M 81 17) + 1) + 1)) 1 9 = true then (fl_u (fl_u (fl_u (fl_u (fl_u (fl_u (fl_u M 81 17 ((M 81 17) + 1)) 81 17 (((M 81 17) + 1) + 1)) 81 17 ((((M 81 17) + 1) + 1) + 1)) 94 ((3 * (M 81 22)).toNatClampNeg) (fk (rh M))) 94 (((3 * (M 81 22)) + 1).toNatClampNeg) (rv (fl_u M 81 17 ((M 81 17) + 1)))) 94 (((3 * (M 81 22)) + 2).toNatClampNeg) (rv (fl_u (fl_u M 81 17 ((M 81 17) + 1)) 81 17 (((M 81 17) + 1) + 1)))) 81 22 ((M 81 22) + 1)) else (fl_u (fl_u M 81 17 ((M 81 17) + 1)) 81 17 (((M 81 17) + 1) + 1))) else (fl_u M 81 17 ((M 81 17) + 1)))))), J) := by
  have hB : fw_B fB127 := fw_sB (k := 127) (by decide)
  have ep : ((M 81 17) + 1).toInt = (M 81 17).toInt + 1 := fi_p1 (by omega)
  have ep2 : (((M 81 17) + 1) + 1).toInt = (M 81 17).toInt + 2 := by rw [fi_p1 (by omega), ep]; omega
  have ep3 : ((((M 81 17) + 1) + 1) + 1).toInt = (M 81 17).toInt + 3 := by rw [fi_p1 (by omega), ep2]; omega
  have ep4 : (((((M 81 17) + 1) + 1) + 1) + 1).toInt = (M 81 17).toInt + 4 := by rw [fi_p1 (by omega), ep3]; omega
  have em : (3 * (M 81 22)).toInt = 3 * (M 81 22).toInt := by rw [fi_mul (by rw [fi_i3]; omega) (by rw [fi_i3]; omega), fi_i3]
  have em1 : ((3 * (M 81 22)) + 1).toInt = 3 * (M 81 22).toInt + 1 := by rw [fi_p1 (by omega), em]
  have em2 : ((3 * (M 81 22)) + 2).toInt = 3 * (M 81 22).toInt + 2 := by rw [fi_add (by rw [show (2 : Int32).toInt = 2 from rfl]; omega) (by rw [show (2 : Int32).toInt = 2 from rfl]; omega), em]; rfl
  refine tw_Co (d := d + 2) (B := fB127) (by decide) rfl rfl (show (1 : Nat) ≤ 5 by decide) ?_ ?_
  · intro i v hv hn
    match i, hv with
    | 0, hv => cases hv; rfl
    | 1, hv => cases hv; exact absurd rfl hn
    | 2, hv => cases hv; exact absurd rfl hn
    | 3, hv => cases hv; exact absurd rfl hn
    | 4, hv => cases hv; exact absurd rfl hn
    | _ + 5, hv => cases hv
  exact tw_n (s' := (8, [.ref 81, .int (3 * (M 81 22)), .null, .null, .null], [.ref 81], M, J)) hB 6 rfl <|
  tw_cv hB (st0 := []) (o := some (.int (rh M))) rfl rfl rfl rfl rfl (show (0 : Nat) ≤ 8 by decide) rfl (by decide) (cc_123 _ M J (show 0 ≤ (M 81 16).toInt by omega) (show (M 81 16).toInt ≤ 180 by omega) (show 0 ≤ (M 81 17).toInt by omega) (by show (M 81 17).toInt < 60; first | omega | (have z := fi_ne (show ¬ (M 81 17) = (M 81 18) by assumption); omega) | (have z := fi_l.mp (show (M 81 17) < (M 81 18) by assumption); omega))) rfl <|
  tw_sh (s := (11, [.ref 81, .int (3 * (M 81 22)), .null, .null, .null], [.int (rh M)], M, J)) <|
  tw_cs hB (st0 := []) (o := some (.int (fk (rh M)))) rfl rfl (by decide) rfl rfl (show (0 : Nat) ≤ 8 by decide) (cc_128 _ M J (rh M)) rfl <|
  tw_sh (s := (14, [.ref 81, .int (3 * (M 81 22)), .null, .null, .null], [.int (fk (rh M))], M, J)) <|
  tw_n (s' := (18, [.ref 81, .int (3 * (M 81 22)), .int (fk (rh M)), .null, .null], [.int (-9), .int (fk (rh M))], M, J)) hB 3 rfl <|
  tw_ic hB (t := 36) rfl rfl fl_cT (fun h1 =>
   tw_n (s' := (37, [.ref 81, .int (3 * (M 81 22)), .int (fk (rh M)), .null, .null], [.int 0], M, J)) hB 1 rfl <|
   tw_rb rfl rfl (by first | decide | (split <;> decide)) (by first | (simp only [if_pos h1]; done) | rfl)) (fun h1 =>
   tw_n (s' := (26, [.ref 81, .int (3 * (M 81 22)), .int (fk (rh M)), .null, .null], [.int 4, .int (M 81 22)], M, J)) hB 3 rfl <|
   tw_ic hB (t := 36) rfl rfl fl_cT (fun h2 =>
    tw_n (s' := (37, [.ref 81, .int (3 * (M 81 22)), .int (fk (rh M)), .null, .null], [.int 0], M, J)) hB 1 rfl <|
    tw_rb rfl rfl (by first | decide | (split <;> decide)) (by first | (simp only [if_neg h1, if_pos h2]; done) | rfl)) (fun h2 =>
    tw_n (s' := (33, [.ref 81, .int (3 * (M 81 22)), .int (fk (rh M)), .null, .null], [.int (M 81 19)], M, J)) hB 2 rfl <|
    tw_ifN hB (t := 38) rfl rfl fl_cF (fun h3 =>
     tw_n (s' := (37, [.ref 81, .int (3 * (M 81 22)), .int (fk (rh M)), .null, .null], [.int 0], M, J)) hB 1 rfl <|
     tw_rb rfl rfl (by first | decide | (split <;> decide)) (by first | (simp only [if_neg h1, if_neg h2, if_pos h3]; done) | rfl)) (fun h3 =>
     tw_n (s' := (56, [.ref 81, .int (3 * (M 81 22)), .int (fk (rh M)), .null, .null], [.int ((M 81 19) - 1), .int 0, .ref 81], (fl_u M 81 17 ((M 81 17) + 1)), J)) hB 12 rfl <|
     tw_dc (c := rg (fl_u M 81 17 ((M 81 17) + 1)) 0 ((M 81 19) - 1) = true) (fun h4 =>
      have z4 : ((M 81 17) + 1).toInt ≠ (M 81 18).toInt := rg_lt h4; tw_cv hB (st0 := []) (o := some (.int (rv (fl_u M 81 17 ((M 81 17) + 1))))) rfl rfl rfl rfl rfl (show (0 : Nat) ≤ 8 by decide) rfl (by decide) (tw_Ce (show tw_C _ 125 [.ref 81, .int 0, .int ((M 81 19) - 1)] (fl_u M 81 17 ((M 81 17) + 1)) J (some (.int (if rg (fl_u M 81 17 ((M 81 17) + 1)) 0 ((M 81 19) - 1) = true then rv (fl_u M 81 17 ((M 81 17) + 1)) else (-9))), (if rg (fl_u M 81 17 ((M 81 17) + 1)) 0 ((M 81 19) - 1) = true then (fl_u (fl_u M 81 17 ((M 81 17) + 1)) 81 17 (((M 81 17) + 1) + 1)) else (fl_u M 81 17 ((M 81 17) + 1))), J) from (cc_125 _ (fl_u M 81 17 ((M 81 17) + 1)) J 0 ((M 81 19) - 1) (show 0 ≤ (M 81 16).toInt by omega) (show (M 81 16).toInt ≤ 180 by omega) (show 0 ≤ ((M 81 17) + 1).toInt by omega) (show ((M 81 17) + 1).toInt ≤ (M 81 18).toInt by omega) (show (M 81 18).toInt ≤ 60 by omega))) (by first | (simp only [if_pos h4]; done) | (simp only [if_pos h4]; rfl))) rfl <|
      tw_sh (s := (59, [.ref 81, .int (3 * (M 81 22)), .int (fk (rh M)), .null, .null], [.int (rv (fl_u M 81 17 ((M 81 17) + 1)))], (fl_u (fl_u M 81 17 ((M 81 17) + 1)) 81 17 (((M 81 17) + 1) + 1)), J)) <|
      tw_n (s' := (63, [.ref 81, .int (3 * (M 81 22)), .int (fk (rh M)), .int (rv (fl_u M 81 17 ((M 81 17) + 1))), .null], [.int (-9), .int (rv (fl_u M 81 17 ((M 81 17) + 1)))], (fl_u (fl_u M 81 17 ((M 81 17) + 1)) 81 17 (((M 81 17) + 1) + 1)), J)) hB 3 rfl <|
      tw_icN hB (t := 71) rfl rfl fl_cF (fun h5 =>
       absurd h5 (rg_ne (by assumption) (by decide) (by decide))) (fun h5 =>
       tw_n (s' := (75, [.ref 81, .int (3 * (M 81 22)), .int (fk (rh M)), .int (rv (fl_u M 81 17 ((M 81 17) + 1))), .null], [.int 9, .int 1, .ref 81], (fl_u (fl_u M 81 17 ((M 81 17) + 1)) 81 17 (((M 81 17) + 1) + 1)), J)) hB 3 rfl <|
       tw_dc (c := rg (fl_u (fl_u M 81 17 ((M 81 17) + 1)) 81 17 (((M 81 17) + 1) + 1)) 1 9 = true) (fun h6 =>
        have z6 : (((M 81 17) + 1) + 1).toInt ≠ (M 81 18).toInt := rg_lt h6; tw_cv hB (st0 := []) (o := some (.int (rv (fl_u (fl_u M 81 17 ((M 81 17) + 1)) 81 17 (((M 81 17) + 1) + 1))))) rfl rfl rfl rfl rfl (show (0 : Nat) ≤ 8 by decide) rfl (by decide) (tw_Ce (show tw_C _ 125 [.ref 81, .int 1, .int 9] (fl_u (fl_u M 81 17 ((M 81 17) + 1)) 81 17 (((M 81 17) + 1) + 1)) J (some (.int (if rg (fl_u (fl_u M 81 17 ((M 81 17) + 1)) 81 17 (((M 81 17) + 1) + 1)) 1 9 = true then rv (fl_u (fl_u M 81 17 ((M 81 17) + 1)) 81 17 (((M 81 17) + 1) + 1)) else (-9))), (if rg (fl_u (fl_u M 81 17 ((M 81 17) + 1)) 81 17 (((M 81 17) + 1) + 1)) 1 9 = true then (fl_u (fl_u (fl_u M 81 17 ((M 81 17) + 1)) 81 17 (((M 81 17) + 1) + 1)) 81 17 ((((M 81 17) + 1) + 1) + 1)) else (fl_u (fl_u M 81 17 ((M 81 17) + 1)) 81 17 (((M 81 17) + 1) + 1))), J) from (cc_125 _ (fl_u (fl_u M 81 17 ((M 81 17) + 1)) 81 17 (((M 81 17) + 1) + 1)) J 1 9 (show 0 ≤ (M 81 16).toInt by omega) (show (M 81 16).toInt ≤ 180 by omega) (show 0 ≤ (((M 81 17) + 1) + 1).toInt by omega) (show (((M 81 17) + 1) + 1).toInt ≤ (M 81 18).toInt by omega) (show (M 81 18).toInt ≤ 60 by omega))) (by first | (simp only [if_pos h6]; done) | (simp only [if_pos h6]; rfl))) rfl <|
        tw_sh (s := (78, [.ref 81, .int (3 * (M 81 22)), .int (fk (rh M)), .int (rv (fl_u M 81 17 ((M 81 17) + 1))), .null], [.int (rv (fl_u (fl_u M 81 17 ((M 81 17) + 1)) 81 17 (((M 81 17) + 1) + 1)))], (fl_u (fl_u (fl_u M 81 17 ((M 81 17) + 1)) 81 17 (((M 81 17) + 1) + 1)) 81 17 ((((M 81 17) + 1) + 1) + 1)), J)) <|
        tw_n (s' := (84, [.ref 81, .int (3 * (M 81 22)), .int (fk (rh M)), .int (rv (fl_u M 81 17 ((M 81 17) + 1))), .int (rv (fl_u (fl_u M 81 17 ((M 81 17) + 1)) 81 17 (((M 81 17) + 1) + 1)))], [.int (-9), .int (rv (fl_u (fl_u M 81 17 ((M 81 17) + 1)) 81 17 (((M 81 17) + 1) + 1)))], (fl_u (fl_u (fl_u M 81 17 ((M 81 17) + 1)) 81 17 (((M 81 17) + 1) + 1)) 81 17 ((((M 81 17) + 1) + 1) + 1)), J)) hB 3 rfl <|
        tw_icN hB (t := 89) rfl rfl fl_cF (fun h7 =>
         absurd h7 (rg_ne (by assumption) (by decide) (by decide))) (fun h7 =>
         tw_n (s' := (95, [.ref 81, .int (3 * (M 81 22)), .int (fk (rh M)), .int (rv (fl_u M 81 17 ((M 81 17) + 1))), .int (rv (fl_u (fl_u M 81 17 ((M 81 17) + 1)) 81 17 (((M 81 17) + 1) + 1)))], [.int (fk (rh M)), .int (3 * (M 81 22)), .ref 94], (fl_u (fl_u (fl_u M 81 17 ((M 81 17) + 1)) 81 17 (((M 81 17) + 1) + 1)) 81 17 ((((M 81 17) + 1) + 1) + 1)), J)) hB 4 rfl <|
         tw_is hB rfl rfl (by decide) (by omega) (show (3 * (M 81 22)).toInt < 12 by have z := fi_ne h2; rw [fi_i4] at z; omega) <|
         tw_n (s' := (104, [.ref 81, .int (3 * (M 81 22)), .int (fk (rh M)), .int (rv (fl_u M 81 17 ((M 81 17) + 1))), .int (rv (fl_u (fl_u M 81 17 ((M 81 17) + 1)) 81 17 (((M 81 17) + 1) + 1)))], [.int (rv (fl_u M 81 17 ((M 81 17) + 1))), .int ((3 * (M 81 22)) + 1), .ref 94], (fl_u (fl_u (fl_u (fl_u M 81 17 ((M 81 17) + 1)) 81 17 (((M 81 17) + 1) + 1)) 81 17 ((((M 81 17) + 1) + 1) + 1)) 94 ((3 * (M 81 22)).toNatClampNeg) (fk (rh M))), J)) hB 6 rfl <|
         tw_is hB rfl rfl (by decide) (by omega) (show ((3 * (M 81 22)) + 1).toInt < 12 by have z := fi_ne h2; rw [fi_i4] at z; omega) <|
         tw_n (s' := (114, [.ref 81, .int (3 * (M 81 22)), .int (fk (rh M)), .int (rv (fl_u M 81 17 ((M 81 17) + 1))), .int (rv (fl_u (fl_u M 81 17 ((M 81 17) + 1)) 81 17 (((M 81 17) + 1) + 1)))], [.int (rv (fl_u (fl_u M 81 17 ((M 81 17) + 1)) 81 17 (((M 81 17) + 1) + 1))), .int ((3 * (M 81 22)) + 2), .ref 94], (fl_u (fl_u (fl_u (fl_u (fl_u M 81 17 ((M 81 17) + 1)) 81 17 (((M 81 17) + 1) + 1)) 81 17 ((((M 81 17) + 1) + 1) + 1)) 94 ((3 * (M 81 22)).toNatClampNeg) (fk (rh M))) 94 (((3 * (M 81 22)) + 1).toNatClampNeg) (rv (fl_u M 81 17 ((M 81 17) + 1)))), J)) hB 6 rfl <|
         tw_is hB rfl rfl (by decide) (by omega) (show ((3 * (M 81 22)) + 2).toInt < 12 by have z := fi_ne h2; rw [fi_i4] at z; omega) <|
         tw_n (s' := (126, [.ref 81, .int (3 * (M 81 22)), .int (fk (rh M)), .int (rv (fl_u M 81 17 ((M 81 17) + 1))), .int (rv (fl_u (fl_u M 81 17 ((M 81 17) + 1)) 81 17 (((M 81 17) + 1) + 1)))], [.int 1], (fl_u (fl_u (fl_u (fl_u (fl_u (fl_u (fl_u M 81 17 ((M 81 17) + 1)) 81 17 (((M 81 17) + 1) + 1)) 81 17 ((((M 81 17) + 1) + 1) + 1)) 94 ((3 * (M 81 22)).toNatClampNeg) (fk (rh M))) 94 (((3 * (M 81 22)) + 1).toNatClampNeg) (rv (fl_u M 81 17 ((M 81 17) + 1)))) 94 (((3 * (M 81 22)) + 2).toNatClampNeg) (rv (fl_u (fl_u M 81 17 ((M 81 17) + 1)) 81 17 (((M 81 17) + 1) + 1)))) 81 22 ((M 81 22) + 1)), J)) hB 7 rfl <|
         tw_rb rfl rfl (by first | decide | (split <;> decide)) (by first | (simp only [if_neg h1, if_neg h2, if_neg h3, if_pos h4, if_neg h5, if_pos h6, if_neg h7]; done) | rfl))) (fun h6 =>
        tw_cv hB (st0 := []) (o := some (.int (-9))) rfl rfl rfl rfl rfl (show (0 : Nat) ≤ 8 by decide) rfl (by decide) (tw_Ce (show tw_C _ 125 [.ref 81, .int 1, .int 9] (fl_u (fl_u M 81 17 ((M 81 17) + 1)) 81 17 (((M 81 17) + 1) + 1)) J (some (.int (if rg (fl_u (fl_u M 81 17 ((M 81 17) + 1)) 81 17 (((M 81 17) + 1) + 1)) 1 9 = true then rv (fl_u (fl_u M 81 17 ((M 81 17) + 1)) 81 17 (((M 81 17) + 1) + 1)) else (-9))), (if rg (fl_u (fl_u M 81 17 ((M 81 17) + 1)) 81 17 (((M 81 17) + 1) + 1)) 1 9 = true then (fl_u (fl_u (fl_u M 81 17 ((M 81 17) + 1)) 81 17 (((M 81 17) + 1) + 1)) 81 17 ((((M 81 17) + 1) + 1) + 1)) else (fl_u (fl_u M 81 17 ((M 81 17) + 1)) 81 17 (((M 81 17) + 1) + 1))), J) from (cc_125 _ (fl_u (fl_u M 81 17 ((M 81 17) + 1)) 81 17 (((M 81 17) + 1) + 1)) J 1 9 (show 0 ≤ (M 81 16).toInt by omega) (show (M 81 16).toInt ≤ 180 by omega) (show 0 ≤ (((M 81 17) + 1) + 1).toInt by omega) (show (((M 81 17) + 1) + 1).toInt ≤ (M 81 18).toInt by omega) (show (M 81 18).toInt ≤ 60 by omega))) (by first | (simp only [if_neg h6]; done) | (simp only [if_neg h6]; rfl))) rfl <|
        tw_sh (s := (78, [.ref 81, .int (3 * (M 81 22)), .int (fk (rh M)), .int (rv (fl_u M 81 17 ((M 81 17) + 1))), .null], [.int (-9)], (fl_u (fl_u M 81 17 ((M 81 17) + 1)) 81 17 (((M 81 17) + 1) + 1)), J)) <|
        tw_n (s' := (88, [.ref 81, .int (3 * (M 81 22)), .int (fk (rh M)), .int (rv (fl_u M 81 17 ((M 81 17) + 1))), .int (-9)], [.int 0], (fl_u (fl_u M 81 17 ((M 81 17) + 1)) 81 17 (((M 81 17) + 1) + 1)), J)) hB 5 rfl <|
        tw_rb rfl rfl (by first | decide | (split <;> decide)) (by first | (simp only [if_neg h1, if_neg h2, if_neg h3, if_pos h4, if_neg h5, if_neg h6]; done) | rfl)))) (fun h4 =>
      tw_cv hB (st0 := []) (o := some (.int (-9))) rfl rfl rfl rfl rfl (show (0 : Nat) ≤ 8 by decide) rfl (by decide) (tw_Ce (show tw_C _ 125 [.ref 81, .int 0, .int ((M 81 19) - 1)] (fl_u M 81 17 ((M 81 17) + 1)) J (some (.int (if rg (fl_u M 81 17 ((M 81 17) + 1)) 0 ((M 81 19) - 1) = true then rv (fl_u M 81 17 ((M 81 17) + 1)) else (-9))), (if rg (fl_u M 81 17 ((M 81 17) + 1)) 0 ((M 81 19) - 1) = true then (fl_u (fl_u M 81 17 ((M 81 17) + 1)) 81 17 (((M 81 17) + 1) + 1)) else (fl_u M 81 17 ((M 81 17) + 1))), J) from (cc_125 _ (fl_u M 81 17 ((M 81 17) + 1)) J 0 ((M 81 19) - 1) (show 0 ≤ (M 81 16).toInt by omega) (show (M 81 16).toInt ≤ 180 by omega) (show 0 ≤ ((M 81 17) + 1).toInt by omega) (show ((M 81 17) + 1).toInt ≤ (M 81 18).toInt by omega) (show (M 81 18).toInt ≤ 60 by omega))) (by first | (simp only [if_neg h4]; done) | (simp only [if_neg h4]; rfl))) rfl <|
      tw_sh (s := (59, [.ref 81, .int (3 * (M 81 22)), .int (fk (rh M)), .null, .null], [.int (-9)], (fl_u M 81 17 ((M 81 17) + 1)), J)) <|
      tw_n (s' := (88, [.ref 81, .int (3 * (M 81 22)), .int (fk (rh M)), .int (-9), .int (-9)], [.int 0], (fl_u M 81 17 ((M 81 17) + 1)), J)) hB 11 rfl <|
      tw_rb rfl rfl (by first | decide | (split <;> decide)) (by first | (simp only [if_neg h1, if_neg h2, if_neg h3, if_neg h4]; done) | rfl)))))
theorem rsk_f : ∀ (f : Nat) (M : fl_M), (M 81 17).toInt ≤ (M 81 18).toInt → (M 81 18).toInt ≤ 60 → (∀ i, i ≠ 17 → rsk f M 81 i = M 81 i) ∧ (∀ a, a ≠ 81 → rsk f M a = M a) ∧ (M 81 17).toInt ≤ (rsk f M 81 17).toInt ∧ (rsk f M 81 17).toInt ≤ (M 81 18).toInt := by
  intro f
  induction f with
  | zero => intro M h1 h2; exact ⟨fun _ _ => rfl, fun _ _ => rfl, Int.le_refl _, h1⟩
  | succ f ih =>
    intro M h1 h2
    unfold rsk
    split
    · rename_i h3
      have h3 := fi_l.mp h3
      have e := fi_p1 (p := M 81 17) (by omega)
      split
      · obtain ⟨i1, i2, i3, i4⟩ := ih (fl_u M 81 17 (M 81 17 + 1)) (show (M 81 17 + 1).toInt ≤ (M 81 18).toInt by omega) h2
        refine ⟨fun i hi => ?_, fun a ha => ?_, ?_, ?_⟩
        · rw [i1 i hi]
          unfold fl_u
          rw [if_neg (fun z => hi z.2)]
        · rw [i2 a ha, fl_un ha]
        · have i3 : (M 81 17 + 1).toInt ≤ _ := i3
          omega
        · exact i4
      · exact ⟨fun _ _ => rfl, fun _ _ => rfl, Int.le_refl _, h1⟩
    · exact ⟨fun _ _ => rfl, fun _ _ => rfl, Int.le_refl _, h1⟩
def fB121 : sm_P := (fun pc => sm_ch sm_t121 pc, sm_Kn 3 2 none, fun x => sm_lk sm_ca3 x, some .boolean)
theorem cc_121 (d : Nat) (M : fl_M) (J : fl_J) (hF : 0 ≤ (M 81 16).toInt) (hF2 : (M 81 16).toInt ≤ 180) (hP : 0 ≤ (M 81 17).toInt) (hE : (M 81 17).toInt ≤ (M 81 18).toInt) (hE2 : (M 81 18).toInt ≤ 60) : tw_C (d + 3) 121 [.ref 81] M J (some (.int (if ((rsk 60 M) 81 17) < ((rsk 60 M) 81 18) then (if (rh (rsk 60 M)) = 114 then 1 else 0) else 0)), (if ((rsk 60 M) 81 17) < ((rsk 60 M) 81 18) then (if (rh (rsk 60 M)) = 114 then (fl_u (rsk 60 M) 81 17 (((rsk 60 M) 81 17) + 1)) else (fl_u (rsk 60 M) 81 17 (((rsk 60 M) 81 17) + 0))) else (fl_u (rsk 60 M) 81 17 (((rsk 60 M) 81 17) + 0))), J) := by
  have hB : fw_B fB121 := fw_sB (k := 121) (by decide)
  obtain ⟨w1, w2, w3, w4⟩ := rsk_f 60 M hE hE2
  have a1 : 0 ≤ ((rsk 60 M) 81 16).toInt := by rw [w1 16 (by decide)]; exact hF
  have a2 : ((rsk 60 M) 81 16).toInt ≤ 180 := by rw [w1 16 (by decide)]; exact hF2
  have a0 : (rsk 60 M) 81 18 = M 81 18 := w1 18 (by decide)
  have a3 : 0 ≤ ((rsk 60 M) 81 17).toInt := by omega
  have a4 : ((rsk 60 M) 81 17).toInt ≤ ((rsk 60 M) 81 18).toInt := by rw [a0]; exact w4
  have a5 : ((rsk 60 M) 81 18).toInt ≤ 60 := by rw [a0]; exact hE2
  refine tw_Co (d := d + 2) (B := fB121) (by decide) rfl rfl (show (1 : Nat) ≤ 2 by decide) ?_ ?_
  · intro i v hv hn
    match i, hv with
    | 0, hv => cases hv; rfl
    | 1, hv => cases hv; exact absurd rfl hn
    | _ + 2, hv => cases hv
  exact tw_n (s' := (1, [.ref 81, .null], [.ref 81], M, J)) hB 1 rfl <|
  tw_cv hB (st0 := []) (o := none) rfl rfl rfl rfl rfl (show (0 : Nat) ≤ 8 by decide) rfl (by decide) (cc_122 _ M J (show 0 ≤ (M 81 16).toInt by omega) (show (M 81 16).toInt ≤ 180 by omega) (show 0 ≤ (M 81 17).toInt by omega) (show (M 81 17).toInt ≤ (M 81 18).toInt by omega) (show (M 81 18).toInt ≤ 60 by omega)) rfl <|
  tw_sh (s := (4, [.ref 81, .null], [], (rsk 60 M), J)) <|
  tw_n (s' := (12, [.ref 81, .null], [.int ((rsk 60 M) 81 18), .int ((rsk 60 M) 81 17)], (rsk 60 M), J)) hB 4 rfl <|
  tw_icN hB (t := 28) rfl rfl fl_nlt (fun h1 =>
   tw_n (s' := (16, [.ref 81, .null], [.ref 81], (rsk 60 M), J)) hB 1 rfl <|
   tw_cv hB (st0 := []) (o := some (.int (rh (rsk 60 M)))) rfl rfl rfl rfl rfl (show (0 : Nat) ≤ 8 by decide) rfl (by decide) (cc_123 _ (rsk 60 M) J (show 0 ≤ ((rsk 60 M) 81 16).toInt by omega) (show ((rsk 60 M) 81 16).toInt ≤ 180 by omega) (show 0 ≤ ((rsk 60 M) 81 17).toInt by omega) (by show ((rsk 60 M) 81 17).toInt < 60; first | omega | (have z := fi_ne (show ¬ ((rsk 60 M) 81 17) = ((rsk 60 M) 81 18) by assumption); omega) | (have z := fi_l.mp (show ((rsk 60 M) 81 17) < ((rsk 60 M) 81 18) by assumption); omega))) rfl <|
   tw_sh (s := (19, [.ref 81, .null], [.int (rh (rsk 60 M))], (rsk 60 M), J)) <|
   tw_n (s' := (21, [.ref 81, .null], [.int 114, .int (rh (rsk 60 M))], (rsk 60 M), J)) hB 1 rfl <|
   tw_icN hB (t := 28) rfl rfl fl_cF (fun h2 =>
    tw_n (s' := (49, [.ref 81, .int 1], [.int 1], (fl_u (rsk 60 M) 81 17 (((rsk 60 M) 81 17) + 1)), J)) hB 13 rfl <|
    tw_rb rfl rfl (by first | decide | (split <;> decide)) (by first | (simp only [if_pos h1, if_pos h2]; done) | rfl)) (fun h2 =>
    tw_n (s' := (49, [.ref 81, .int 0], [.int 0], (fl_u (rsk 60 M) 81 17 (((rsk 60 M) 81 17) + 0)), J)) hB 11 rfl <|
    tw_rb rfl rfl (by first | decide | (split <;> decide)) (by first | (simp only [if_pos h1, if_neg h2]; done) | rfl))) (fun h1 =>
   tw_n (s' := (49, [.ref 81, .int 0], [.int 0], (fl_u (rsk 60 M) 81 17 (((rsk 60 M) 81 17) + 0)), J)) hB 11 rfl <|
   tw_rb rfl rfl (by first | decide | (split <;> decide)) (by first | (simp only [if_neg h1]; done) | rfl))
