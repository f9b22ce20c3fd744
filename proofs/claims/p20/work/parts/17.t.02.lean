theorem cc_17 (d : Nat) (M : fl_M) (J : fl_J) (size p : Int32) (a : Nat) (hk : fl_kd a = 1) (hl : fl_len a = 60) (hq : 0 ≤ p.toInt) (hs : size.toInt ≤ 60) (hn : p.toInt < size.toInt) (hL : 0 ≤ (M 24 0).toInt) (hK : M 999 = sm_kl) : tw_C (d + 2) 17 [.ref 0, .ref a, .int size, .int p] M J (some (.int (if 0 < (M 24 1) then p else (if (M 24 0) < 8 then (if fg (M a) size (p + 1) 0 9 = true then (if fg (M a) size ((p + 1) + 1) 0 9 = true then (if fg (M a) size (((p + 1) + 1) + 1) 0 9 = true then (if (((10 * ((M a ((p + 2).toNatClampNeg)) - 48)) + (M a ((p + 3).toNatClampNeg))) - 48) < 1 then p + 2 else (if 40 < (((10 * ((M a ((p + 2).toNatClampNeg)) - 48)) + (M a ((p + 3).toNatClampNeg))) - 48) then p + 2 else (-9))) else ((p + 1) + 1) + 1) else (p + 1) + 1) else p + 1) else p))), (if 0 < (M 24 1) then M else (if (M 24 0) < 8 then (if fg (M a) size (p + 1) 0 9 = true then (if fg (M a) size ((p + 1) + 1) 0 9 = true then (if fg (M a) size (((p + 1) + 1) + 1) 0 9 = true then (if (((10 * ((M a ((p + 2).toNatClampNeg)) - 48)) + (M a ((p + 3).toNatClampNeg))) - 48) < 1 then M else (if 40 < (((10 * ((M a ((p + 2).toNatClampNeg)) - 48)) + (M a ((p + 3).toNatClampNeg))) - 48) then M else (fl_u (fl_u (fl_u M 25 ((M 24 0).toNatClampNeg) ((M a ((p + 1).toNatClampNeg)) - 48)) 26 ((M 24 0).toNatClampNeg) (((10 * ((M a ((p + 2).toNatClampNeg)) - 48)) + (M a ((p + 3).toNatClampNeg))) - 48)) 24 0 ((M 24 0) + 1)))) else M) else M) else M) else M)), J) := by
  have hB : fw_B fB17 := fw_sB (k := 17) (by decide)
  have e1 : (p + 1).toInt = p.toInt + 1 := fi_p1 (by omega)
  have e2 : (p + 2).toInt = p.toInt + 2 := by rw [fi_add (by rw [show (2 : Int32).toInt = 2 from rfl]; omega) (by rw [show (2 : Int32).toInt = 2 from rfl]; omega)]; rfl
  have e3 : (p + 3).toInt = p.toInt + 3 := by rw [fi_add (by rw [show (3 : Int32).toInt = 3 from rfl]; omega) (by rw [show (3 : Int32).toInt = 3 from rfl]; omega)]; rfl
  have e4 : (p + 4).toInt = p.toInt + 4 := by rw [fi_add (by rw [show (4 : Int32).toInt = 4 from rfl]; omega) (by rw [show (4 : Int32).toInt = 4 from rfl]; omega)]; rfl
  have g2 : (p + 1 + 1).toInt = p.toInt + 2 := by rw [fi_p1 (by omega), e1]; omega
  have g3 : (p + 1 + 1 + 1).toInt = p.toInt + 3 := by rw [fi_p1 (by omega), g2]; omega
  have g4 : (p + 1 + 1 + 1 + 1).toInt = p.toInt + 4 := by rw [fi_p1 (by omega), g3]; omega
  have k1 : (p + 1) < (p + 4) := fi_l.mpr (by omega)
  have k2 : (p + 1 + 1) < (p + 4) := fi_l.mpr (by omega)
  have k3 : (p + 1 + 1 + 1) < (p + 4) := fi_l.mpr (by omega)
  have k4 : ¬ (p + 1 + 1 + 1 + 1) < (p + 4) := fun z => by have z := fi_l.mp z; omega
  have n1 : ¬ (p + 1) = (-9) := fun z => by have z := fi_e.mp z; rw [show (-9 : Int32).toInt = -9 from rfl] at z; omega
  have n2 : ¬ (p + 1 + 1) = (-9) := fun z => by have z := fi_e.mp z; rw [show (-9 : Int32).toInt = -9 from rfl] at z; omega
  have n3 : ¬ (p + 1 + 1 + 1) = (-9) := fun z => by have z := fi_e.mp z; rw [show (-9 : Int32).toInt = -9 from rfl] at z; omega
  have n4 : ¬ (p + 2) = (-9) := fun z => by have z := fi_e.mp z; rw [show (-9 : Int32).toInt = -9 from rfl] at z; omega
  refine tw_Co (d := d + 1) (B := fB17) (by decide) rfl rfl (show (4 : Nat) ≤ 6 by decide) ?_ ?_
  · intro i v hv hn
    match i, hv with
    | 0, hv => cases hv; rfl
    | 1, hv => cases hv; rfl
    | 2, hv => cases hv; rfl
    | 3, hv => cases hv; rfl
    | 4, hv => cases hv; exact absurd rfl hn
    | 5, hv => cases hv; exact absurd rfl hn
    | _ + 6, hv => cases hv
  exact tw_n (s' := (7, [.ref 0, .ref a, .int size, .int p, .null, .null], [.int (M 24 1)], M, J)) hB 3 rfl <|
  tw_if hB (t := 22) rfl rfl fl_cT (fun h1 =>
   tw_n (s' := (23, [.ref 0, .ref a, .int size, .int p, .null, .null], [.int p], M, J)) hB 1 rfl <|
   tw_ri rfl rfl (by first | (simp only [if_pos h1]; done) | rfl)) (fun h1 =>
   tw_n (s' := (19, [.ref 0, .ref a, .int size, .int p, .null, .null], [.int 8, .int (M 24 0)], M, J)) hB 4 rfl <|
   tw_ic hB (t := 24) rfl rfl fl_cT (fun h2 =>
    tw_n (s' := (34, [.ref 0, .ref a, .int size, .int p, .int (p + 1), .null], [.int (p + 4), .int (p + 1)], M, J)) hB 8 rfl <|
    tw_icN hB (t := 65) rfl rfl fl_nlt (fun h3 =>
     tw_n (s' := (44, [.ref 0, .ref a, .int size, .int p, .int (p + 1), .null], [.int 9, .int 0, .int (p + 1), .int size, .ref a], M, J)) hB 5 rfl <|
     tw_dc (c := fg (M a) size (p + 1) 0 9 = true) (fun h4 =>
      have z4 := fg_lt h4; tw_cs hB (st0 := []) (o := some (.int (-9))) rfl rfl (by decide) rfl rfl (show (0 : Nat) ≤ 8 by decide) (tw_Ce (show tw_C _ 18 [.ref a, .int size, .int (p + 1), .int 0, .int 9] M J (some (.int (if fg (M a) size (p + 1) 0 9 = true then (-9) else p + 1)), M, J) from (cc_18 _ M J a size (p + 1) 0 9 hk hl (by omega) hs (by omega))) (by first | (simp only [if_pos h4]; done) | (simp only [if_pos h4]; rfl))) rfl <|
      tw_sh (s := (47, [.ref 0, .ref a, .int size, .int p, .int (p + 1), .null], [.int (-9)], M, J)) <|
      tw_n (s' := (34, [.ref 0, .ref a, .int size, .int p, .int ((p + 1) + 1), .int (-9)], [.int (p + 4), .int ((p + 1) + 1)], M, J)) hB 10 rfl <|
      tw_icN hB (t := 65) rfl rfl fl_nlt (fun h5 =>
       tw_n (s' := (44, [.ref 0, .ref a, .int size, .int p, .int ((p + 1) + 1), .int (-9)], [.int 9, .int 0, .int ((p + 1) + 1), .int size, .ref a], M, J)) hB 5 rfl <|
       tw_dc (c := fg (M a) size ((p + 1) + 1) 0 9 = true) (fun h6 =>
        have z6 := fg_lt h6; tw_cs hB (st0 := []) (o := some (.int (-9))) rfl rfl (by decide) rfl rfl (show (0 : Nat) ≤ 8 by decide) (tw_Ce (show tw_C _ 18 [.ref a, .int size, .int ((p + 1) + 1), .int 0, .int 9] M J (some (.int (if fg (M a) size ((p + 1) + 1) 0 9 = true then (-9) else (p + 1) + 1)), M, J) from (cc_18 _ M J a size ((p + 1) + 1) 0 9 hk hl (by omega) hs (by omega))) (by first | (simp only [if_pos h6]; done) | (simp only [if_pos h6]; rfl))) rfl <|
        tw_sh (s := (47, [.ref 0, .ref a, .int size, .int p, .int ((p + 1) + 1), .int (-9)], [.int (-9)], M, J)) <|
        tw_n (s' := (34, [.ref 0, .ref a, .int size, .int p, .int (((p + 1) + 1) + 1), .int (-9)], [.int (p + 4), .int (((p + 1) + 1) + 1)], M, J)) hB 10 rfl <|
        tw_icN hB (t := 65) rfl rfl fl_nlt (fun h7 =>
         tw_n (s' := (44, [.ref 0, .ref a, .int size, .int p, .int (((p + 1) + 1) + 1), .int (-9)], [.int 9, .int 0, .int (((p + 1) + 1) + 1), .int size, .ref a], M, J)) hB 5 rfl <|
         tw_dc (c := fg (M a) size (((p + 1) + 1) + 1) 0 9 = true) (fun h8 =>
          have z8 := fg_lt h8; tw_cs hB (st0 := []) (o := some (.int (-9))) rfl rfl (by decide) rfl rfl (show (0 : Nat) ≤ 8 by decide) (tw_Ce (show tw_C _ 18 [.ref a, .int size, .int (((p + 1) + 1) + 1), .int 0, .int 9] M J (some (.int (if fg (M a) size (((p + 1) + 1) + 1) 0 9 = true then (-9) else ((p + 1) + 1) + 1)), M, J) from (cc_18 _ M J a size (((p + 1) + 1) + 1) 0 9 hk hl (by omega) hs (by omega))) (by first | (simp only [if_pos h8]; done) | (simp only [if_pos h8]; rfl))) rfl <|
          tw_sh (s := (47, [.ref 0, .ref a, .int size, .int p, .int (((p + 1) + 1) + 1), .int (-9)], [.int (-9)], M, J)) <|
          tw_n (s' := (34, [.ref 0, .ref a, .int size, .int p, .int ((((p + 1) + 1) + 1) + 1), .int (-9)], [.int (p + 4), .int ((((p + 1) + 1) + 1) + 1)], M, J)) hB 10 rfl <|
          tw_icN hB (t := 65) rfl rfl fl_nlt (fun h9 =>
           absurd h9 k4) (fun h9 =>
           tw_n (s' := (71, [.ref 0, .ref a, .int size, .int p, .int ((((p + 1) + 1) + 1) + 1), .int (-9)], [.int (p + 2), .ref a, .int 10], M, J)) hB 5 rfl <|
           tw_ba hB rfl hk (fw_98 hk (by decide)) (by omega) (by rw [hl]; omega) <|
           tw_n (s' := (80, [.ref 0, .ref a, .int size, .int p, .int ((((p + 1) + 1) + 1) + 1), .int (-9)], [.int (p + 3), .ref a, .int (10 * ((M a ((p + 2).toNatClampNeg)) - 48))], M, J)) hB 7 rfl <|
           tw_ba hB rfl hk (fw_98 hk (by decide)) (by omega) (by rw [hl]; omega) <|
           tw_n (s' := (90, [.ref 0, .ref a, .int size, .int p, .int (((10 * ((M a ((p + 2).toNatClampNeg)) - 48)) + (M a ((p + 3).toNatClampNeg))) - 48), .int (-9)], [.int 1, .int (((10 * ((M a ((p + 2).toNatClampNeg)) - 48)) + (M a ((p + 3).toNatClampNeg))) - 48)], M, J)) hB 6 rfl <|
           tw_ic hB (t := 100) rfl rfl fl_cT (fun h10 =>
            tw_n (s' := (103, [.ref 0, .ref a, .int size, .int p, .int (((10 * ((M a ((p + 2).toNatClampNeg)) - 48)) + (M a ((p + 3).toNatClampNeg))) - 48), .int (-9)], [.int (p + 2)], M, J)) hB 3 rfl <|
            tw_ri rfl rfl (by first | (simp only [if_neg h1, if_pos h2, if_pos h3, if_pos h4, if_pos h5, if_pos h6, if_pos h7, if_pos h8, if_neg h9, if_pos h10]; done) | rfl)) (fun h10 =>
            tw_n (s' := (97, [.ref 0, .ref a, .int size, .int p, .int (((10 * ((M a ((p + 2).toNatClampNeg)) - 48)) + (M a ((p + 3).toNatClampNeg))) - 48), .int (-9)], [.int 40, .int (((10 * ((M a ((p + 2).toNatClampNeg)) - 48)) + (M a ((p + 3).toNatClampNeg))) - 48)], M, J)) hB 2 rfl <|
            tw_icN hB (t := 104) rfl rfl fl_nle (fun h11 =>
             tw_n (s' := (103, [.ref 0, .ref a, .int size, .int p, .int (((10 * ((M a ((p + 2).toNatClampNeg)) - 48)) + (M a ((p + 3).toNatClampNeg))) - 48), .int (-9)], [.int (p + 2)], M, J)) hB 3 rfl <|
             tw_ri rfl rfl (by first | (simp only [if_neg h1, if_pos h2, if_pos h3, if_pos h4, if_pos h5, if_pos h6, if_pos h7, if_pos h8, if_neg h9, if_neg h10, if_pos h11]; done) | rfl)) (fun h11 =>
             tw_n (s' := (122, [.ref 0, .ref a, .int size, .int p, .int (((10 * ((M a ((p + 2).toNatClampNeg)) - 48)) + (M a ((p + 3).toNatClampNeg))) - 48), .int (-9)], [.int (p + 1), .ref a, .int (M 24 0), .ref 25], M, J)) hB 10 rfl <|
             tw_ba hB rfl hk (fw_98 hk (by decide)) (by omega) (by rw [hl]; omega) <|
             tw_n (s' := (126, [.ref 0, .ref a, .int size, .int p, .int (((10 * ((M a ((p + 2).toNatClampNeg)) - 48)) + (M a ((p + 3).toNatClampNeg))) - 48), .int (-9)], [.int ((M a ((p + 1).toNatClampNeg)) - 48), .int (M 24 0), .ref 25], M, J)) hB 2 rfl <|
             tw_is hB rfl rfl (by decide) hL (fi_l.mp h2) <|
             tw_n (s' := (143, [.ref 0, .ref a, .int size, .int p, .int (((10 * ((M a ((p + 2).toNatClampNeg)) - 48)) + (M a ((p + 3).toNatClampNeg))) - 48), .int (-9)], [.int (((10 * ((M a ((p + 2).toNatClampNeg)) - 48)) + (M a ((p + 3).toNatClampNeg))) - 48), .int (M 24 0), .ref 26], (fl_u M 25 ((M 24 0).toNatClampNeg) ((M a ((p + 1).toNatClampNeg)) - 48)), J)) hB 7 rfl <|
             tw_is hB rfl rfl (by decide) hL (fi_l.mp h2) <|
             tw_n (s' := (159, [.ref 0, .ref a, .int size, .int p, .int (((10 * ((M a ((p + 2).toNatClampNeg)) - 48)) + (M a ((p + 3).toNatClampNeg))) - 48), .int (-9)], [.int (-9)], (fl_u (fl_u (fl_u M 25 ((M 24 0).toNatClampNeg) ((M a ((p + 1).toNatClampNeg)) - 48)) 26 ((M 24 0).toNatClampNeg) (((10 * ((M a ((p + 2).toNatClampNeg)) - 48)) + (M a ((p + 3).toNatClampNeg))) - 48)) 24 0 ((M 24 0) + 1)), J)) hB 8 rfl <|
             tw_ri rfl rfl (by first | (simp only [if_neg h1, if_pos h2, if_pos h3, if_pos h4, if_pos h5, if_pos h6, if_pos h7, if_pos h8, if_neg h9, if_neg h10, if_neg h11]; done) | rfl))))) (fun h8 =>
          tw_cs hB (st0 := []) (o := some (.int (((p + 1) + 1) + 1))) rfl rfl (by decide) rfl rfl (show (0 : Nat) ≤ 8 by decide) (tw_Ce (show tw_C _ 18 [.ref a, .int size, .int (((p + 1) + 1) + 1), .int 0, .int 9] M J (some (.int (if fg (M a) size (((p + 1) + 1) + 1) 0 9 = true then (-9) else ((p + 1) + 1) + 1)), M, J) from (cc_18 _ M J a size (((p + 1) + 1) + 1) 0 9 hk hl (by omega) hs (by omega))) (by first | (simp only [if_neg h8]; done) | (simp only [if_neg h8]; rfl))) rfl <|
          tw_sh (s := (47, [.ref 0, .ref a, .int size, .int p, .int (((p + 1) + 1) + 1), .int (-9)], [.int (((p + 1) + 1) + 1)], M, J)) <|
          tw_n (s' := (53, [.ref 0, .ref a, .int size, .int p, .int (((p + 1) + 1) + 1), .int (((p + 1) + 1) + 1)], [.int (-9), .int (((p + 1) + 1) + 1)], M, J)) hB 3 rfl <|
          tw_ic hB (t := 59) rfl rfl fl_cT (fun h12 =>
           absurd h12 n3) (fun h12 =>
           tw_n (s' := (58, [.ref 0, .ref a, .int size, .int p, .int (((p + 1) + 1) + 1), .int (((p + 1) + 1) + 1)], [.int (((p + 1) + 1) + 1)], M, J)) hB 1 rfl <|
           tw_ri rfl rfl (by first | (simp only [if_neg h1, if_pos h2, if_pos h3, if_pos h4, if_pos h5, if_pos h6, if_pos h7, if_neg h8, if_neg h12]; done) | rfl)))) (fun h7 =>
         absurd k3 h7)) (fun h6 =>
        tw_cs hB (st0 := []) (o := some (.int ((p + 1) + 1))) rfl rfl (by decide) rfl rfl (show (0 : Nat) ≤ 8 by decide) (tw_Ce (show tw_C _ 18 [.ref a, .int size, .int ((p + 1) + 1), .int 0, .int 9] M J (some (.int (if fg (M a) size ((p + 1) + 1) 0 9 = true then (-9) else (p + 1) + 1)), M, J) from (cc_18 _ M J a size ((p + 1) + 1) 0 9 hk hl (by omega) hs (by omega))) (by first | (simp only [if_neg h6]; done) | (simp only [if_neg h6]; rfl))) rfl <|
        tw_sh (s := (47, [.ref 0, .ref a, .int size, .int p, .int ((p + 1) + 1), .int (-9)], [.int ((p + 1) + 1)], M, J)) <|
        tw_n (s' := (53, [.ref 0, .ref a, .int size, .int p, .int ((p + 1) + 1), .int ((p + 1) + 1)], [.int (-9), .int ((p + 1) + 1)], M, J)) hB 3 rfl <|
        tw_ic hB (t := 59) rfl rfl fl_cT (fun h13 =>
         absurd h13 n2) (fun h13 =>
         tw_n (s' := (58, [.ref 0, .ref a, .int size, .int p, .int ((p + 1) + 1), .int ((p + 1) + 1)], [.int ((p + 1) + 1)], M, J)) hB 1 rfl <|
         tw_ri rfl rfl (by first | (simp only [if_neg h1, if_pos h2, if_pos h3, if_pos h4, if_pos h5, if_neg h6, if_neg h13]; done) | rfl)))) (fun h5 =>
       absurd k2 h5)) (fun h4 =>
      tw_cs hB (st0 := []) (o := some (.int (p + 1))) rfl rfl (by decide) rfl rfl (show (0 : Nat) ≤ 8 by decide) (tw_Ce (show tw_C _ 18 [.ref a, .int size, .int (p + 1), .int 0, .int 9] M J (some (.int (if fg (M a) size (p + 1) 0 9 = true then (-9) else p + 1)), M, J) from (cc_18 _ M J a size (p + 1) 0 9 hk hl (by omega) hs (by omega))) (by first | (simp only [if_neg h4]; done) | (simp only [if_neg h4]; rfl))) rfl <|
      tw_sh (s := (47, [.ref 0, .ref a, .int size, .int p, .int (p + 1), .null], [.int (p + 1)], M, J)) <|
      tw_n (s' := (53, [.ref 0, .ref a, .int size, .int p, .int (p + 1), .int (p + 1)], [.int (-9), .int (p + 1)], M, J)) hB 3 rfl <|
      tw_ic hB (t := 59) rfl rfl fl_cT (fun h14 =>
       absurd h14 n1) (fun h14 =>
       tw_n (s' := (58, [.ref 0, .ref a, .int size, .int p, .int (p + 1), .int (p + 1)], [.int (p + 1)], M, J)) hB 1 rfl <|
       tw_ri rfl rfl (by first | (simp only [if_neg h1, if_pos h2, if_pos h3, if_neg h4, if_neg h14]; done) | rfl)))) (fun h3 =>
     absurd k1 h3)) (fun h2 =>
    tw_n (s' := (23, [.ref 0, .ref a, .int size, .int p, .null, .null], [.int p], M, J)) hB 1 rfl <|
    tw_ri rfl rfl (by first | (simp only [if_neg h1, if_neg h2]; done) | rfl)))
def fB19 : sm_P := (fun pc => sm_ch sm_t19 pc, sm_Kn 2 6 none, fun x => sm_lk sm_ca2 x, some .int)
theorem cc_19 (d : Nat) (M : fl_M) (J : fl_J) (size p : Int32) (a : Nat) (hk : fl_kd a = 1) (hl : fl_len a = 60) (hq : 0 ≤ p.toInt) (hs : size.toInt ≤ 60) (hn : p.toInt < size.toInt) (hL : 0 ≤ (M 24 0).toInt) (hK : M 999 = sm_kl) (hm : 0 ≤ (M 24 1).toInt) : tw_C (d + 2) 19 [.ref 0, .ref a, .int size, .int p] M J (some (.int (if (fk (M a p.toNatClampNeg)) = (-9) then p else (if (M 24 0) = 0 then p else (if (M 24 1) < 4 then (if fg (M a) size (p + 1) 0 ((M 24 0) - 1) = true then (if fg (M a) size (p + 2) 1 9 = true then (-9) else p + 2) else p + 1) else p)))), (if (fk (M a p.toNatClampNeg)) = (-9) then M else (if (M 24 0) = 0 then M else (if (M 24 1) < 4 then (if fg (M a) size (p + 1) 0 ((M 24 0) - 1) = true then (if fg (M a) size (p + 2) 1 9 = true then (fl_u (fl_u (fl_u (fl_u M 29 ((M 24 1).toNatClampNeg) (fk (M a p.toNatClampNeg))) 31 ((M 24 1).toNatClampNeg) (((fl_u M 29 ((M 24 1).toNatClampNeg) (fk (M a p.toNatClampNeg))) a ((p + 1).toNatClampNeg)) - 48)) 30 ((M 24 1).toNatClampNeg) (((fl_u (fl_u M 29 ((M 24 1).toNatClampNeg) (fk (M a p.toNatClampNeg))) 31 ((M 24 1).toNatClampNeg) (((fl_u M 29 ((M 24 1).toNatClampNeg) (fk (M a p.toNatClampNeg))) a ((p + 1).toNatClampNeg)) - 48)) a ((p + 2).toNatClampNeg)) - 48)) 24 1 ((M 24 1) + 1)) else M) else M) else M))), J) := by
  have hB : fw_B fB19 := fw_sB (k := 19) (by decide)
  have e1 : (p + 1).toInt = p.toInt + 1 := fi_p1 (by omega)
  have e2 : (p + 2).toInt = p.toInt + 2 := by rw [fi_add (by rw [show (2 : Int32).toInt = 2 from rfl]; omega) (by rw [show (2 : Int32).toInt = 2 from rfl]; omega)]; rfl
  have e3 : (p + 3).toInt = p.toInt + 3 := by rw [fi_add (by rw [show (3 : Int32).toInt = 3 from rfl]; omega) (by rw [show (3 : Int32).toInt = 3 from rfl]; omega)]; rfl
  have e4 : (p + 4).toInt = p.toInt + 4 := by rw [fi_add (by rw [show (4 : Int32).toInt = 4 from rfl]; omega) (by rw [show (4 : Int32).toInt = 4 from rfl]; omega)]; rfl
  have g2 : (p + 1 + 1).toInt = p.toInt + 2 := by rw [fi_p1 (by omega), e1]; omega
  have g3 : (p + 1 + 1 + 1).toInt = p.toInt + 3 := by rw [fi_p1 (by omega), g2]; omega
  have g4 : (p + 1 + 1 + 1 + 1).toInt = p.toInt + 4 := by rw [fi_p1 (by omega), g3]; omega
  have k1 : (p + 1) < (p + 4) := fi_l.mpr (by omega)
  have k2 : (p + 1 + 1) < (p + 4) := fi_l.mpr (by omega)
  have k3 : (p + 1 + 1 + 1) < (p + 4) := fi_l.mpr (by omega)
  have k4 : ¬ (p + 1 + 1 + 1 + 1) < (p + 4) := fun z => by have z := fi_l.mp z; omega
  have n1 : ¬ (p + 1) = (-9) := fun z => by have z := fi_e.mp z; rw [show (-9 : Int32).toInt = -9 from rfl] at z; omega
  have n2 : ¬ (p + 1 + 1) = (-9) := fun z => by have z := fi_e.mp z; rw [show (-9 : Int32).toInt = -9 from rfl] at z; omega
  have n3 : ¬ (p + 1 + 1 + 1) = (-9) := fun z => by have z := fi_e.mp z; rw [show (-9 : Int32).toInt = -9 from rfl] at z; omega
  have n4 : ¬ (p + 2) = (-9) := fun z => by have z := fi_e.mp z; rw [show (-9 : Int32).toInt = -9 from rfl] at z; omega
  refine tw_Co (d := d + 1) (B := fB19) (by decide) rfl rfl (show (4 : Nat) ≤ 6 by decide) ?_ ?_
  · intro i v hv hn
    match i, hv with
    | 0, hv => cases hv; rfl
    | 1, hv => cases hv; rfl
    | 2, hv => cases hv; rfl
    | 3, hv => cases hv; rfl
    | 4, hv => cases hv; exact absurd rfl hn
    | 5, hv => cases hv; exact absurd rfl hn
    | _ + 6, hv => cases hv
  exact tw_n (s' := (2, [.ref 0, .ref a, .int size, .int p, .null, .null], [.int p, .ref a], M, J)) hB 2 rfl <|
  tw_ba hB rfl hk (fw_98 hk (by decide)) (by omega) (by rw [hl]; omega) <|
  tw_cs hB (st0 := []) (o := some (.int (fk (M a p.toNatClampNeg)))) rfl rfl (by decide) rfl rfl (show (0 : Nat) ≤ 8 by decide) (cc_20 _ M J (M a p.toNatClampNeg) (by assumption)) rfl <|
  tw_sh (s := (6, [.ref 0, .ref a, .int size, .int p, .null, .null], [.int (fk (M a p.toNatClampNeg))], M, J)) <|
  tw_n (s' := (12, [.ref 0, .ref a, .int size, .int p, .int (fk (M a p.toNatClampNeg)), .null], [.int (-9), .int (fk (M a p.toNatClampNeg))], M, J)) hB 3 rfl <|
  tw_ic hB (t := 36) rfl rfl fl_cT (fun h1 =>
   tw_n (s' := (37, [.ref 0, .ref a, .int size, .int p, .int (fk (M a p.toNatClampNeg)), .null], [.int p], M, J)) hB 1 rfl <|
   tw_ri rfl rfl (by first | (simp only [if_pos h1]; done) | rfl)) (fun h1 =>
   tw_n (s' := (22, [.ref 0, .ref a, .int size, .int p, .int (fk (M a p.toNatClampNeg)), .null], [.int (M 24 0)], M, J)) hB 3 rfl <|
   tw_if hB (t := 36) rfl rfl fl_cT (fun h2 =>
    tw_n (s' := (37, [.ref 0, .ref a, .int size, .int p, .int (fk (M a p.toNatClampNeg)), .null], [.int p], M, J)) hB 1 rfl <|
    tw_ri rfl rfl (by first | (simp only [if_neg h1, if_pos h2]; done) | rfl)) (fun h2 =>
    tw_n (s' := (33, [.ref 0, .ref a, .int size, .int p, .int (fk (M a p.toNatClampNeg)), .null], [.int 4, .int (M 24 1)], M, J)) hB 4 rfl <|
    tw_ic hB (t := 38) rfl rfl fl_cT (fun h3 =>
     tw_n (s' := (53, [.ref 0, .ref a, .int size, .int p, .int (fk (M a p.toNatClampNeg)), .null], [.int ((M 24 0) - 1), .int 0, .int (p + 1), .int size, .ref a], M, J)) hB 11 rfl <|
     tw_dc (c := fg (M a) size (p + 1) 0 ((M 24 0) - 1) = true) (fun h4 =>
      have z4 := fg_lt h4; tw_cs hB (st0 := []) (o := some (.int (-9))) rfl rfl (by decide) rfl rfl (show (0 : Nat) ≤ 8 by decide) (tw_Ce (show tw_C _ 18 [.ref a, .int size, .int (p + 1), .int 0, .int ((M 24 0) - 1)] M J (some (.int (if fg (M a) size (p + 1) 0 ((M 24 0) - 1) = true then (-9) else p + 1)), M, J) from (cc_18 _ M J a size (p + 1) 0 ((M 24 0) - 1) hk hl (by omega) hs (by omega))) (by first | (simp only [if_pos h4]; done) | (simp only [if_pos h4]; rfl))) rfl <|
      tw_sh (s := (56, [.ref 0, .ref a, .int size, .int p, .int (fk (M a p.toNatClampNeg)), .null], [.int (-9)], M, J)) <|
      tw_n (s' := (73, [.ref 0, .ref a, .int size, .int p, .int (fk (M a p.toNatClampNeg)), .int (-9)], [.int 9, .int 1, .int (p + 2), .int size, .ref a], M, J)) hB 11 rfl <|
      tw_dc (c := fg (M a) size (p + 2) 1 9 = true) (fun h5 =>
       have z5 := fg_lt h5; tw_cs hB (st0 := []) (o := some (.int (-9))) rfl rfl (by decide) rfl rfl (show (0 : Nat) ≤ 8 by decide) (tw_Ce (show tw_C _ 18 [.ref a, .int size, .int (p + 2), .int 1, .int 9] M J (some (.int (if fg (M a) size (p + 2) 1 9 = true then (-9) else p + 2)), M, J) from (cc_18 _ M J a size (p + 2) 1 9 hk hl (by omega) hs (by omega))) (by first | (simp only [if_pos h5]; done) | (simp only [if_pos h5]; rfl))) rfl <|
       tw_sh (s := (76, [.ref 0, .ref a, .int size, .int p, .int (fk (M a p.toNatClampNeg)), .int (-9)], [.int (-9)], M, J)) <|
       tw_n (s' := (104, [.ref 0, .ref a, .int size, .int p, .int (fk (M a p.toNatClampNeg)), .int (-9)], [.int (fk (M a p.toNatClampNeg)), .int (M 24 1), .ref 29], M, J)) hB 11 rfl <|
       tw_is hB rfl rfl (by decide) hm (fi_l.mp h3) <|
       tw_n (s' := (123, [.ref 0, .ref a, .int size, .int p, .int (fk (M a p.toNatClampNeg)), .int (-9)], [.int (p + 1), .ref a, .int (M 24 1), .ref 31], (fl_u M 29 ((M 24 1).toNatClampNeg) (fk (M a p.toNatClampNeg))), J)) hB 10 rfl <|
       tw_ba hB rfl hk (fw_98 hk (by decide)) (by omega) (by rw [hl]; omega) <|
       tw_n (s' := (127, [.ref 0, .ref a, .int size, .int p, .int (fk (M a p.toNatClampNeg)), .int (-9)], [.int (((fl_u M 29 ((M 24 1).toNatClampNeg) (fk (M a p.toNatClampNeg))) a ((p + 1).toNatClampNeg)) - 48), .int (M 24 1), .ref 31], (fl_u M 29 ((M 24 1).toNatClampNeg) (fk (M a p.toNatClampNeg))), J)) hB 2 rfl <|
       tw_is hB rfl rfl (by decide) hm (fi_l.mp h3) <|
       tw_n (s' := (146, [.ref 0, .ref a, .int size, .int p, .int (fk (M a p.toNatClampNeg)), .int (-9)], [.int (p + 2), .ref a, .int (M 24 1), .ref 30], (fl_u (fl_u M 29 ((M 24 1).toNatClampNeg) (fk (M a p.toNatClampNeg))) 31 ((M 24 1).toNatClampNeg) (((fl_u M 29 ((M 24 1).toNatClampNeg) (fk (M a p.toNatClampNeg))) a ((p + 1).toNatClampNeg)) - 48)), J)) hB 10 rfl <|
       tw_ba hB rfl hk (fw_98 hk (by decide)) (by omega) (by rw [hl]; omega) <|
       tw_n (s' := (150, [.ref 0, .ref a, .int size, .int p, .int (fk (M a p.toNatClampNeg)), .int (-9)], [.int (((fl_u (fl_u M 29 ((M 24 1).toNatClampNeg) (fk (M a p.toNatClampNeg))) 31 ((M 24 1).toNatClampNeg) (((fl_u M 29 ((M 24 1).toNatClampNeg) (fk (M a p.toNatClampNeg))) a ((p + 1).toNatClampNeg)) - 48)) a ((p + 2).toNatClampNeg)) - 48), .int (M 24 1), .ref 30], (fl_u (fl_u M 29 ((M 24 1).toNatClampNeg) (fk (M a p.toNatClampNeg))) 31 ((M 24 1).toNatClampNeg) (((fl_u M 29 ((M 24 1).toNatClampNeg) (fk (M a p.toNatClampNeg))) a ((p + 1).toNatClampNeg)) - 48)), J)) hB 2 rfl <|
       tw_is hB rfl rfl (by decide) hm (fi_l.mp h3) <|
       tw_n (s' := (166, [.ref 0, .ref a, .int size, .int p, .int (fk (M a p.toNatClampNeg)), .int (-9)], [.int (-9)], (fl_u (fl_u (fl_u (fl_u M 29 ((M 24 1).toNatClampNeg) (fk (M a p.toNatClampNeg))) 31 ((M 24 1).toNatClampNeg) (((fl_u M 29 ((M 24 1).toNatClampNeg) (fk (M a p.toNatClampNeg))) a ((p + 1).toNatClampNeg)) - 48)) 30 ((M 24 1).toNatClampNeg) (((fl_u (fl_u M 29 ((M 24 1).toNatClampNeg) (fk (M a p.toNatClampNeg))) 31 ((M 24 1).toNatClampNeg) (((fl_u M 29 ((M 24 1).toNatClampNeg) (fk (M a p.toNatClampNeg))) a ((p + 1).toNatClampNeg)) - 48)) a ((p + 2).toNatClampNeg)) - 48)) 24 1 ((M 24 1) + 1)), J)) hB 8 rfl <|
       tw_ri rfl rfl (by first | (simp only [if_neg h1, if_neg h2, if_pos h3, if_pos h4, if_pos h5]; done) | rfl)) (fun h5 =>
       tw_cs hB (st0 := []) (o := some (.int (p + 2))) rfl rfl (by decide) rfl rfl (show (0 : Nat) ≤ 8 by decide) (tw_Ce (show tw_C _ 18 [.ref a, .int size, .int (p + 2), .int 1, .int 9] M J (some (.int (if fg (M a) size (p + 2) 1 9 = true then (-9) else p + 2)), M, J) from (cc_18 _ M J a size (p + 2) 1 9 hk hl (by omega) hs (by omega))) (by first | (simp only [if_neg h5]; done) | (simp only [if_neg h5]; rfl))) rfl <|
       tw_sh (s := (76, [.ref 0, .ref a, .int size, .int p, .int (fk (M a p.toNatClampNeg)), .int (-9)], [.int (p + 2)], M, J)) <|
       tw_n (s' := (82, [.ref 0, .ref a, .int size, .int p, .int (fk (M a p.toNatClampNeg)), .int (p + 2)], [.int (-9), .int (p + 2)], M, J)) hB 3 rfl <|
       tw_ic hB (t := 88) rfl rfl fl_cT (fun h6 =>
        absurd h6 n4) (fun h6 =>
        tw_n (s' := (87, [.ref 0, .ref a, .int size, .int p, .int (fk (M a p.toNatClampNeg)), .int (p + 2)], [.int (p + 2)], M, J)) hB 1 rfl <|
        tw_ri rfl rfl (by first | (simp only [if_neg h1, if_neg h2, if_pos h3, if_pos h4, if_neg h5, if_neg h6]; done) | rfl)))) (fun h4 =>
      tw_cs hB (st0 := []) (o := some (.int (p + 1))) rfl rfl (by decide) rfl rfl (show (0 : Nat) ≤ 8 by decide) (tw_Ce (show tw_C _ 18 [.ref a, .int size, .int (p + 1), .int 0, .int ((M 24 0) - 1)] M J (some (.int (if fg (M a) size (p + 1) 0 ((M 24 0) - 1) = true then (-9) else p + 1)), M, J) from (cc_18 _ M J a size (p + 1) 0 ((M 24 0) - 1) hk hl (by omega) hs (by omega))) (by first | (simp only [if_neg h4]; done) | (simp only [if_neg h4]; rfl))) rfl <|
      tw_sh (s := (56, [.ref 0, .ref a, .int size, .int p, .int (fk (M a p.toNatClampNeg)), .null], [.int (p + 1)], M, J)) <|
      tw_n (s' := (62, [.ref 0, .ref a, .int size, .int p, .int (fk (M a p.toNatClampNeg)), .int (p + 1)], [.int (-9), .int (p + 1)], M, J)) hB 3 rfl <|
      tw_icN hB (t := 78) rfl rfl fl_cF (fun h7 =>
       absurd h7 n1) (fun h7 =>
       tw_n (s' := (82, [.ref 0, .ref a, .int size, .int p, .int (fk (M a p.toNatClampNeg)), .int (p + 1)], [.int (-9), .int (p + 1)], M, J)) hB 2 rfl <|
       tw_ic hB (t := 88) rfl rfl fl_cT (fun h8 =>
        absurd h8 n1) (fun h8 =>
        tw_n (s' := (87, [.ref 0, .ref a, .int size, .int p, .int (fk (M a p.toNatClampNeg)), .int (p + 1)], [.int (p + 1)], M, J)) hB 1 rfl <|
        tw_ri rfl rfl (by first | (simp only [if_neg h1, if_neg h2, if_pos h3, if_neg h4, if_neg h7, if_neg h8]; done) | rfl))))) (fun h3 =>
     tw_n (s' := (37, [.ref 0, .ref a, .int size, .int p, .int (fk (M a p.toNatClampNeg)), .null], [.int p], M, J)) hB 1 rfl <|
     tw_ri rfl rfl (by first | (simp only [if_neg h1, if_neg h2, if_neg h3]; done) | rfl))))
