def fB34 : sm_P := (fun pc => sm_ch sm_t34 pc, sm_Kn 2 3 none, fun x => sm_lk sm_ca2 x, some .int)
def v_34 (i wh : Int32) (M : fl_M) : Int32 := (if wh = 0 then M 20 i.toNatClampNeg else (if wh = 1 then M 23 i.toNatClampNeg else (if wh = 2 then M 21 i.toNatClampNeg else (if wh = 3 then v_35 (M 20 i.toNatClampNeg) (M 21 i.toNatClampNeg) else ((lr_28_11 i (-9) 0 0 15 M).1)))))
theorem cc_34 (M : fl_M) (J : fl_J) (i wh : Int32) : fl_C 34 [.ref 0, .int i, .int wh] M J (some (.int (v_34 i wh M)), M, J) :=
 fl_Co (B := fB34) rfl rfl <|
 fl_td (s' := (1, [.ref 0, .int i, .int wh], [.int wh], M, J)) (fl_n 1 rfl) <|
 fl_dc (c := wh = 0) (fun h1 =>
  fl_td (s' := (32, [.ref 0, .int i, .int wh], [], M, J)) (fl_sw h1 rfl) <|
  fl_td (s' := (41, [.ref 0, .int i, .int wh], [.int (M 20 i.toNatClampNeg)], M, J)) (fl_n 5 rfl) <|
  fl_rt rfl (fun _ => rfl) (by unfold v_34; first | (simp only [if_pos h1]; done) | rfl)) (fun h1 =>
  fl_dc (c := wh = 1) (fun h2 =>
   fl_td (s' := (42, [.ref 0, .int i, .int wh], [], M, J)) (fl_sw h2 rfl) <|
   fl_td (s' := (51, [.ref 0, .int i, .int wh], [.int (M 23 i.toNatClampNeg)], M, J)) (fl_n 5 rfl) <|
   fl_rt rfl (fun _ => rfl) (by unfold v_34; first | (simp only [if_neg h1, if_pos h2]; done) | rfl)) (fun h2 =>
   fl_dc (c := wh = 2) (fun h3 =>
    fl_td (s' := (52, [.ref 0, .int i, .int wh], [], M, J)) (fl_sw h3 rfl) <|
    fl_td (s' := (61, [.ref 0, .int i, .int wh], [.int (M 21 i.toNatClampNeg)], M, J)) (fl_n 5 rfl) <|
    fl_rt rfl (fun _ => rfl) (by unfold v_34; first | (simp only [if_neg h1, if_neg h2, if_pos h3]; done) | rfl)) (fun h3 =>
    fl_dc (c := wh = 3) (fun h4 =>
     fl_td (s' := (62, [.ref 0, .int i, .int wh], [], M, J)) (fl_sw h4 rfl) <|
     fl_td (s' := (80, [.ref 0, .int i, .int wh], [.int (M 21 i.toNatClampNeg), .int (M 20 i.toNatClampNeg)], M, J)) (fl_n 10 rfl) <|
     fl_td (s' := (83, [.ref 0, .int i, .int wh], [.int (v_35 (M 20 i.toNatClampNeg) (M 21 i.toNatClampNeg))], M, J)) (fl_cs (o := some (.int (v_35 (M 20 i.toNatClampNeg) (M 21 i.toNatClampNeg)))) rfl rfl rfl (cc_35 M J (M 20 i.toNatClampNeg) (M 21 i.toNatClampNeg)) rfl) <|
     fl_rt rfl (fun _ => rfl) (by unfold v_34; first | (simp only [if_neg h1, if_neg h2, if_neg h3, if_pos h4]; done) | rfl)) (fun h4 =>
     fl_td (s' := (84, [.ref 0, .int i, .int wh], [], M, J)) (fl_swd rfl rfl (by have e0 := fl_ne 0 rfl h1; have e1 := fl_ne 1 rfl h2; have e2 := fl_ne 2 rfl h3; have e3 := fl_ne 3 rfl h4; omega)) <|
     fl_td (s' := (89, [.ref 0, .int i, .int wh], [.int i, .ref 15], M, J)) (fl_n 3 rfl) <|
     fl_td (s' := (92, [.ref 0, .int i, .int wh], [.int ((lr_28_11 i (-9) 0 0 15 M).1)], M, J)) (fl_cv (o := some (.int ((lr_28_11 i (-9) 0 0 15 M).1))) rfl rfl rfl rfl (cc_28 M J i 15) rfl) <|
     fx_gen (p := fun (II55 : Int32) => fl_dn fB34 (92, [.ref 0, .int i, .int wh], [.int II55], M, J) (some (.int (v_34 i wh M)), M, J)) ((lr_28_11 i (-9) 0 0 15 M).1) (fun II55 eII55 =>
      fl_rt rfl (fun _ => rfl) (by subst eII55; unfold v_34; first | (simp only [if_neg h1, if_neg h2, if_neg h3, if_neg h4]; done) | rfl))))))
def fB32 : sm_P := (fun pc => sm_ch sm_t32 pc, sm_Kn 2 3 none, fun x => sm_lk sm_ca2 x, some .int)
def v_32 (i wh : Int32) (M : fl_M) : Int32 := (if (i < 0) ∨ (¬ (i < (M 15 1))) then (-1) else (if wh < 0 then (-1) else (if wh < 5 then 1 else (-1))))
def m_32 (i wh : Int32) (M : fl_M) : fl_M := (if (i < 0) ∨ (¬ (i < (M 15 1))) then M else (if wh < 0 then M else (if wh < 5 then (fl_u M 0 12 (v_34 i wh M)) else M)))
theorem cc_32 (M : fl_M) (J : fl_J) (i wh : Int32) : fl_C 32 [.ref 0, .int i, .int wh] M J (some (.int (v_32 i wh M)), (m_32 i wh M), J) :=
 fl_Co (B := fB32) rfl rfl <|
 fl_td (s' := (2, [.ref 0, .int i, .int wh], [.int i, .ref 0], M, J)) (fl_n 2 rfl) <|
 fl_td (s' := (5, [.ref 0, .int i, .int wh], [.int (if (i < 0) ∨ (¬ (i < (M 15 1))) then 1 else 0)], M, J)) (fl_cv (o := some (.int (if (i < 0) ∨ (¬ (i < (M 15 1))) then 1 else 0))) rfl rfl rfl rfl (cc_33 M J i) rfl) <|
 fl_dtwo (fl_if (t := 17) rfl rfl) fl_b1 (fun h1 =>
  fl_td (s' := (18, [.ref 0, .int i, .int wh], [.int (-1)], M, J)) (fl_n 1 rfl) <|
  fl_rt rfl (fun _ => rfl) (by unfold v_32 m_32; first | (simp only [if_pos h1]; done) | rfl)) (fun h1 =>
  fl_td (s' := (9, [.ref 0, .int i, .int wh], [.int wh], M, J)) (fl_n 1 rfl) <|
  fl_dtwo (fl_if (t := 17) rfl rfl) fl_cT (fun h2 =>
   fl_td (s' := (18, [.ref 0, .int i, .int wh], [.int (-1)], M, J)) (fl_n 1 rfl) <|
   fl_rt rfl (fun _ => rfl) (by unfold v_32 m_32; first | (simp only [if_neg h1, if_pos h2]; done) | rfl)) (fun h2 =>
   fl_td (s' := (14, [.ref 0, .int i, .int wh], [.int 5, .int wh], M, J)) (fl_n 2 rfl) <|
   fl_dtwo (fl_ic (t := 19) rfl rfl) fl_cT (fun h3 =>
    fl_td (s' := (23, [.ref 0, .int i, .int wh], [.int wh, .int i, .ref 0, .ref 0], M, J)) (fl_n 4 rfl) <|
    fl_td (s' := (26, [.ref 0, .int i, .int wh], [.int (v_34 i wh M), .ref 0], M, J)) (fl_cv (o := some (.int (v_34 i wh M))) rfl rfl rfl rfl (cc_34 M J i wh) rfl) <|
    fl_td (s' := (29, [.ref 0, .int i, .int wh], [.int 1], (fl_u M 0 12 (v_34 i wh M)), J)) (fl_cv (o := some (.int 1)) rfl rfl rfl rfl (cc_5 M J (v_34 i wh M)) rfl) <|
    fl_rt rfl (fun _ => rfl) (by unfold v_32 m_32; first | (simp only [if_neg h1, if_neg h2, if_pos h3]; done) | rfl)) (fun h3 =>
    fl_td (s' := (18, [.ref 0, .int i, .int wh], [.int (-1)], M, J)) (fl_n 1 rfl) <|
    fl_rt rfl (fun _ => rfl) (by unfold v_32 m_32; first | (simp only [if_neg h1, if_neg h2, if_neg h3]; done) | rfl))))
def fB36 : sm_P := (fun pc => sm_ch sm_t36 pc, sm_Kn 2 3 none, fun x => sm_lk sm_ca2 x, some .int)
def v_36 (i kind : Int32) (M : fl_M) : Int32 := (if (i < 0) ∨ (¬ (i < (M 15 1))) then (-1) else (if 0 < kind then (if kind < 6 then (if (kind = 0) ∨ (((M 20 i.toNatClampNeg) = kind) ∨ ((((M 20 i.toNatClampNeg) = 4) ∧ ((kind = 2) ∨ (((M 20 i.toNatClampNeg) = 5) ∧ (kind = 3)))) ∨ ((¬ ((M 20 i.toNatClampNeg) = 4)) ∧ (((M 20 i.toNatClampNeg) = 5) ∧ (kind = 3))))) then (if kind = 1 then (lr_38_4 i 0 15 M) else (if kind = 2 then (lr_39_4 0 15 M) else (if kind = 3 then v_40 i 15 M else (if kind = 4 then (v_35 0 (M 21 i.toNatClampNeg)) - (v_35 (M 20 i.toNatClampNeg) (M 21 i.toNatClampNeg)) else (lr_41_4 0 15 M))))) else (-3)) else (-1)) else (-1)))
def m_36 (i kind : Int32) (M : fl_M) : fl_M := (if (i < 0) ∨ (¬ (i < (M 15 1))) then M else (if 0 < kind then (if kind < 6 then (if (kind = 0) ∨ (((M 20 i.toNatClampNeg) = kind) ∨ ((((M 20 i.toNatClampNeg) = 4) ∧ ((kind = 2) ∨ (((M 20 i.toNatClampNeg) = 5) ∧ (kind = 3)))) ∨ ((¬ ((M 20 i.toNatClampNeg) = 4)) ∧ (((M 20 i.toNatClampNeg) = 5) ∧ (kind = 3))))) then M else (fl_u (fl_u M 0 11 3) 80 3 ((M 80 3) + 1))) else M) else M))
theorem cc_36 (M : fl_M) (J : fl_J) (i kind : Int32) : fl_C 36 [.ref 0, .int i, .int kind] M J (some (.int (v_36 i kind M)), (m_36 i kind M), J) :=
 fl_Co (B := fB36) rfl rfl <|
 fl_td (s' := (2, [.ref 0, .int i, .int kind], [.int i, .ref 0], M, J)) (fl_n 2 rfl) <|
 fl_td (s' := (5, [.ref 0, .int i, .int kind], [.int (if (i < 0) ∨ (¬ (i < (M 15 1))) then 1 else 0)], M, J)) (fl_cv (o := some (.int (if (i < 0) ∨ (¬ (i < (M 15 1))) then 1 else 0))) rfl rfl rfl rfl (cc_33 M J i) rfl) <|
 fl_dtwo (fl_if (t := 18) rfl rfl) fl_b1 (fun h1 =>
  fl_td (s' := (19, [.ref 0, .int i, .int kind], [.int (-1)], M, J)) (fl_n 1 rfl) <|
  fl_rt rfl (fun _ => rfl) (by unfold v_36 m_36; first | (simp only [if_pos h1]; done) | rfl)) (fun h1 =>
  fl_td (s' := (9, [.ref 0, .int i, .int kind], [.int kind], M, J)) (fl_n 1 rfl) <|
  fl_dnot (fl_if (t := 18) rfl rfl) fl_nle (fun h2 =>
   fl_td (s' := (15, [.ref 0, .int i, .int kind], [.int 6, .int kind], M, J)) (fl_n 2 rfl) <|
   fl_dtwo (fl_ic (t := 20) rfl rfl) fl_cT (fun h3 =>
    fl_td (s' := (30, [.ref 0, .int i, .int kind], [.int kind, .int (M 20 i.toNatClampNeg)], M, J)) (fl_n 6 rfl) <|
    fl_td (s' := (33, [.ref 0, .int i, .int kind], [.int (if (kind = 0) ∨ (((M 20 i.toNatClampNeg) = kind) ∨ ((((M 20 i.toNatClampNeg) = 4) ∧ ((kind = 2) ∨ (((M 20 i.toNatClampNeg) = 5) ∧ (kind = 3)))) ∨ ((¬ ((M 20 i.toNatClampNeg) = 4)) ∧ (((M 20 i.toNatClampNeg) = 5) ∧ (kind = 3))))) then 1 else 0)], M, J)) (fl_cs (o := some (.int (if (kind = 0) ∨ (((M 20 i.toNatClampNeg) = kind) ∨ ((((M 20 i.toNatClampNeg) = 4) ∧ ((kind = 2) ∨ (((M 20 i.toNatClampNeg) = 5) ∧ (kind = 3)))) ∨ ((¬ ((M 20 i.toNatClampNeg) = 4)) ∧ (((M 20 i.toNatClampNeg) = 5) ∧ (kind = 3))))) then 1 else 0))) rfl rfl rfl (cc_37 M J (M 20 i.toNatClampNeg) kind) rfl) <|
    fl_dtwo (fl_if (t := 42) rfl rfl) fl_b1 (fun h4 =>
     fl_td (s' := (43, [.ref 0, .int i, .int kind], [.int kind], M, J)) (fl_n 1 rfl) <|
     fl_dc (c := kind = 1) (fun h5 =>
      fl_td (s' := (72, [.ref 0, .int i, .int kind], [], M, J)) (fl_sw h5 rfl) <|
      fl_td (s' := (77, [.ref 0, .int i, .int kind], [.int i, .ref 15], M, J)) (fl_n 3 rfl) <|
      fl_td (s' := (80, [.ref 0, .int i, .int kind], [.int (lr_38_4 i 0 15 M)], M, J)) (fl_cv (o := some (.int (lr_38_4 i 0 15 M))) rfl rfl rfl rfl (cc_38 M J i 15) rfl) <|
      fx_gen (p := fun (II56 : Int32) => fl_dn fB36 (80, [.ref 0, .int i, .int kind], [.int II56], M, J) (some (.int (v_36 i kind M)), (m_36 i kind M), J)) (lr_38_4 i 0 15 M) (fun II56 eII56 =>
       fl_rt rfl (fun _ => rfl) (by subst eII56; unfold v_36 m_36; first | (simp only [if_neg h1, if_pos h2, if_pos h3, if_pos h4, if_pos h5]; done) | rfl))) (fun h5 =>
      fl_dc (c := kind = 2) (fun h6 =>
       fl_td (s' := (81, [.ref 0, .int i, .int kind], [], M, J)) (fl_sw h6 rfl) <|
       fl_td (s' := (85, [.ref 0, .int i, .int kind], [.ref 15], M, J)) (fl_n 2 rfl) <|
       fl_td (s' := (88, [.ref 0, .int i, .int kind], [.int (lr_39_4 0 15 M)], M, J)) (fl_cv (o := some (.int (lr_39_4 0 15 M))) rfl rfl rfl rfl (cc_39 M J 15) rfl) <|
       fx_gen (p := fun (II57 : Int32) => fl_dn fB36 (88, [.ref 0, .int i, .int kind], [.int II57], M, J) (some (.int (v_36 i kind M)), (m_36 i kind M), J)) (lr_39_4 0 15 M) (fun II57 eII57 =>
        fl_rt rfl (fun _ => rfl) (by subst eII57; unfold v_36 m_36; first | (simp only [if_neg h1, if_pos h2, if_pos h3, if_pos h4, if_neg h5, if_pos h6]; done) | rfl))) (fun h6 =>
       fl_dc (c := kind = 3) (fun h7 =>
        fl_td (s' := (89, [.ref 0, .int i, .int kind], [], M, J)) (fl_sw h7 rfl) <|
        fl_td (s' := (94, [.ref 0, .int i, .int kind], [.int i, .ref 15], M, J)) (fl_n 3 rfl) <|
        fl_td (s' := (97, [.ref 0, .int i, .int kind], [.int (v_40 i 15 M)], M, J)) (fl_cv (o := some (.int (v_40 i 15 M))) rfl rfl rfl rfl (cc_40 M J i 15) rfl) <|
        fl_rt rfl (fun _ => rfl) (by unfold v_36 m_36; first | (simp only [if_neg h1, if_pos h2, if_pos h3, if_pos h4, if_neg h5, if_neg h6, if_pos h7]; done) | rfl)) (fun h7 =>
        fl_dc (c := kind = 4) (fun h8 =>
         fl_td (s' := (98, [.ref 0, .int i, .int kind], [], M, J)) (fl_sw h8 rfl) <|
         fl_td (s' := (108, [.ref 0, .int i, .int kind], [.int (M 21 i.toNatClampNeg), .int 0], M, J)) (fl_n 6 rfl) <|
         fl_td (s' := (111, [.ref 0, .int i, .int kind], [.int (v_35 0 (M 21 i.toNatClampNeg))], M, J)) (fl_cs (o := some (.int (v_35 0 (M 21 i.toNatClampNeg)))) rfl rfl rfl (cc_35 M J 0 (M 21 i.toNatClampNeg)) rfl) <|
         fl_td (s' := (129, [.ref 0, .int i, .int kind], [.int (M 21 i.toNatClampNeg), .int (M 20 i.toNatClampNeg), .int (v_35 0 (M 21 i.toNatClampNeg))], M, J)) (fl_n 10 rfl) <|
         fl_td (s' := (132, [.ref 0, .int i, .int kind], [.int (v_35 (M 20 i.toNatClampNeg) (M 21 i.toNatClampNeg)), .int (v_35 0 (M 21 i.toNatClampNeg))], M, J)) (fl_cs (o := some (.int (v_35 (M 20 i.toNatClampNeg) (M 21 i.toNatClampNeg)))) rfl rfl rfl (cc_35 M J (M 20 i.toNatClampNeg) (M 21 i.toNatClampNeg)) rfl) <|
         fl_td (s' := (133, [.ref 0, .int i, .int kind], [.int ((v_35 0 (M 21 i.toNatClampNeg)) - (v_35 (M 20 i.toNatClampNeg) (M 21 i.toNatClampNeg)))], M, J)) (fl_n 1 rfl) <|
         fl_rt rfl (fun _ => rfl) (by unfold v_36 m_36; first | (simp only [if_neg h1, if_pos h2, if_pos h3, if_pos h4, if_neg h5, if_neg h6, if_neg h7, if_pos h8]; done) | rfl)) (fun h8 =>
         fl_td (s' := (134, [.ref 0, .int i, .int kind], [], M, J)) (fl_swd rfl rfl (by have e0 := fl_ne 1 rfl h5; have e1 := fl_ne 2 rfl h6; have e2 := fl_ne 3 rfl h7; have e3 := fl_ne 4 rfl h8; omega)) <|
         fl_td (s' := (138, [.ref 0, .int i, .int kind], [.ref 15], M, J)) (fl_n 2 rfl) <|
         fl_td (s' := (141, [.ref 0, .int i, .int kind], [.int (lr_41_4 0 15 M)], M, J)) (fl_cv (o := some (.int (lr_41_4 0 15 M))) rfl rfl rfl rfl (cc_41 M J 15) rfl) <|
         fx_gen (p := fun (II58 : Int32) => fl_dn fB36 (141, [.ref 0, .int i, .int kind], [.int II58], M, J) (some (.int (v_36 i kind M)), (m_36 i kind M), J)) (lr_41_4 0 15 M) (fun II58 eII58 =>
          fl_rt rfl (fun _ => rfl) (by subst eII58; unfold v_36 m_36; first | (simp only [if_neg h1, if_pos h2, if_pos h3, if_pos h4, if_neg h5, if_neg h6, if_neg h7, if_neg h8]; done) | rfl))))))) (fun h4 =>
     fl_td (s' := (38, [.ref 0, .int i, .int kind], [.int 3, .ref 0], M, J)) (fl_n 2 rfl) <|
     fl_td (s' := (41, [.ref 0, .int i, .int kind], [.int (-3)], (fl_u (fl_u M 0 11 3) 80 3 ((M 80 3) + 1)), J)) (fl_cv (o := some (.int (-3))) rfl rfl rfl rfl (cc_2 M J 3) rfl) <|
     fl_rt rfl (fun _ => rfl) (by unfold v_36 m_36; first | (simp only [if_neg h1, if_pos h2, if_pos h3, if_neg h4]; done) | rfl))) (fun h3 =>
    fl_td (s' := (19, [.ref 0, .int i, .int kind], [.int (-1)], M, J)) (fl_n 1 rfl) <|
    fl_rt rfl (fun _ => rfl) (by unfold v_36 m_36; first | (simp only [if_neg h1, if_pos h2, if_neg h3]; done) | rfl))) (fun h2 =>
   fl_td (s' := (19, [.ref 0, .int i, .int kind], [.int (-1)], M, J)) (fl_n 1 rfl) <|
   fl_rt rfl (fun _ => rfl) (by unfold v_36 m_36; first | (simp only [if_neg h1, if_neg h2]; done) | rfl)))
