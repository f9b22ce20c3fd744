set_option maxRecDepth 8000 in
theorem cc_134 (M : fl_M) (J : fl_J) (b i : Int32) : fl_C 134 [.ref 81, .int b, .int i] M J (some (.int ((lr_134_9 b i (-9) 0 M).1)), M, J) :=
 fl_Co (B := fB134) rfl rfl <|
 fl_td (s' := (9, [.ref 81, .int b, .int i, .int (-9), .int 0, .int 0, .null, .null, .null], [], M, J)) (fl_n 6 rfl) <|
 lp_134_9 b i (-9) 0 .null .null .null M J (fun u1 u2 u3 u4 =>
  fx_gen (p := fun (II5 : Int32) => fl_dn fB134 (164, [.ref 81, .int b, .int i, .int II5, .int ((lr_134_9 b i (-9) 0 M).2), u1, u2, u3, u4], [], M, J) (some (.int ((lr_134_9 b i (-9) 0 M).1)), M, J)) ((lr_134_9 b i (-9) 0 M).1) (fun II5 eII5 =>
   fx_gen (p := fun (II6 : Int32) => fl_dn fB134 (164, [.ref 81, .int b, .int i, .int II5, .int II6, u1, u2, u3, u4], [], M, J) (some (.int ((lr_134_9 b i (-9) 0 M).1)), M, J)) ((lr_134_9 b i (-9) 0 M).2) (fun II6 eII6 =>
    fl_td (s' := (165, [.ref 81, .int b, .int i, .int II5, .int II6, u1, u2, u3, u4], [.int II5], M, J)) (fl_n 1 rfl) <|
    fl_rt rfl (fun _ => rfl) (by subst eII5; subst eII6; rfl))))
def fB150 : sm_P := (fun pc => sm_ch sm_t150 pc, sm_Kn 3 7 none, fun x => sm_lk sm_ca3 x, some .int)
-- MiceRegistersModel.passes 5
def ls_150_5 (i1 i2 : Int32) (m : Nat) (q : (Int32 × fl_M)) : (Int32 × fl_M) := (if ((i2 >>> ((Int32.ofNat m) &&& 31)) &&& 1) = 1 then (q.1, q.2) else (if ((lr_134_9 i1 (Int32.ofNat m) (-9) 0 q.2).1) = (-9) then (q.1, q.2) else (if (v_142 (Int32.ofNat m) q.2) < (q.2 82 (((i1 + 4) + ((lr_134_9 i1 (Int32.ofNat m) (-9) 0 q.2).1)).toNatClampNeg)) then ((q.1 + (v_142 (Int32.ofNat m) q.2)), (fl_u (fl_u q.2 82 (((i1 + 4) + ((lr_134_9 i1 (Int32.ofNat m) (-9) 0 q.2).1)).toNatClampNeg) ((q.2 82 (((i1 + 4) + ((lr_134_9 i1 (Int32.ofNat m) (-9) 0 q.2).1)).toNatClampNeg)) - (v_142 (Int32.ofNat m) q.2))) 82 (((i1 + 20) + (Int32.ofNat m)).toNatClampNeg) ((lr_134_9 i1 (Int32.ofNat m) (-9) 0 q.2).1))) else ((q.1 + (q.2 82 (((i1 + 4) + ((lr_134_9 i1 (Int32.ofNat m) (-9) 0 q.2).1)).toNatClampNeg))), (fl_u (fl_u q.2 82 (((i1 + 4) + ((lr_134_9 i1 (Int32.ofNat m) (-9) 0 q.2).1)).toNatClampNeg) ((q.2 82 (((i1 + 4) + ((lr_134_9 i1 (Int32.ofNat m) (-9) 0 q.2).1)).toNatClampNeg)) - (q.2 82 (((i1 + 4) + ((lr_134_9 i1 (Int32.ofNat m) (-9) 0 q.2).1)).toNatClampNeg)))) 82 (((i1 + 20) + (Int32.ofNat m)).toNatClampNeg) ((lr_134_9 i1 (Int32.ofNat m) (-9) 0 q.2).1))))))
def lq_150_5 (i1 i2 i3 : Int32) (M : fl_M) (m : Nat) : (Int32 × fl_M) := fx_it (ls_150_5 i1 i2) m (i3, M)
theorem lqs_150_5 (i1 i2 i3 : Int32) (M : fl_M) (m : Nat) : lq_150_5 i1 i2 i3 M (m + 1) = (ls_150_5 i1 i2) m (lq_150_5 i1 i2 i3 M m) := by
  unfold lq_150_5
  exact fx_it_s _ _ _
def lr_150_5 (i1 i2 i3 : Int32) (M : fl_M) : (Int32 × fl_M) := (lq_150_5 i1 i2 i3 M (((M 81 4)).toNatClampNeg))
set_option maxRecDepth 8000 in
theorem ts_150_5 {r : fl_Q} (i1 i2 i3 i4 : Int32) (u5 u6 : Value) (M : fl_M) (J : fl_J) (q1 : (i4 < (M 81 4)) → (((i2 >>> (i4 &&& 31)) &&& 1) = 1) → fl_dn fB150 (5, [.ref 81, .int i1, .int i2, .int i3, .int (i4 + 1), .int (-9), u6], [], M, J) r) (q2 : (i4 < (M 81 4)) → (¬ (((i2 >>> (i4 &&& 31)) &&& 1) = 1)) → (((lr_134_9 i1 i4 (-9) 0 M).1) = (-9)) → fl_dn fB150 (5, [.ref 81, .int i1, .int i2, .int i3, .int (i4 + 1), .int ((lr_134_9 i1 i4 (-9) 0 M).1), u6], [], M, J) r) (q3 : (i4 < (M 81 4)) → (¬ (((i2 >>> (i4 &&& 31)) &&& 1) = 1)) → (¬ (((lr_134_9 i1 i4 (-9) 0 M).1) = (-9))) → ((v_142 i4 M) < (M 82 (((i1 + 4) + ((lr_134_9 i1 i4 (-9) 0 M).1)).toNatClampNeg))) → fl_dn fB150 (5, [.ref 81, .int i1, .int i2, .int (i3 + (v_142 i4 M)), .int (i4 + 1), .int ((lr_134_9 i1 i4 (-9) 0 M).1), .int (v_142 i4 M)], [], (fl_u (fl_u M 82 (((i1 + 4) + ((lr_134_9 i1 i4 (-9) 0 M).1)).toNatClampNeg) ((M 82 (((i1 + 4) + ((lr_134_9 i1 i4 (-9) 0 M).1)).toNatClampNeg)) - (v_142 i4 M))) 82 (((i1 + 20) + i4).toNatClampNeg) ((lr_134_9 i1 i4 (-9) 0 M).1)), J) r) (q4 : (i4 < (M 81 4)) → (¬ (((i2 >>> (i4 &&& 31)) &&& 1) = 1)) → (¬ (((lr_134_9 i1 i4 (-9) 0 M).1) = (-9))) → (¬ ((v_142 i4 M) < (M 82 (((i1 + 4) + ((lr_134_9 i1 i4 (-9) 0 M).1)).toNatClampNeg)))) → fl_dn fB150 (5, [.ref 81, .int i1, .int i2, .int (i3 + (M 82 (((i1 + 4) + ((lr_134_9 i1 i4 (-9) 0 M).1)).toNatClampNeg))), .int (i4 + 1), .int ((lr_134_9 i1 i4 (-9) 0 M).1), .int (M 82 (((i1 + 4) + ((lr_134_9 i1 i4 (-9) 0 M).1)).toNatClampNeg))], [], (fl_u (fl_u M 82 (((i1 + 4) + ((lr_134_9 i1 i4 (-9) 0 M).1)).toNatClampNeg) ((M 82 (((i1 + 4) + ((lr_134_9 i1 i4 (-9) 0 M).1)).toNatClampNeg)) - (M 82 (((i1 + 4) + ((lr_134_9 i1 i4 (-9) 0 M).1)).toNatClampNeg)))) 82 (((i1 + 20) + i4).toNatClampNeg) ((lr_134_9 i1 i4 (-9) 0 M).1)), J) r) (q5 : (¬ (i4 < (M 81 4))) → fl_dn fB150 (127, [.ref 81, .int i1, .int i2, .int i3, .int i4, u5, u6], [], M, J) r) : fl_dn fB150 (5, [.ref 81, .int i1, .int i2, .int i3, .int i4, u5, u6], [], M, J) r :=
 fl_td (s' := (11, [.ref 81, .int i1, .int i2, .int i3, .int i4, u5, u6], [.int (M 81 4), .int i4], M, J)) (fl_n 3 rfl) <|
 fl_dnot (fl_ic (t := 127) rfl rfl) fl_nlt (fun h1 =>
  fl_td (s' := (17, [.ref 81, .int i1, .int i2, .int i3, .int i4, u5, u6], [.int i4, .int i2], M, J)) (fl_n 2 rfl) <|
  fl_td (s' := (20, [.ref 81, .int i1, .int i2, .int i3, .int i4, u5, u6], [.int (if ((i2 >>> (i4 &&& 31)) &&& 1) = 1 then 1 else 0)], M, J)) (fl_cs (o := some (.int (if ((i2 >>> (i4 &&& 31)) &&& 1) = 1 then 1 else 0))) rfl rfl rfl (cc_135 M J i2 i4) rfl) <|
  fl_dnot (fl_if (t := 28) rfl rfl) fl_b0 (fun h2 =>
   fl_td (s' := (5, [.ref 81, .int i1, .int i2, .int i3, .int (i4 + 1), .int (-9), u6], [], M, J)) (fl_n 8 rfl) <|
   (q1 h1 h2)) (fun h2 =>
   fl_td (s' := (32, [.ref 81, .int i1, .int i2, .int i3, .int i4, u5, u6], [.int i4, .int i1, .ref 81], M, J)) (fl_n 3 rfl) <|
   fl_td (s' := (35, [.ref 81, .int i1, .int i2, .int i3, .int i4, u5, u6], [.int ((lr_134_9 i1 i4 (-9) 0 M).1)], M, J)) (fl_cv (o := some (.int ((lr_134_9 i1 i4 (-9) 0 M).1))) rfl rfl rfl rfl (cc_134 M J i1 i4) rfl) <|
   fx_gen (p := fun (II7 : Int32) => fl_dn fB150 (35, [.ref 81, .int i1, .int i2, .int i3, .int i4, u5, u6], [.int II7], M, J) r) ((lr_134_9 i1 i4 (-9) 0 M).1) (fun II7 eII7 =>
    fl_td (s' := (41, [.ref 81, .int i1, .int i2, .int i3, .int i4, .int II7, u6], [.int (-9), .int II7], M, J)) (fl_n 3 rfl) <|
    fl_dtwo (fl_ic (t := 121) rfl rfl) fl_cT (fun h3 =>
     fl_td (s' := (5, [.ref 81, .int i1, .int i2, .int i3, .int (i4 + 1), .int II7, u6], [], M, J)) (fl_n 2 rfl) <|
     (by subst eII7; exact (q2 h1 h2 h3))) (fun h3 =>
     fl_td (s' := (47, [.ref 81, .int i1, .int i2, .int i3, .int i4, .int II7, u6], [.int i4, .ref 81], M, J)) (fl_n 2 rfl) <|
     fl_td (s' := (50, [.ref 81, .int i1, .int i2, .int i3, .int i4, .int II7, u6], [.int (v_142 i4 M)], M, J)) (fl_cv (o := some (.int (v_142 i4 M))) rfl rfl rfl rfl (cc_142 M J i4) rfl) <|
     fl_td (s' := (61, [.ref 81, .int i1, .int i2, .int i3, .int i4, .int II7, u6], [.int (M 82 (((i1 + 4) + II7).toNatClampNeg)), .int (v_142 i4 M)], M, J)) (fl_n 8 rfl) <|
     fl_dnot (fl_ic (t := 73) rfl rfl) fl_nlt (fun h4 =>
      fl_td (s' := (67, [.ref 81, .int i1, .int i2, .int i3, .int i4, .int II7, u6], [.int i4, .ref 81], M, J)) (fl_n 2 rfl) <|
      fl_td (s' := (70, [.ref 81, .int i1, .int i2, .int i3, .int i4, .int II7, u6], [.int (v_142 i4 M)], M, J)) (fl_cv (o := some (.int (v_142 i4 M))) rfl rfl rfl rfl (cc_142 M J i4) rfl) <|
      fl_td (s' := (5, [.ref 81, .int i1, .int i2, .int (i3 + (v_142 i4 M)), .int (i4 + 1), .int II7, .int (v_142 i4 M)], [], (fl_u (fl_u M 82 (((i1 + 4) + II7).toNatClampNeg) ((M 82 (((i1 + 4) + II7).toNatClampNeg)) - (v_142 i4 M))) 82 (((i1 + 20) + i4).toNatClampNeg) II7), J)) (fl_n 29 rfl) <|
      (by subst eII7; exact (q3 h1 h2 h3 h4))) (fun h4 =>
      fl_td (s' := (5, [.ref 81, .int i1, .int i2, .int (i3 + (M 82 (((i1 + 4) + II7).toNatClampNeg))), .int (i4 + 1), .int II7, .int (M 82 (((i1 + 4) + II7).toNatClampNeg))], [], (fl_u (fl_u M 82 (((i1 + 4) + II7).toNatClampNeg) ((M 82 (((i1 + 4) + II7).toNatClampNeg)) - (M 82 (((i1 + 4) + II7).toNatClampNeg)))) 82 (((i1 + 20) + i4).toNatClampNeg) II7), J)) (fl_n 36 rfl) <|
      (by subst eII7; exact (q4 h1 h2 h3 h4))))))) (fun h1 =>
  (q5 h1))
theorem lk_150_5 (i1 i2 i3 : Int32) (M : fl_M) (m : Nat) : (((lq_150_5 i1 i2 i3 M m).2) 81 4) = (M 81 4) := by
  induction m with
  | zero => rfl
  | succ m ih =>
    rw [← ih]
    rw [lqs_150_5]
    generalize lq_150_5 i1 i2 i3 M m = q
    unfold ls_150_5
    (repeat' split) <;> first | with_reducible rfl | (simp [fl_u]; done) | rfl
