set_option maxRecDepth 8000 in
theorem ts_187_32 {r : fl_Q} (i1 i6 : Int32) (l2 l4 : Int64) (u7 u8 : Value) (M : fl_M) (J : fl_J) (q1 : (i6 < ((1 : Int32) <<< ((M 81 4) &&& 31))) → fl_dn fB187 (32, [.ref 81, .int i1, .long (l2 + ((lr_185_5 i6 i1 1 M) * (lr_168_4 3776 0 (m_150 3776 i6 (lr_160_2 M))).toInt64)), .null, .long (l4 + (lr_185_5 i6 i1 1 M)), .null, .int (i6 + 1), .long (lr_185_5 i6 i1 1 M), u8], [], (m_150 3776 i6 (lr_160_2 M)), J) r) (q2 : (¬ (i6 < ((1 : Int32) <<< ((M 81 4) &&& 31)))) → fl_dn fB187 (93, [.ref 81, .int i1, .long l2, .null, .long l4, .null, .int i6, u7, u8], [], M, J) r) : fl_dn fB187 (32, [.ref 81, .int i1, .long l2, .null, .long l4, .null, .int i6, u7, u8], [], M, J) r :=
 fl_td (s' := (40, [.ref 81, .int i1, .long l2, .null, .long l4, .null, .int i6, u7, u8], [.int ((1 : Int32) <<< ((M 81 4) &&& 31)), .int i6], M, J)) (fl_n 5 rfl) <|
 fl_dnot (fl_ic (t := 93) rfl rfl) fl_nlt (fun h1 =>
  fl_td (s' := (47, [.ref 81, .int i1, .long l2, .null, .long l4, .null, .int i6, u7, u8], [.int i1, .int i6, .ref 81], M, J)) (fl_n 3 rfl) <|
  fl_td (s' := (50, [.ref 81, .int i1, .long l2, .null, .long l4, .null, .int i6, u7, u8], [.long (lr_185_5 i6 i1 1 M)], M, J)) (fl_cv (o := some (.long (lr_185_5 i6 i1 1 M))) rfl rfl rfl rfl (cc_185 M J i6 i1) rfl) <|
  fx_gen (p := fun (LL172 : Int64) => fl_dn fB187 (50, [.ref 81, .int i1, .long l2, .null, .long l4, .null, .int i6, u7, u8], [.long LL172], M, J) r) (lr_185_5 i6 i1 1 M) (fun LL172 eLL172 =>
   fl_td (s' := (53, [.ref 81, .int i1, .long l2, .null, .long l4, .null, .int i6, .long LL172, u8], [.ref 81], M, J)) (fl_n 2 rfl) <|
   fl_td (s' := (56, [.ref 81, .int i1, .long l2, .null, .long l4, .null, .int i6, .long LL172, u8], [], (lr_160_2 M), J)) (fl_cv (o := none) rfl rfl rfl rfl (cc_160 M J) rfl) <|
   fx_gen (p := fun (MM173 : fl_M) => fl_dn fB187 (56, [.ref 81, .int i1, .long l2, .null, .long l4, .null, .int i6, .long LL172, u8], [], MM173, J) r) (lr_160_2 M) (fun MM173 eMM173 =>
    fl_td (s' := (62, [.ref 81, .int i1, .long l2, .null, .long l4, .null, .int i6, .long LL172, u8], [.int i6, .int 3776, .ref 81], MM173, J)) (fl_n 3 rfl) <|
    fl_td (s' := (65, [.ref 81, .int i1, .long l2, .null, .long l4, .null, .int i6, .long LL172, u8], [.int ((lr_150_5 3776 i6 0 MM173).1)], (m_150 3776 i6 MM173), J)) (fl_cv (o := some (.int ((lr_150_5 3776 i6 0 MM173).1))) rfl rfl rfl rfl (cc_150 MM173 J 3776 i6) rfl) <|
    fx_gen (p := fun (MM174 : fl_M) => fl_dn fB187 (65, [.ref 81, .int i1, .long l2, .null, .long l4, .null, .int i6, .long LL172, u8], [.int ((lr_150_5 3776 i6 0 MM173).1)], MM174, J) r) (m_150 3776 i6 MM173) (fun MM174 eMM174 =>
     fx_gen (p := fun (II175 : Int32) => fl_dn fB187 (65, [.ref 81, .int i1, .long l2, .null, .long l4, .null, .int i6, .long LL172, u8], [.int II175], MM174, J) r) ((lr_150_5 3776 i6 0 MM173).1) (fun II175 eII175 =>
      fl_td (s' := (73, [.ref 81, .int i1, .long l2, .null, .long l4, .null, .int i6, .long LL172, u8], [.int 3776, .ref 81, .long LL172, .long l2], MM174, J)) (fl_n 5 rfl) <|
      fl_td (s' := (76, [.ref 81, .int i1, .long l2, .null, .long l4, .null, .int i6, .long LL172, u8], [.int (lr_168_4 3776 0 MM174), .long LL172, .long l2], MM174, J)) (fl_cv (o := some (.int (lr_168_4 3776 0 MM174))) rfl rfl rfl rfl (cc_168 MM174 J 3776) rfl) <|
      fx_gen (p := fun (II176 : Int32) => fl_dn fB187 (76, [.ref 81, .int i1, .long l2, .null, .long l4, .null, .int i6, .long LL172, u8], [.int II176, .long LL172, .long l2], MM174, J) r) (lr_168_4 3776 0 MM174) (fun II176 eII176 =>
       fl_td (s' := (32, [.ref 81, .int i1, .long (l2 + (LL172 * II176.toInt64)), .null, .long (l4 + LL172), .null, .int (i6 + 1), .long LL172, u8], [], MM174, J)) (fl_n 10 rfl) <|
       (by subst eLL172; subst eMM173; subst eMM174; subst eII175; subst eII176; exact (q1 h1)))))))) (fun h1 =>
  (q2 h1))
theorem lk_187_32 (i1 : Int32) (l2 l4 : Int64) (M : fl_M) (m : Nat) : ((1 : Int32) <<< ((((lq_187_32 i1 l2 l4 M m).2.2) 81 4) &&& 31)) = ((1 : Int32) <<< ((M 81 4) &&& 31)) := by
  induction m with
  | zero => rfl
  | succ m ih =>
    rw [← ih]
    rw [lqs_187_32]
    generalize lq_187_32 i1 l2 l4 M m = q
    unfold ls_187_32
    (repeat' split) <;> first | with_reducible rfl | (simp [fl_u, fw_150_5, fw_150_130, fw_150, fw_149, fw_156, fw_160, fw_161, fw_166, fw_171]; done) | rfl
theorem lp_187_32 {r : fl_Q} (i1 : Int32) (l2 l4 : Int64) (u7 u8 : Value) (M : fl_M) (J : fl_J) (hx : ∀ w6 w7 : Value, fl_dn fB187 (93, [.ref 81, .int i1, .long ((lr_187_32 i1 l2 l4 M).1), .null, .long ((lr_187_32 i1 l2 l4 M).2.1), .null, w6, w7, u8], [], ((lr_187_32 i1 l2 l4 M).2.2), J) r) : fl_dn fB187 (32, [.ref 81, .int i1, .long l2, .null, .long l4, .null, .int 0, u7, u8], [], M, J) r := by
  have hb := fi_bd ((1 : Int32) <<< ((M 81 4) &&& 31))
  have hB := fun m => lk_187_32 i1 l2 l4 M m
  have key : ∀ (n m : Nat) (w7 : Value), m + n = (((1 : Int32) <<< ((M 81 4) &&& 31))).toNatClampNeg → fl_dn fB187 (32, [.ref 81, .int i1, .long ((lq_187_32 i1 l2 l4 M m).1), .null, .long ((lq_187_32 i1 l2 l4 M m).2.1), .null, .int (Int32.ofNat m), w7, u8], [], ((lq_187_32 i1 l2 l4 M m).2.2), J) r := by
    intro n
    induction n with
    | zero =>
      intro m w7 hm
      have hm : m = (((1 : Int32) <<< ((M 81 4) &&& 31))).toNatClampNeg := by omega
      have hn : ¬ ((Int32.ofNat m) < ((1 : Int32) <<< ((((lq_187_32 i1 l2 l4 M m).2.2) 81 4) &&& 31))) := fun z => by rw [hB m] at z; have z := (fi_lt (by omega)).mp z; omega
      exact ts_187_32 i1 (Int32.ofNat m) ((lq_187_32 i1 l2 l4 M m).1) ((lq_187_32 i1 l2 l4 M m).2.1) w7 u8 ((lq_187_32 i1 l2 l4 M m).2.2) J (fun h1 => absurd h1 hn) (fun h1 => (by have e : lr_187_32 i1 l2 l4 M = lq_187_32 i1 l2 l4 M m := (by show lq_187_32 i1 l2 l4 M ((((1 : Int32) <<< ((M 81 4) &&& 31))).toNatClampNeg) = _; rw [← hm]); rw [e] at hx; exact hx _ _))
    | succ n ih =>
      intro m w7 hm
      have hp : (Int32.ofNat m) < ((1 : Int32) <<< ((((lq_187_32 i1 l2 l4 M m).2.2) 81 4) &&& 31)) := by rw [hB m]; exact (fi_lt (by omega)).mpr (by omega)
      refine ts_187_32 i1 (Int32.ofNat m) ((lq_187_32 i1 l2 l4 M m).1) ((lq_187_32 i1 l2 l4 M m).2.1) w7 u8 ((lq_187_32 i1 l2 l4 M m).2.2) J (fun h1 => ?_) (fun h1 => absurd hp h1)
      · have e : lq_187_32 i1 l2 l4 M (m + 1) = ((((lq_187_32 i1 l2 l4 M m).1) + ((lr_185_5 (Int32.ofNat m) i1 1 ((lq_187_32 i1 l2 l4 M m).2.2)) * (lr_168_4 3776 0 (m_150 3776 (Int32.ofNat m) (lr_160_2 ((lq_187_32 i1 l2 l4 M m).2.2)))).toInt64)), (((lq_187_32 i1 l2 l4 M m).2.1) + (lr_185_5 (Int32.ofNat m) i1 1 ((lq_187_32 i1 l2 l4 M m).2.2))), (m_150 3776 (Int32.ofNat m) (lr_160_2 ((lq_187_32 i1 l2 l4 M m).2.2)))) := by
          rw [lqs_187_32]
          unfold ls_187_32
          rfl
        have q := ih (m + 1) (.long (lr_185_5 (Int32.ofNat m) i1 1 ((lq_187_32 i1 l2 l4 M m).2.2))) (by omega)
        rw [e] at q
        first | (rw [fi_s]; exact q) | (rw [← fi_s] at q; exact q) | (simp only [fi_s] at q ⊢; exact q)
  exact key ((((1 : Int32) <<< ((M 81 4) &&& 31))).toNatClampNeg) 0 u7 (Nat.zero_add _)
def v_187 (p : Int32) (M : fl_M) : Int32 := (if (¬ (p < 0)) ∧ (¬ (12 < p)) then (if (M 81 4) = 0 then (-4) else 1) else (-1))
def m_187 (p : Int32) (M : fl_M) : fl_M := (if (¬ (p < 0)) ∧ (¬ (12 < p)) then (if (M 81 4) = 0 then M else ((lr_187_32 p 0 0 M).2.2)) else M)
def j_187 (p : Int32) (M : fl_M) (J : fl_J) : fl_J := (if (¬ (p < 0)) ∧ (¬ (12 < p)) then (if (M 81 4) = 0 then J else (fl_w (fl_w J 81 12 (((lr_187_32 p 0 0 M).1) / (eg ((lr_187_32 p 0 0 M).1) ((lr_187_32 p 0 0 M).2.1)))) 81 13 (((lr_187_32 p 0 0 M).2.1) / (eg ((lr_187_32 p 0 0 M).1) ((lr_187_32 p 0 0 M).2.1))))) else J)
set_option maxRecDepth 8000 in
theorem cc_187 (M : fl_M) (J : fl_J) (p : Int32) (g1 : (¬ (p < 0)) ∧ (¬ (12 < p)) → 0 ≤ ((lr_187_32 p 0 0 M).1).toInt) (g2 : (¬ (p < 0)) ∧ (¬ (12 < p)) → 0 ≤ ((lr_187_32 p 0 0 M).2.1).toInt) : fl_C 187 [.ref 81, .int p] M J (some (.int (v_187 p M)), (m_187 p M), (j_187 p M J)) :=
 fl_Co (B := fB187) rfl rfl <|
 fl_td (s' := (6, [.ref 81, .int p, .null, .null, .null, .null, .null, .null, .null], [.long 12, .long 0, .long p.toInt64], M, J)) (fl_n 4 rfl) <|
 fl_td (s' := (9, [.ref 81, .int p, .null, .null, .null, .null, .null, .null, .null], [.int (if (¬ (p < 0)) ∧ (¬ (12 < p)) then 1 else 0)], M, J)) (fl_cs (o := some (.int (if (¬ (p < 0)) ∧ (¬ (12 < p)) then 1 else 0))) rfl rfl rfl (cc_105i M J p 0 12) rfl) <|
 fl_dtwo (fl_if (t := 14) rfl rfl) fl_b1 (fun h1 =>
  fl_td (s' := (18, [.ref 81, .int p, .null, .null, .null, .null, .null, .null, .null], [.int (M 81 4)], M, J)) (fl_n 2 rfl) <|
  fl_dnot (fl_if (t := 24) rfl rfl) fl_cF (fun h2 =>
   fl_td (s' := (23, [.ref 81, .int p, .null, .null, .null, .null, .null, .null, .null], [.int (-4)], M, J)) (fl_n 1 rfl) <|
   fl_rt rfl (fun _ => rfl) (by unfold v_187 m_187 j_187; first | (simp only [if_pos h1, if_pos h2]; done) | rfl)) (fun h2 =>
   fl_td (s' := (32, [.ref 81, .int p, .long 0, .null, .long 0, .null, .int 0, .null, .null], [], M, J)) (fl_n 6 rfl) <|
   lp_187_32 p 0 0 .null .null M J (fun u177 u178 =>
    fx_gen (p := fun (MM179 : fl_M) => fl_dn fB187 (93, [.ref 81, .int p, .long ((lr_187_32 p 0 0 M).1), .null, .long ((lr_187_32 p 0 0 M).2.1), .null, u177, u178, .null], [], MM179, J) (some (.int (v_187 p M)), (m_187 p M), (j_187 p M J))) ((lr_187_32 p 0 0 M).2.2) (fun MM179 eMM179 =>
     fx_gen (p := fun (LL180 : Int64) => fl_dn fB187 (93, [.ref 81, .int p, .long LL180, .null, .long ((lr_187_32 p 0 0 M).2.1), .null, u177, u178, .null], [], MM179, J) (some (.int (v_187 p M)), (m_187 p M), (j_187 p M J))) ((lr_187_32 p 0 0 M).1) (fun LL180 eLL180 =>
      fx_gen (p := fun (LL181 : Int64) => fl_dn fB187 (93, [.ref 81, .int p, .long LL180, .null, .long LL181, .null, u177, u178, .null], [], MM179, J) (some (.int (v_187 p M)), (m_187 p M), (j_187 p M J))) ((lr_187_32 p 0 0 M).2.1) (fun LL181 eLL181 =>
       fl_td (s' := (97, [.ref 81, .int p, .long LL180, .null, .long LL181, .null, u177, u178, .null], [.long LL181, .long LL180, .ref 81], MM179, J)) (fl_n 3 rfl) <|
       fl_td (s' := (100, [.ref 81, .int p, .long LL180, .null, .long LL181, .null, u177, u178, .null], [], MM179, (fl_w (fl_w J 81 12 (LL180 / (eg LL180 LL181))) 81 13 (LL181 / (eg LL180 LL181))))) (fl_cv (o := none) rfl rfl rfl rfl (cc_186 MM179 J LL180 LL181 (by first | exact g1 (by assumption) | (subst_vars; exact g1 (by assumption))) (by first | exact g2 (by assumption) | (subst_vars; exact g2 (by assumption)))) rfl) <|
       fl_td (s' := (101, [.ref 81, .int p, .long LL180, .null, .long LL181, .null, u177, u178, .null], [.int 1], MM179, (fl_w (fl_w J 81 12 (LL180 / (eg LL180 LL181))) 81 13 (LL181 / (eg LL180 LL181))))) (fl_n 1 rfl) <|
       fl_rt rfl (fun _ => rfl) (by subst eMM179; subst eLL180; subst eLL181; unfold v_187 m_187 j_187; first | (simp only [if_pos h1, if_neg h2]; done) | rfl))))))) (fun h1 =>
  fl_td (s' := (13, [.ref 81, .int p, .null, .null, .null, .null, .null, .null, .null], [.int (-1)], M, J)) (fl_n 1 rfl) <|
  fl_rt rfl (fun _ => rfl) (by unfold v_187 m_187 j_187; first | (simp only [if_neg h1]; done) | rfl))
theorem fl_qeq {x y : Int32} : sm_cmp .eq x y = true ↔ x = y := decide_eq_true_iff
theorem fl_qne {x y : Int32} : sm_cmp .ne x y = true ↔ ¬ x = y := decide_eq_true_iff
theorem fl_qlt {x y : Int32} : sm_cmp .lt x y = true ↔ x < y := decide_eq_true_iff
theorem fl_qge {x y : Int32} : sm_cmp .ge x y = true ↔ ¬ x < y := fl_nlt
theorem fl_qgt {x y : Int32} : sm_cmp .gt x y = true ↔ y < x := decide_eq_true_iff
theorem fl_qle {x y : Int32} : sm_cmp .le x y = true ↔ ¬ y < x := fl_nle
def fB180 : sm_P := (fun pc => sm_ch sm_t180 pc, sm_Kn 3 7 none, fun x => sm_lk sm_ca3 x, some .int)
